/-! items stay items -/
theorem ok67 : okI [67] := Or.inl ⟨67, by decide, rfl⟩
theorem mvR {x z y u : Int32} (hx : 1 ≤ x) (hxu : x ≤ u) (h : ¬ fX10_moved x z y u = 0) : 1 ≤ fX10_moved x z y u ∧ fX10_moved x z y u ≤ u := by
  unfold fX10_moved fX10_within at *
  generalize x + y = w at *
  grind
theorem ok_cp4 {m : Nat} (hm : m < 4) {dn al s r c : Int32} (hs : okS s) (hr : okR r) (hc : okC c) : okI (tcp4 dn al (nI (4 + 16 * m)) s r c) := by
  unfold tcp4
  split
  · exact ok67
  · split
    · exact ok67
    · rename_i h1 h2
      exact Or.inr (Or.inl ⟨m, s, _, _, hm, hs, mvR hr.1 hr.2 h1, mvR hc.1 hc.2 h2, rfl⟩)
theorem leT {a b : Int32} (h : ¬ a ≤ b) : b ≤ a := by
  rw [le_toInt] at h ⊢
  omega
theorem ok_cp6 {m : Nat} (hm : m < 48) {dn al s t l b r : Int32} (hs : okS s) (ht : okR t) (hl : okC l) (hb : okR b) (hr : okC r) (htb : t ≤ b) (hlr : l ≤ r) (hf1 : ¬ fX9_has (nI m) 16 = 0 → t = 1 ∧ b = 1048576) (hf2 : ¬ fX9_has (nI m) 32 = 0 → l = 1 ∧ r = 16384) : okI (tcp6 dn al (nI (5 + 16 * m)) s t l b r) := by
  obtain ⟨a1, a2, a3, a4⟩ := hd5 m hm
  unfold tcp6
  rw [a1]
  have g1 : ¬ fX9_has (nI m) 16 = 0 → fX10_moved t (zz (nI m) 16 2) dn 1048576 = 1 ∧ fX10_moved b (zz (nI m) 16 8) dn 1048576 = 1048576 := by
    intro q
    unfold zz
    rw [if_neg q, if_neg q, mv1, mv1]
    exact hf1 q
  have g2 : ¬ fX9_has (nI m) 32 = 0 → fX10_moved l (zz (nI m) 32 1) al 16384 = 1 ∧ fX10_moved r (zz (nI m) 32 4) al 16384 = 16384 := by
    intro q
    unfold zz
    rw [if_neg q, if_neg q, mv1, mv1]
    exact hf2 q
  have k1 := @mvR t (zz (nI m) 16 2) dn 1048576 ht.1 ht.2
  have k2 := @mvR b (zz (nI m) 16 8) dn 1048576 hb.1 hb.2
  have k3 := @mvR l (zz (nI m) 32 1) al 16384 hl.1 hl.2
  have k4 := @mvR r (zz (nI m) 32 4) al 16384 hr.1 hr.2
  generalize fX10_moved t (zz (nI m) 16 2) dn 1048576 = t1 at *
  generalize fX10_moved b (zz (nI m) 16 8) dn 1048576 = b1 at *
  generalize fX10_moved l (zz (nI m) 32 1) al 16384 = l1 at *
  generalize fX10_moved r (zz (nI m) 32 4) al 16384 = r1 at *
  by_cases h1 : t1 = 0
  · rw [if_pos h1]; exact ok67
  by_cases h2 : b1 = 0
  · rw [if_neg h1, if_pos h2]; exact ok67
  by_cases h3 : l1 = 0
  · rw [if_neg h1, if_neg h2, if_pos h3]; exact ok67
  by_cases h4 : r1 = 0
  · rw [if_neg h1, if_neg h2, if_neg h3, if_pos h4]; exact ok67
  rw [if_neg h1, if_neg h2, if_neg h3, if_neg h4]
  have k1 := k1 h1
  have k2 := k2 h2
  have k3 := k3 h3
  have k4 := k4 h4
  by_cases o1 : t1 ≤ b1 <;> by_cases o2 : l1 ≤ r1
  · obtain ⟨y1, y2, y3, y4⟩ := hdY m hm false false
    simp only [if_true] at y2
    simp only [if_pos o1, if_pos o2, y2]
    exact Or.inr (Or.inr ⟨_, s, _, _, _, _, y1, hs, k1, k3, k2, k4, o1, o2, fun q => g1 (by rw [← y3]; exact q), fun q => g2 (by rw [← y4]; exact q), rfl⟩)
  · obtain ⟨y1, y2, y3, y4⟩ := hdY m hm false true
    simp only [if_true, Bool.true_eq_false, if_false] at y2
    simp only [if_pos o1, if_neg o2, y2]
    exact Or.inr (Or.inr ⟨_, s, _, _, _, _, y1, hs, k1, k4, k2, k3, o1, leT o2, fun q => g1 (by rw [← y3]; exact q), fun q => by have := g2 (by rw [← y4]; exact q); exact absurd (by rw [this.1, this.2]; decide) o2, rfl⟩)
  · obtain ⟨y1, y2, y3, y4⟩ := hdY m hm true false
    simp only [if_true, Bool.true_eq_false, if_false] at y2
    simp only [if_neg o1, if_pos o2, y2]
    exact Or.inr (Or.inr ⟨_, s, _, _, _, _, y1, hs, k2, k3, k1, k4, leT o1, o2, fun q => by have := g1 (by rw [← y3]; exact q); exact absurd (by rw [this.1, this.2]; decide) o1, fun q => g2 (by rw [← y4]; exact q), rfl⟩)
  · obtain ⟨y1, y2, y3, y4⟩ := hdY m hm true true
    simp only [Bool.true_eq_false, if_false] at y2
    simp only [if_neg o1, if_neg o2, y2]
    exact Or.inr (Or.inr ⟨_, s, _, _, _, _, y1, hs, k2, k4, k1, k3, leT o1, leT o2, fun q => by have := g1 (by rw [← y3]; exact q); exact absurd (by rw [this.1, this.2]; decide) o1, fun q => by have := g2 (by rw [← y4]; exact q); exact absurd (by rw [this.1, this.2]; decide) o2, rfl⟩)
/-- what the reference makes of a line, by n lines more or less -/
theorem shB (z ll x at_ n nn : Int32) (hz : ll = fX10_lines z) (h1 : 1 ≤ x) (h2 : x ≤ ll) (h3 : 1 ≤ at_) (h4 : at_ ≤ ll) (h5 : 1 ≤ n) (h6 : n ≤ 16384) (hn : nn = n ∨ nn = -n) (h : ¬ fX10_shifted x z at_ nn = 0) : 1 ≤ fX10_shifted x z at_ nn ∧ fX10_shifted x z at_ nn ≤ ll := by
  have hl : ll ≤ 1048576 ∧ 1 < ll := by rw [hz]; unfold fX10_lines; split <;> exact ⟨by decide, by decide⟩
  obtain ⟨p1, p2, p3, p4, p5, p6, p7, p8, p9, p10⟩ := cgF ll x at_ n hl.1 h1 h2 h3 h4 h5 h6
  have l1 : (1 : Int32).toInt = 1 := by decide
  have l2 : (16384 : Int32).toInt = 16384 := by decide
  have l3 : (1048576 : Int32).toInt = 1048576 := by decide
  have q1 : 1 ≤ x + n := by
    obtain ⟨a1, a2⟩ := bI h5 h6
    obtain ⟨a3, a4⟩ := bI h1 h2
    have a5 := le_toInt.mp hl.1
    rw [l1] at a1 a3
    rw [l2] at a2
    rw [l3] at a5
    rw [le_toInt, addI (by omega) (by omega), l1]
    omega
  unfold fX10_shifted at *
  rw [← hz] at *
  rcases hn with rfl | rfl
  · clear p1 p2 p3 p4 p5 p6 p7 p8 p9 hz
    generalize x + nn = w at *
    generalize at_ - nn = v at *
    grind
  · rw [p8, p9] at *
    clear p8 p9 hz h5 h6 q1
    generalize at_ + n = u at *
    generalize x - n = w at *
    grind
theorem gapB (z ll a e at_ n nn : Int32) (hz : ll = fX10_lines z) (h1 : 1 ≤ a) (h2 : a ≤ e) (h2' : e ≤ ll) (h3 : 1 ≤ at_) (h4 : at_ ≤ ll) (h5 : 1 ≤ n) (h6 : n ≤ 16384) (hn : nn = n ∨ nn = -n) (hf : ¬ fst6 z at_ nn a e = 0) (hl : ¬ lst6 z at_ nn a e = 0) : 1 ≤ fst6 z at_ nn a e ∧ fst6 z at_ nn a e ≤ lst6 z at_ nn a e ∧ lst6 z at_ nn a e ≤ ll := by
  have hL : ll ≤ 1048576 ∧ 1 < ll := by rw [hz]; unfold fX10_lines; split <;> exact ⟨by decide, by decide⟩
  have h7 : a ≤ ll := Int32.le_trans h2 h2'
  have h8 : 1 ≤ e := Int32.le_trans h1 h2
  obtain ⟨p1, p2, p3, p4, p5, p6, p7, p8, p9, p10⟩ := cgF ll a at_ n hL.1 h1 h7 h3 h4 h5 h6
  obtain ⟨-, r2, -, -, r5, -, -, -, r9, r10⟩ := cgF ll e at_ n hL.1 h8 h2' h3 h4 h5 h6
  have l1 : (1 : Int32).toInt = 1 := by decide
  have l2 : (16384 : Int32).toInt = 16384 := by decide
  have l3 : (1048576 : Int32).toInt = 1048576 := by decide
  have l0 : (0 : Int32).toInt = 0 := by decide
  obtain ⟨b1, b2⟩ := bI h5 h6
  have b3 := le_toInt.mp h1
  have b4 := le_toInt.mp h2
  have b5 := le_toInt.mp h2'
  have b6 := le_toInt.mp hL.1
  have b7 := le_toInt.mp h3
  rw [l1] at b1 b3 b7
  rw [l2] at b2
  rw [l3] at b6
  have e1 : (a + n).toInt = a.toInt + n.toInt := addI (by omega) (by omega)
  have e2 : (e + n).toInt = e.toInt + n.toInt := addI (by omega) (by omega)
  have e3 : (a - n).toInt = a.toInt - n.toInt := subI (by omega) (by omega)
  have e4 : (e - n).toInt = e.toInt - n.toInt := subI (by omega) (by omega)
  have q1 : 1 ≤ a + n := by rw [le_toInt, e1, l1]; omega
  have q2 : a + n ≤ e + n := by rw [le_toInt, e1, e2]; omega
  have q3 : a - n ≤ e - n := by rw [le_toInt, e3, e4]; omega
  have q4 : a ≤ e + n := by rw [le_toInt, e2]; omega
  have q5 : 0 ≤ n := by rw [le_toInt, l0]; omega
  have q6 : ¬ n ≤ 0 := fun q => by have q := le_toInt.mp q; rw [l0] at q; omega
  unfold fst6 at hf
  unfold lst6 at hl
  unfold fst6 lst6
  rw [← hz] at hf hl ⊢
  by_cases hall : (if a = 1 then (if e = ll then (1 : Int32) else 0) else 0) = 0
  · rw [if_pos hall] at hf hl ⊢
    rw [if_pos hall]
    unfold fX10_firstLeft fX10_shifted at hf
    unfold fX10_lastLeft fX10_shifted at hl
    unfold fX10_firstLeft fX10_lastLeft fX10_shifted
    rw [← hz] at hf hl ⊢
    rcases hn with rfl | rfl
    · simp only [if_neg q6, if_pos q5] at hf hl ⊢
      clear p1 p2 p3 p4 p5 p6 p7 p8 p9 r2 r5 r9 hz b1 b2 b3 b4 b5 b6 b7 e1 e2 e3 e4 l0 l1 l2 l3 hall q3 q5 q6
      generalize a + nn = u at *
      generalize e + nn = w at *
      generalize at_ - nn = v at *
      grind
    · simp only [if_neg p6, if_pos p7, p8, p9, r9] at hf hl ⊢
      clear p6 p7 p8 p9 r9 hz b1 b2 b3 b4 b5 b6 b7 e1 e2 e3 e4 l0 l1 l2 l3 hall q1 q2 q4 q5 q6 h5 h6
      generalize at_ + n = u at *
      generalize a - n = w at *
      generalize e - n = x at *
      generalize at_ - 1 = v at *
      grind
  · rw [if_neg hall, if_neg hall]
    exact ⟨h1, h2, h2'⟩
theorem ok_sh4 {m : Nat} (hm : m < 4) {hom si z at_ n nn s r c : Int32} (hs : okS s) (hr : okR r) (hc : okC c) (h3 : 1 ≤ at_) (h4 : at_ ≤ fX10_lines z) (h5 : 1 ≤ n) (h6 : n ≤ 16384) (hn : nn = n ∨ nn = -n) : okI (tsh4 hom si z at_ nn (nI (4 + 16 * m)) s r c) := by
  unfold tsh4
  split
  · by_cases hz : z = 0
    · simp only [if_pos hz]
      by_cases h1 : fX10_shifted r 0 at_ nn = 0
      · rw [if_pos h1]; exact ok67
      · rw [if_neg h1]
        split
        · exact ok67
        · exact Or.inr (Or.inl ⟨m, s, _, _, hm, hs, shB 0 1048576 r at_ n nn rfl hr.1 hr.2 h3 (by rw [hz] at h4; exact h4) h5 h6 hn h1, hc, rfl⟩)
    · simp only [if_neg hz]
      have e : fX10_lines z = 16384 := if_neg hz
      split
      · exact ok67
      · by_cases h1 : fX10_shifted c 1 at_ nn = 0
        · rw [if_pos h1]; exact ok67
        · rw [if_neg h1]
          exact Or.inr (Or.inl ⟨m, s, _, _, hm, hs, hr, shB 1 16384 c at_ n nn rfl hc.1 hc.2 h3 (by rw [e] at h4; exact h4) h5 h6 hn h1, rfl⟩)
  · exact Or.inr (Or.inl ⟨m, s, r, c, hm, hs, hr, hc, rfl⟩)
theorem all6 {z at_ nn a e : Int32} (h1 : a = 1) (h2 : e = fX10_lines z) : fst6 z at_ nn a e = a ∧ lst6 z at_ nn a e = e := by
  unfold fst6 lst6
  rw [if_pos h1, if_pos h2, if_neg (by decide), if_neg (by decide)]
  exact ⟨rfl, rfl⟩
theorem ok_sh6 {m : Nat} (hm : m < 48) {hom si z at_ n nn s t l b r : Int32} (hs : okS s) (ht : okR t) (hl : okC l) (hb : okR b) (hr : okC r) (htb : t ≤ b) (hlr : l ≤ r) (hf1 : ¬ fX9_has (nI m) 16 = 0 → t = 1 ∧ b = 1048576) (hf2 : ¬ fX9_has (nI m) 32 = 0 → l = 1 ∧ r = 16384) (h3 : 1 ≤ at_) (h4 : at_ ≤ fX10_lines z) (h5 : 1 ≤ n) (h6 : n ≤ 16384) (hn : nn = n ∨ nn = -n) : okI (tsh6 hom si z at_ nn (nI (5 + 16 * m)) s t l b r) := by
  obtain ⟨a1, a2, a3, a4⟩ := hd5 m hm
  unfold tsh6
  rw [a1, a3]
  split
  · by_cases hz : z = 0
    · simp only [if_pos hz]
      have e : fX10_lines z = 1048576 := if_pos hz
      by_cases h1 : fst6 z at_ nn t b = 0
      · rw [if_pos h1]; exact ok67
      by_cases h2 : lst6 z at_ nn t b = 0
      · rw [if_neg h1, if_pos h2]; exact ok67
      rw [if_neg h1, if_neg h2]
      obtain ⟨g1, g2, g3⟩ := gapB z 1048576 t b at_ n nn e.symm ht.1 htb hb.2 h3 (by rw [e] at h4; exact h4) h5 h6 hn h1 h2
      exact Or.inr (Or.inr ⟨m, s, _, _, _, _, hm, hs, ⟨g1, Int32.le_trans g2 g3⟩, hl, ⟨Int32.le_trans g1 g2, g3⟩, hr, g2, hlr, fun q => by obtain ⟨y1, y2⟩ := hf1 q; obtain ⟨x1, x2⟩ := @all6 z at_ nn t b y1 (y2.trans e.symm); rw [x1, x2]; exact ⟨y1, y2⟩, hf2, rfl⟩)
    · simp only [if_neg hz]
      have e : fX10_lines z = 16384 := if_neg hz
      by_cases h1 : fst6 z at_ nn l r = 0
      · rw [if_pos h1]; exact ok67
      by_cases h2 : lst6 z at_ nn l r = 0
      · rw [if_neg h1, if_pos h2]; exact ok67
      rw [if_neg h1, if_neg h2]
      obtain ⟨g1, g2, g3⟩ := gapB z 16384 l r at_ n nn e.symm hl.1 hlr hr.2 h3 (by rw [e] at h4; exact h4) h5 h6 hn h1 h2
      exact Or.inr (Or.inr ⟨m, s, _, _, _, _, hm, hs, ht, ⟨g1, Int32.le_trans g2 g3⟩, hb, ⟨Int32.le_trans g1 g2, g3⟩, htb, g2, hf1, fun q => by obtain ⟨y1, y2⟩ := hf2 q; obtain ⟨x1, x2⟩ := @all6 z at_ nn l r y1 (y2.trans e.symm); rw [x1, x2]; exact ⟨y1, y2⟩, rfl⟩)
  · exact Or.inr (Or.inr ⟨m, s, t, l, b, r, hm, hs, ht, hl, hb, hr, htb, hlr, hf1, hf2, rfl⟩)
