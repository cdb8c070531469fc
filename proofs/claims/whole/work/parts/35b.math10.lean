def RectOk (ct cl cb cr : Int32) : Prop := 1 ≤ ct ∧ ct ≤ cb ∧ cb ≤ 1048576 ∧ 1 ≤ cl ∧ cl ≤ cr ∧ cr ≤ 16384
def sheetOk (s : Int32) : Prop := 0 ≤ s ∧ s ≤ 7
theorem lit_I : (0 : Int32).toInt = 0 ∧ (1 : Int32).toInt = 1 ∧ (7 : Int32).toInt = 7 ∧ (-1 : Int32).toInt = -1 ∧ (16384 : Int32).toInt = 16384 ∧ (1048576 : Int32).toInt = 1048576 := by decide
theorem toldS {nh s to : Int32} (ht : sheetOk to) : okS (told nh s to) := by
  obtain ⟨i0, i1, i7, im, iC, iR⟩ := lit_I
  have h1 := le_toInt.mp ht.1
  have h : okS to := ⟨by rw [le_toInt, im]; rw [i0] at h1; omega, ht.2⟩
  unfold told
  split
  · exact h
  · split
    · exact ⟨Int32.le_refl _, by decide⟩
    · exact h
theorem onSok {hm s : Int32} (hs : okS s) (hh : sheetOk hm) : sheetOk (onS hm s) := by
  unfold onS
  split
  · rename_i h
    exact ⟨h, hs.2⟩
  · exact hh
theorem inn_le {cs ct cl cb cr o t l b r : Int32} (h : ¬ inn cs ct cl cb cr o t l b r = 0) : ct ≤ t ∧ b ≤ cb ∧ cl ≤ l ∧ r ≤ cr := by
  unfold inn at h
  by_cases h0 : o = cs
  · rw [if_pos h0] at h
    by_cases h1 : t < ct
    · rw [if_pos h1] at h; exact absurd rfl h
    rw [if_neg h1] at h
    by_cases h2 : cb < b
    · rw [if_pos h2] at h; exact absurd rfl h
    rw [if_neg h2] at h
    by_cases h3 : l < cl
    · rw [if_pos h3] at h; exact absurd rfl h
    rw [if_neg h3] at h
    by_cases h4 : cr < r
    · rw [if_pos h4] at h; exact absurd rfl h
    exact ⟨Int32.not_lt.mp h1, Int32.not_lt.mp h2, Int32.not_lt.mp h3, Int32.not_lt.mp h4⟩
  · rw [if_neg h0] at h; exact absurd rfl h
theorem mvB {M : Nat} {ll a e p q x : Int32} (hl : ll.toInt = M) (hM : M ≤ 1048576) (h1 : 1 ≤ p) (h2 : p ≤ q) (h3 : q ≤ ll) (h4 : 1 ≤ x) (h5 : x ≤ ll) (h6 : (x + q) - p ≤ ll) (h7 : p ≤ a) (h8 : a ≤ e) (h9 : e ≤ q) :
    1 ≤ a + (x - p) ∧ a + (x - p) ≤ e + (x - p) ∧ e + (x - p) ≤ ll ∧ (a = 1 ∧ e = ll → a + (x - p) = 1 ∧ e + (x - p) = ll) := by
  obtain ⟨i0, i1, i7, im, iC, iR⟩ := lit_I
  have b1 := le_toInt.mp h1
  have b2 := le_toInt.mp h2
  have b3 := le_toInt.mp h3
  have b4 := le_toInt.mp h4
  have b5 := le_toInt.mp h5
  have b6 := le_toInt.mp h6
  have b7 := le_toInt.mp h7
  have b8 := le_toInt.mp h8
  have b9 := le_toInt.mp h9
  rw [i1] at b1 b4
  have e0 : (x + q).toInt = x.toInt + q.toInt := addI (by omega) (by omega)
  have e1 : (x + q - p).toInt = x.toInt + q.toInt - p.toInt := by rw [subI (by omega) (by omega), e0]
  have e2 : (x - p).toInt = x.toInt - p.toInt := subI (by omega) (by omega)
  have e3 : (a + (x - p)).toInt = a.toInt + (x.toInt - p.toInt) := by rw [addI (by omega) (by omega), e2]
  have e4 : (e + (x - p)).toInt = e.toInt + (x.toInt - p.toInt) := by rw [addI (by omega) (by omega), e2]
  rw [e1] at b6
  refine ⟨?_, ?_, ?_, fun z => ⟨?_, ?_⟩⟩
  · rw [le_toInt, e3, i1]; omega
  · rw [le_toInt, e3, e4]; omega
  · rw [le_toInt, e4]; omega
  · have z1 := eq_toInt.mp z.1
    have z2 := eq_toInt.mp z.2
    rw [i1] at z1
    rw [eq_toInt, e3, i1]; omega
  · have z1 := eq_toInt.mp z.1
    have z2 := eq_toInt.mp z.2
    rw [i1] at z1
    rw [eq_toInt, e4]; omega
def MvOk (ct cl cb cr hm ts rw cw : Int32) : Prop := RectOk ct cl cb cr ∧ sheetOk hm ∧ sheetOk ts ∧ okR rw ∧ okC cw ∧ (rw + cb) - ct ≤ 1048576 ∧ (cw + cr) - cl ≤ 16384
theorem ok_mv4 {m : Nat} (hm4 : m < 4) {cs ct cl cb cr hm nh ts rw cw s r c : Int32} (hs : okS s) (hr : okR r) (hc : okC c) (hM : MvOk ct cl cb cr hm ts rw cw) : okI (tmv4 cs ct cl cb cr hm nh ts rw cw (nI (4 + 16 * m)) s r c) := by
  obtain ⟨⟨r1, r2, r3, r4, r5, r6⟩, m1, m2, m3, m4, m5, m6⟩ := hM
  unfold tmv4
  by_cases h1 : inn cs ct cl cb cr (onS hm s) r c r c = 0
  · rw [if_pos h1]
    split
    · exact Or.inr (Or.inl ⟨m, _, r, c, hm4, toldS (onSok hs m1), hr, hc, rfl⟩)
    · exact ok67
  · rw [if_neg h1]
    obtain ⟨k1, k2, k3, k4⟩ := inn_le h1
    obtain ⟨x1, x2, x3, -⟩ := mvB (M := 1048576) (by decide) (by decide) r1 r2 r3 m3.1 m3.2 m5 k1 (Int32.le_refl r) k2
    obtain ⟨y1, y2, y3, -⟩ := mvB (M := 16384) (by decide) (by decide) r4 r5 r6 m4.1 m4.2 m6 k3 (Int32.le_refl c) k4
    exact Or.inr (Or.inl ⟨m, _, _, _, hm4, toldS m2, ⟨x1, x3⟩, ⟨y1, y3⟩, rfl⟩)
theorem ok_mv6 {m : Nat} (hm6 : m < 48) {cs ct cl cb cr hm nh ts rw cw s t l b r : Int32} (hs : okS s) (ht : okR t) (hl : okC l) (hb : okR b) (hr : okC r) (htb : t ≤ b) (hlr : l ≤ r) (hf1 : ¬ fX9_has (nI m) 16 = 0 → t = 1 ∧ b = 1048576) (hf2 : ¬ fX9_has (nI m) 32 = 0 → l = 1 ∧ r = 16384) (hM : MvOk ct cl cb cr hm ts rw cw) : okI (tmv6 cs ct cl cb cr hm nh ts rw cw (nI (5 + 16 * m)) s t l b r) := by
  obtain ⟨⟨r1, r2, r3, r4, r5, r6⟩, m1, m2, m3, m4, m5, m6⟩ := hM
  obtain ⟨a1, a2, a3, a4⟩ := hd5 m hm6
  unfold tmv6
  rw [a1, a3]
  by_cases h1 : inn cs ct cl cb cr (onS hm s) t l b r = 0
  · rw [if_pos h1]
    split
    · exact Or.inr (Or.inr ⟨m, _, t, l, b, r, hm6, toldS (onSok hs m1), ht, hl, hb, hr, htb, hlr, hf1, hf2, rfl⟩)
    · exact ok67
  · rw [if_neg h1]
    obtain ⟨k1, k2, k3, k4⟩ := inn_le h1
    obtain ⟨x1, x2, x3, x4⟩ := mvB (M := 1048576) (by decide) (by decide) r1 r2 r3 m3.1 m3.2 m5 k1 htb k2
    obtain ⟨y1, y2, y3, y4⟩ := mvB (M := 16384) (by decide) (by decide) r4 r5 r6 m4.1 m4.2 m6 k3 hlr k4
    exact Or.inr (Or.inr ⟨m, _, _, _, _, _, hm6, toldS m2, ⟨x1, Int32.le_trans x2 x3⟩, ⟨y1, Int32.le_trans y2 y3⟩, ⟨Int32.le_trans x1 x2, x3⟩, ⟨Int32.le_trans y1 y2, y3⟩, x2, y2, fun q => x4 (hf1 q), fun q => y4 (hf2 q), rfl⟩)
/-! loops over the items -/
def outs (T : List Int32 → List Int32) (l : List (List Int32)) : List Int32 := (l.map T).flatten
def cnt (T : List Int32 → List Int32) : List (List Int32) → Int32
  | [] => 0
  | it :: l => dT it (T it) + cnt T l
theorem wr_app : ∀ (a b : List Int32) (f : Nat → Int32) (W : Nat), wr (wr f W a) (W + a.length) b = wr f W (a ++ b)
  | [], _, _, _ => rfl
  | x :: xs, b, f, W => by
    show wr (wr (upd f W x) (W + 1) xs) (W + (xs.length + 1)) b = wr (upd f W x) (W + 1) (xs ++ b)
    rw [← wr_app xs b (upd f W x) (W + 1), show W + (xs.length + 1) = W + 1 + xs.length by omega]
theorem gd_l {a b : List Int32} {i : Nat} (h : i < a.length) : (a ++ b).getD i 0 = a.getD i 0 := by
  rw [List.getD_eq_getElem?_getD, List.getD_eq_getElem?_getD, List.getElem?_append_left h]
theorem gd_r {a b : List Int32} {i : Nat} (h : a.length ≤ i) : (a ++ b).getD i 0 = b.getD (i - a.length) 0 := by
  rw [List.getD_eq_getElem?_getD, List.getD_eq_getElem?_getD, List.getElem?_append_right h]
theorem seg_l {f : Nat → Int32} {k : Nat} {a b : List Int32} (h : Seg f k (a ++ b)) : Seg f k a := fun i hi => by
  rw [h i (by rw [List.length_append]; omega), gd_l hi]
theorem seg_r {f : Nat → Int32} {k : Nat} {a b : List Int32} (h : Seg f k (a ++ b)) : Seg f (k + a.length) b := fun i hi => by
  have h9 := h (a.length + i) (by rw [List.length_append]; omega)
  rw [show k + a.length + i = k + (a.length + i) by omega, h9, gd_r (by omega)]
  congr 1
  omega
theorem seg_wr {f : Nat → Int32} {W k : Nat} {ws l : List Int32} (h : W + ws.length ≤ k) (hs : Seg f k l) : Seg (wr f W ws) k l := fun i hi => by
  rw [wr_hi ws f W (k + i) (by omega)]
  exact hs i hi
theorem seg_app {f : Nat → Int32} {k : Nat} {a b : List Int32} (h1 : Seg f k a) (h2 : Seg f (k + a.length) b) : Seg f k (a ++ b) := fun i hi => by
  by_cases h : i < a.length
  · rw [h1 i h, gd_l h]
  · have h9 := h2 (i - a.length) (by rw [List.length_append] at hi; omega)
    rw [show k + i = k + a.length + (i - a.length) by omega, h9, gd_r (by omega)]
theorem loopM (PW : Int32 → Int32 → Int32 → (Nat → Int32) → Prop) (T : List Int32 → List Int32) (f : Nat → Int32) (N : Nat)
    (step : ∀ (it : List Int32) (K W : Nat) (ch : Int32) (g : Nat → Int32), okI it → Seg f K it → K + it.length ≤ N → W ≤ K → PW (nI (K + it.length)) (nI (W + (T it).length)) (ch + dT it (T it)) (wr g W (T it)) → PW (nI K) (nI W) ch g) :
    ∀ (todo : List (List Int32)) (K W : Nat) (ch : Int32) (g : Nat → Int32), (∀ it ∈ todo, okI it ∧ (T it).length ≤ it.length) → Seg f K todo.flatten → K + todo.flatten.length = N → W ≤ K → PW (nI N) (nI (W + (outs T todo).length)) (ch + cnt T todo) (wr g W (outs T todo)) → PW (nI K) (nI W) ch g
  | [], K, W, ch, g, _, _, hK, _, h => by
    have e : K = N := by simpa using hK
    subst e
    have h : PW (nI K) (nI (W + 0)) (ch + 0) g := h
    rw [Nat.add_zero, Int32.add_zero] at h
    exact h
  | it :: l, K, W, ch, g, hok, hs, hK, hW, h => by
    have hs : Seg f K (it ++ l.flatten) := hs
    have hK : K + (it ++ l.flatten).length = N := hK
    rw [List.length_append] at hK
    obtain ⟨o1, o2⟩ := hok it List.mem_cons_self
    refine step it K W ch g o1 (seg_l hs) (by omega) hW ?_
    refine loopM PW T f N step l (K + it.length) (W + (T it).length) _ _ (fun x hx => hok x (List.mem_cons_of_mem _ hx)) (seg_r hs) (by omega) (by omega) ?_
    have e1 : outs T (it :: l) = T it ++ outs T l := rfl
    have e2 : cnt T (it :: l) = dT it (T it) + cnt T l := rfl
    rw [e1, e2, List.length_append] at h
    rw [wr_app, Int32.add_assoc, Nat.add_assoc]
    exact h
theorem loopC (PW : Int32 → Int32 → Int32 → (Nat → Int32) → Prop) (T : List Int32 → List Int32) (N : Nat)
    (step : ∀ (it : List Int32) (K W : Nat) (cg : Int32) (f : Nat → Int32), okI it → Seg f K it → K + it.length ≤ N → W ≤ K → PW (cg + dT it (T it)) (nI (W + (T it).length)) (nI (K + it.length)) (wr f W (T it)) → PW cg (nI W) (nI K) f) :
    ∀ (todo : List (List Int32)) (K W : Nat) (cg : Int32) (f : Nat → Int32), (∀ it ∈ todo, okI it ∧ (T it).length ≤ it.length) → Seg f K todo.flatten → K + todo.flatten.length = N → W ≤ K → PW (cg + cnt T todo) (nI (W + (outs T todo).length)) (nI N) (wr f W (outs T todo)) → PW cg (nI W) (nI K) f
  | [], K, W, cg, f, _, _, hK, _, h => by
    have e : K = N := by simpa using hK
    subst e
    have h : PW (cg + 0) (nI (W + 0)) (nI K) f := h
    rw [Nat.add_zero, Int32.add_zero] at h
    exact h
  | it :: l, K, W, cg, f, hok, hs, hK, hW, h => by
    have hs : Seg f K (it ++ l.flatten) := hs
    have hK : K + (it ++ l.flatten).length = N := hK
    rw [List.length_append] at hK
    obtain ⟨o1, o2⟩ := hok it List.mem_cons_self
    refine step it K W cg f o1 (seg_l hs) (by omega) hW ?_
    refine loopC PW T N step l (K + it.length) (W + (T it).length) _ _ (fun x hx => hok x (List.mem_cons_of_mem _ hx)) (seg_wr (by omega) (seg_r hs)) (by omega) (by omega) ?_
    have e1 : outs T (it :: l) = T it ++ outs T l := rfl
    have e2 : cnt T (it :: l) = dT it (T it) + cnt T l := rfl
    rw [e1, e2, List.length_append] at h
    rw [wr_app, Int32.add_assoc, Nat.add_assoc]
    exact h
