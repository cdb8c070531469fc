theorem on_seen (s hom : Int32) (hs : okS s) : fX7_sheetSeenFrom s hom = onS hom s := by
  have h1 := hs.1
  unfold fX7_sheetSeenFrom onS
  by_cases h : s = -1
  · rw [if_pos h, if_neg (by rw [h]; decide)]
  · rw [if_neg h, if_pos]
    have a := le_toInt.mp h1
    have e : (-1 : Int32).toInt = -1 := by decide
    have e0 : (0 : Int32).toInt = 0 := by decide
    have b : ¬ s.toInt = -1 := fun q => h (eq_toInt.mpr (q.trans e.symm))
    rw [e] at a
    rw [le_toInt, e0]
    omega
/-- a row or column of a place under a change of lines: G the class's, v the reference's -/
def Ln4 (G : Int32 × Int32 × Int32) (v : Int32) : Prop := (G.1 = 0 ↔ v = 0) ∧ (¬ v = 0 → G.2 = (v, v))
def Ln6 (G : Int32 × Int32 × Int32) (a e : Int32) : Prop := (G.1 = 0 ↔ (a = 0 ∨ e = 0)) ∧ (¬ a = 0 → ¬ e = 0 → G.2 = (a, e))
theorem k4_eq (hm si co at_ nn sh rl rf ra kl kf ka : Int32) : fX3_keeps_4 hm si co at_ nn sh rl rf ra kl kf ka = (if fX7_sheetSeenFrom sh hm = si then (if co = 0 then (if (fX8_openGap rl rf ra at_ nn).1 = 0 then (0, (fX8_openGap rl rf ra at_ nn).2.1, (fX8_openGap rl rf ra at_ nn).2.2, kf, ka) else (1, (fX8_openGap rl rf ra at_ nn).2.1, (fX8_openGap rl rf ra at_ nn).2.2, kf, ka)) else (if (fX8_openGap kl kf ka at_ nn).1 = 0 then (0, rf, ra, (fX8_openGap kl kf ka at_ nn).2.1, (fX8_openGap kl kf ka at_ nn).2.2) else (1, rf, ra, (fX8_openGap kl kf ka at_ nn).2.1, (fX8_openGap kl kf ka at_ nn).2.2))) else (1, rf, ra, kf, ka)) := rfl
theorem k5_eq (hm si co at_ nn sh rl rf ra kl kf ka : Int32) : fX3_keeps_5 hm si co at_ nn sh rl rf ra kl kf ka = (if fX7_sheetSeenFrom sh hm = si then (if co = 0 then (if (fX8_closeGap rl rf ra at_ nn).1 = 0 then (0, (fX8_closeGap rl rf ra at_ nn).2.1, (fX8_closeGap rl rf ra at_ nn).2.2, kf, ka) else (1, (fX8_closeGap rl rf ra at_ nn).2.1, (fX8_closeGap rl rf ra at_ nn).2.2, kf, ka)) else (if (fX8_closeGap kl kf ka at_ nn).1 = 0 then (0, rf, ra, (fX8_closeGap kl kf ka at_ nn).2.1, (fX8_closeGap kl kf ka at_ nn).2.2) else (1, rf, ra, (fX8_closeGap kl kf ka at_ nn).2.1, (fX8_closeGap kl kf ka at_ nn).2.2))) else (1, rf, ra, kf, ka)) := rfl
def kL (hm si co sh rf ra kf ka : Int32) (GR GC : Int32 × Int32 × Int32) : Int32 × Int32 × Int32 × Int32 × Int32 := (if fX7_sheetSeenFrom sh hm = si then (if co = 0 then (if GR.1 = 0 then (0, GR.2.1, GR.2.2, kf, ka) else (1, GR.2.1, GR.2.2, kf, ka)) else (if GC.1 = 0 then (0, rf, ra, GC.2.1, GC.2.2) else (1, rf, ra, GC.2.1, GC.2.2))) else (1, rf, ra, kf, ka))
theorem E_ln4 {m : Nat} (hm : m < 4) (hom si co at_ nn s r c : Int32) (hs : okS s) (hr : okR r) (hc : okC c) (GR GC : Int32 × Int32 × Int32) (h1 : co = 0 → Ln4 GR (fX10_shifted r 0 at_ nn)) (h2 : ¬ co = 0 → Ln4 GC (fX10_shifted c 1 at_ nn)) (P : Int32 × Int32 × Int32 × Int32 × Int32) (hP : kL hom si co s r r c c GR GC = P) :
    (if P.1 = 0 then [67] else [fX7_wordAt_0 0 (nI m &&& 48) (fX9_has (nI m) 2) (fX9_has (nI m) 2) (fX9_has (nI m) 1) (fX9_has (nI m) 1), s, P.2.1, P.2.2.2.1]) = tsh4 hom si co at_ nn (nI (4 + 16 * m)) s r c := by
  obtain ⟨a1, a2, a3, a4, a5, a6⟩ := hd4 m hm
  have w0 : fX7_wordAt_0 0 (nI m &&& 48) (fX9_has (nI m) 2) (fX9_has (nI m) 2) (fX9_has (nI m) 1) (fX9_has (nI m) 1) = nI (4 + 16 * m) := by
    unfold fX7_wordAt_0
    rw [if_pos rfl, a4]
  rw [w0]
  have e1 : ¬ r = 0 := fun q => by have := hr.1; rw [q] at this; exact absurd this (by decide)
  have e2 : ¬ c = 0 := fun q => by have := hc.1; rw [q] at this; exact absurd this (by decide)
  subst hP
  unfold kL tsh4
  rw [on_seen s hom hs]
  by_cases h0 : onS hom s = si
  · by_cases hz : co = 0
    · obtain ⟨g1, g2⟩ := h1 hz
      simp only [if_pos h0, if_pos hz]
      by_cases hv : fX10_shifted r 0 at_ nn = 0
      · simp only [if_pos (g1.mpr hv), if_pos hv, if_true]
      · have g3 : ¬ GR.1 = 0 := fun q => hv (g1.mp q)
        simp only [if_neg g3, if_neg hv, if_neg e2, g2 hv, if_neg (show ¬ (1 : Int32) = 0 by decide)]
    · obtain ⟨g1, g2⟩ := h2 hz
      simp only [if_pos h0, if_neg hz, if_neg e1]
      by_cases hv : fX10_shifted c 1 at_ nn = 0
      · simp only [if_pos (g1.mpr hv), if_pos hv, if_true]
      · have g3 : ¬ GC.1 = 0 := fun q => hv (g1.mp q)
        simp only [if_neg g3, if_neg hv, g2 hv, if_neg (show ¬ (1 : Int32) = 0 by decide)]
  · simp only [if_neg h0, if_neg (show ¬ (1 : Int32) = 0 by decide)]
theorem E_ln6 {m : Nat} (hm : m < 48) (hom si co at_ nn s t l b r : Int32) (hs : okS s) (GR GC : Int32 × Int32 × Int32) (h1 : co = 0 → Ln6 GR (fst6 co at_ nn t b) (lst6 co at_ nn t b)) (h2 : ¬ co = 0 → Ln6 GC (fst6 co at_ nn l r) (lst6 co at_ nn l r)) (P : Int32 × Int32 × Int32 × Int32 × Int32) (hP : kL hom si co s t b l r GR GC = P) :
    (if P.1 = 0 then [67] else [fX7_wordAt_0 1 (nI m &&& 48) (fX9_has (nI m) 2) (fX9_has (nI m / 4) 2) (fX9_has (nI m) 1) (fX9_has (nI m / 4) 1), s, P.2.1, P.2.2.2.1, P.2.2.1, P.2.2.2.2]) = tsh6 hom si co at_ nn (nI (5 + 16 * m)) s t l b r := by
  obtain ⟨a1, a2, a3, a4⟩ := hd5 m hm
  have w0 : fX7_wordAt_0 1 (nI m &&& 48) (fX9_has (nI m) 2) (fX9_has (nI m / 4) 2) (fX9_has (nI m) 1) (fX9_has (nI m / 4) 1) = nI (5 + 16 * m) := by
    unfold fX7_wordAt_0
    rw [if_neg (show ¬ (1 : Int32) = 0 by decide), a4]
  rw [w0]
  subst hP
  unfold kL tsh6
  rw [on_seen s hom hs, a1, a3]
  by_cases h0 : onS hom s = si
  · by_cases hz : co = 0
    · obtain ⟨g1, g2⟩ := h1 hz
      simp only [if_pos h0, if_pos hz]
      by_cases hv : fst6 co at_ nn t b = 0
      · simp only [if_pos (g1.mpr (Or.inl hv)), if_pos hv, if_true]
      by_cases hu : lst6 co at_ nn t b = 0
      · simp only [if_pos (g1.mpr (Or.inr hu)), if_neg hv, if_pos hu, if_true]
      have g3 : ¬ GR.1 = 0 := fun q => (g1.mp q).elim hv hu
      simp only [if_neg g3, if_neg hv, if_neg hu, g2 hv hu, if_neg (show ¬ (1 : Int32) = 0 by decide)]
    · obtain ⟨g1, g2⟩ := h2 hz
      simp only [if_pos h0, if_neg hz]
      by_cases hv : fst6 co at_ nn l r = 0
      · simp only [if_pos (g1.mpr (Or.inl hv)), if_pos hv, if_true]
      by_cases hu : lst6 co at_ nn l r = 0
      · simp only [if_pos (g1.mpr (Or.inr hu)), if_neg hv, if_pos hu, if_true]
      have g3 : ¬ GC.1 = 0 := fun q => (g1.mp q).elim hv hu
      simp only [if_neg g3, if_neg hv, if_neg hu, g2 hv hu, if_neg (show ¬ (1 : Int32) = 0 by decide)]
  · simp only [if_neg h0, if_neg (show ¬ (1 : Int32) = 0 by decide)]
/-- lines put in, of a range -/
theorem gap6 (z ll a e at_ n : Int32) (hz : ll = fX10_lines z) (h1 : 1 ≤ a) (h2 : a ≤ e) (h2' : e ≤ ll) (h3 : 1 ≤ at_) (h4 : at_ ≤ ll) (h5 : 1 ≤ n) (h6 : n ≤ 16384) : Ln6 (fX8_openGap ll a e at_ n) (fst6 z at_ n a e) (lst6 z at_ n a e) := by
  have e1 : ¬ a = 0 := fun q => by rw [q] at h1; exact absurd h1 (by decide)
  have e2 : ¬ e = 0 := fun q => by rw [q] at h2; exact absurd (Int32.le_trans h1 h2) (by decide)
  unfold fst6 lst6 Ln6
  rw [← hz]
  by_cases ha : a = 1 ∧ e = ll
  · obtain ⟨rfl, rfl⟩ := ha
    simp only [if_true, if_neg (show ¬ (1 : Int32) = 0 by decide)]
    unfold fX8_openGap fX9_areAllLines
    simp only [if_true, if_neg (show ¬ (1 : Int32) = 0 by decide)]
    exact ⟨⟨fun q => absurd q (by decide), fun q => q.elim (fun z => absurd z e1) (fun z => absurd z e2)⟩, fun _ _ => by first | rfl | trivial⟩
  · have hn : (if a = 1 then (if e = ll then (1 : Int32) else 0) else 0) = 0 := by
      by_cases q1 : a = 1
      · rw [if_pos q1, if_neg (fun q2 => ha ⟨q1, q2⟩)]
      · rw [if_neg q1]
    rw [hn]
    simp only [if_true]
    obtain ⟨g1, g2⟩ := og6 z ll a e at_ n hz h1 h2 h2' h3 h4 h5 h6 ha
    exact ⟨g1, fun q _ => g2 q⟩
theorem gapD6 (z ll a e at_ n : Int32) (hz : ll = fX10_lines z) (h1 : 1 ≤ a) (h2 : a ≤ e) (h2' : e ≤ ll) (h3 : 1 ≤ at_) (h4 : at_ ≤ ll) (h5 : 1 ≤ n) (h6 : n ≤ 16384) : Ln6 (fX8_closeGap ll a e at_ n) (fst6 z at_ (-n) a e) (lst6 z at_ (-n) a e) := by
  have e1 : ¬ a = 0 := fun q => by rw [q] at h1; exact absurd h1 (by decide)
  have e2 : ¬ e = 0 := fun q => by rw [q] at h2; exact absurd (Int32.le_trans h1 h2) (by decide)
  unfold fst6 lst6 Ln6
  rw [← hz]
  by_cases ha : a = 1 ∧ e = ll
  · obtain ⟨rfl, rfl⟩ := ha
    simp only [if_true, if_neg (show ¬ (1 : Int32) = 0 by decide)]
    unfold fX8_closeGap fX9_areAllLines
    simp only [if_true, if_neg (show ¬ (1 : Int32) = 0 by decide)]
    exact ⟨⟨fun q => absurd q (by decide), fun q => q.elim (fun z => absurd z e1) (fun z => absurd z e2)⟩, fun _ _ => by first | rfl | trivial⟩
  · have hn : (if a = 1 then (if e = ll then (1 : Int32) else 0) else 0) = 0 := by
      by_cases q1 : a = 1
      · rw [if_pos q1, if_neg (fun q2 => ha ⟨q1, q2⟩)]
      · rw [if_neg q1]
    rw [hn]
    simp only [if_true]
    exact cg6 z ll a e at_ n hz h1 h2 h2' h3 h4 h5 h6 ha
theorem E_hold (cs ct cl cb cr s t b l r hm : Int32) (hs : okS s) : fX0_holds cs ct cl cb cr s t b l r hm = inn cs ct cl cb cr (onS hm s) t l b r := by
  unfold fX0_holds inn fX8_isWithin
  rw [on_seen s hm hs]
  by_cases h0 : onS hm s = cs
  · simp only [if_pos h0]
    by_cases h1 : t < ct
    · simp [h1]
    · by_cases h2 : cb < b
      · simp [h1, h2]
      · by_cases h3 : l < cl
        · simp [h1, h2, h3]
        · by_cases h4 : cr < r
          · simp [h1, h2, h3, h4]
          · simp [h1, h2, h3, h4]
  · simp only [if_neg h0]
theorem told_eq (nh s to : Int32) (hs : okS s) : (if s = -1 then (if to = nh then s else to) else to) = told nh s to := by
  have h1 := hs.1
  unfold told
  by_cases h : s = -1
  · subst h
    rw [if_pos rfl, if_neg (show ¬ (0 : Int32) ≤ -1 by decide)]
  · rw [if_neg h, if_pos]
    have a := le_toInt.mp h1
    have e : (-1 : Int32).toInt = -1 := by decide
    have e0 : (0 : Int32).toInt = 0 := by decide
    have b : ¬ s.toInt = -1 := fun q => h (eq_toInt.mpr (q.trans e.symm))
    rw [e] at a
    rw [le_toInt, e0]
    omega
theorem E_mv (cs ct cl cb cr hm nh s1 rw cw s t b l r : Int32) (hs : okS s) (P : Int32 × Int32 × Int32 × Int32 × Int32 × Int32) (hP : fX6_keeps hm nh cs ct cl cb cr s1 rw cw ((rw + cb) - ct) ((cw + cr) - cl) s t b l r = P) :
    P = (if inn cs ct cl cb cr (onS hm s) t l b r = 0 then (if inn s1 rw cw (cb + (rw - ct)) (cr + (cw - cl)) (onS hm s) t l b r = 0 then (1, told nh s (onS hm s), t, b, l, r) else (0, s, t, b, l, r)) else (1, told nh s s1, t + (rw - ct), b + (rw - ct), l + (cw - cl), r + (cw - cl))) := by
  have q1 : (rw + cb) - ct = cb + (rw - ct) := by grind
  have q2 : (cw + cr) - cl = cr + (cw - cl) := by grind
  rw [q1, q2] at hP
  subst hP
  unfold fX6_keeps
  simp only [E_hold _ _ _ _ _ s t b l r hm hs, on_seen s hm hs, told_eq nh s _ hs]
