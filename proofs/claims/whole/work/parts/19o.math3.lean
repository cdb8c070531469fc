theorem bI {x a b : Int32} (h1 : a ≤ x) (h2 : x ≤ b) : a.toInt ≤ x.toInt ∧ x.toInt ≤ b.toInt := ⟨le_toInt.mp h1, le_toInt.mp h2⟩
theorem og6 (z ll fi la at_ n : Int32) (hz : ll = fX10_lines z) (h1 : 1 ≤ fi) (h2 : fi ≤ la) (h2' : la ≤ ll) (h3 : 1 ≤ at_) (h4 : at_ ≤ ll) (h5 : 1 ≤ n) (h6 : n ≤ 16384) (ha : ¬ (fi = 1 ∧ la = ll)) :
    ((fX8_openGap ll fi la at_ n).1 = 0 ↔ (fX10_firstLeft fi la z at_ n = 0 ∨ fX10_lastLeft fi la z at_ n = 0)) ∧ (¬ fX10_firstLeft fi la z at_ n = 0 → (fX8_openGap ll fi la at_ n).2 = (fX10_firstLeft fi la z at_ n, fX10_lastLeft fi la z at_ n)) := by
  have hl : ll ≤ 1048576 ∧ 1 < ll := by rw [hz]; unfold fX10_lines; split <;> exact ⟨by decide, by decide⟩
  obtain ⟨a1, a2⟩ := bI h5 h6
  have a3 := le_toInt.mp h1
  have a4 := le_toInt.mp h2
  have a5 := le_toInt.mp h2'
  have a6 := le_toInt.mp hl.1
  have l1 : (1 : Int32).toInt = 1 := by decide
  have l2 : (16384 : Int32).toInt = 16384 := by decide
  have l3 : (1048576 : Int32).toInt = 1048576 := by decide
  have l0 : (0 : Int32).toInt = 0 := by decide
  rw [l1] at a1 a3
  rw [l2] at a2
  rw [l3] at a6
  have e1 : (fi + n).toInt = fi.toInt + n.toInt := addI (by omega) (by omega)
  have e2 : (la + n).toInt = la.toInt + n.toInt := addI (by omega) (by omega)
  have p1 : 0 < fi + n := lt_toInt.mpr (by rw [e1, l0]; omega)
  have p2 : 0 < la + n := lt_toInt.mpr (by rw [e2, l0]; omega)
  have p3 : fi + n ≤ la + n := le_toInt.mpr (by rw [e1, e2]; omega)
  have p4 : 0 ≤ n := le_toInt.mpr (by rw [l0]; omega)
  have p5 : ¬ n ≤ 0 := fun q => by have q := le_toInt.mp q; rw [l0] at q; omega
  have p6 : 0 < fi := lt_toInt.mpr (by rw [l0]; omega)
  have p7 : 0 < la := lt_toInt.mpr (by rw [l0]; omega)
  unfold fX8_openGap fX10_firstLeft fX10_lastLeft fX10_shifted fX9_areAllLines
  rw [← hz]
  clear e1 e2 a1 a2 a3 a4 a5 a6 l0 l1 l2 l3 hz
  generalize fi + n = u at *
  generalize la + n = w at *
  rw [if_neg p5, if_neg p5]
  simp only [if_pos p4]
  grind
theorem cgF (ll x at_ n : Int32) (hl : ll ≤ 1048576) (h1 : 1 ≤ x) (h2 : x ≤ ll) (h3 : 1 ≤ at_) (h4 : at_ ≤ ll) (h5 : 1 ≤ n) (h6 : n ≤ 16384) :
    at_ < at_ + n ∧ (at_ + n ≤ x → at_ ≤ x - n ∧ x - n ≤ ll) ∧ at_ - 1 < at_ ∧ 0 ≤ at_ - 1 ∧ (x < at_ → x ≤ at_ - 1) ∧ ¬ 0 ≤ -n ∧ -n ≤ 0 ∧ at_ - -n = at_ + n ∧ x + -n = x - n ∧ 0 < x := by
  have l1 : (1 : Int32).toInt = 1 := by decide
  have l2 : (16384 : Int32).toInt = 16384 := by decide
  have l3 : (1048576 : Int32).toInt = 1048576 := by decide
  have l0 : (0 : Int32).toInt = 0 := by decide
  obtain ⟨a1, a2⟩ := bI h5 h6
  obtain ⟨a3, a4⟩ := bI h1 h2
  obtain ⟨a5, a6⟩ := bI h3 h4
  have a7 := le_toInt.mp hl
  rw [l1] at a1 a3 a5
  rw [l2] at a2
  rw [l3] at a7
  have e1 : (at_ + n).toInt = at_.toInt + n.toInt := addI (by omega) (by omega)
  have e2 : (x - n).toInt = x.toInt - n.toInt := subI (by omega) (by omega)
  have e3 : (at_ - 1).toInt = at_.toInt - 1 := by rw [subI (by omega) (by omega), l1]
  have e4 : (-n).toInt = -n.toInt := by
    have := subI (x := 0) (y := n) (by rw [l0]; omega) (by rw [l0]; omega)
    rw [l0] at this
    rw [show -n = 0 - n by rw [Int32.zero_sub], this]; omega
  refine ⟨?_, fun q => ⟨?_, ?_⟩, ?_, ?_, fun q => ?_, fun q => ?_, ?_, ?_, ?_, ?_⟩
  · rw [lt_toInt, e1]; omega
  · have q := le_toInt.mp q; rw [e1] at q; rw [le_toInt, e2]; omega
  · rw [le_toInt, e2]; omega
  · rw [lt_toInt, e3]; omega
  · rw [le_toInt, e3, l0]; omega
  · have q := lt_toInt.mp q; rw [le_toInt, e3]; omega
  · have q := le_toInt.mp q; rw [l0, e4] at q; omega
  · rw [le_toInt, l0, e4]; omega
  · rw [eq_toInt, e1, subI (by rw [e4]; omega) (by rw [e4]; omega), e4]; omega
  · rw [eq_toInt, e2, addI (by rw [e4]; omega) (by rw [e4]; omega), e4]; omega
  · rw [lt_toInt, l0]; omega
theorem cg4 (z ll r at_ n : Int32) (hz : ll = fX10_lines z) (h1 : 1 ≤ r) (h2 : r ≤ ll) (h3 : 1 ≤ at_) (h4 : at_ ≤ ll) (h5 : 1 ≤ n) (h6 : n ≤ 16384) :
    ((fX8_closeGap ll r r at_ n).1 = 0 ↔ fX10_shifted r z at_ (-n) = 0) ∧ (¬ fX10_shifted r z at_ (-n) = 0 → (fX8_closeGap ll r r at_ n).2 = (fX10_shifted r z at_ (-n), fX10_shifted r z at_ (-n))) := by
  have hl : ll ≤ 1048576 ∧ 1 < ll := by rw [hz]; unfold fX10_lines; split <;> exact ⟨by decide, by decide⟩
  obtain ⟨p1, p2, p3, p4, p5, p6, p7, p8, p9, p10⟩ := cgF ll r at_ n hl.1 h1 h2 h3 h4 h5 h6
  unfold fX8_closeGap fX10_shifted fX9_areAllLines
  rw [← hz, if_neg p6, p8, p9]
  clear hz p6 p7 p8 p9 h5 h6
  generalize at_ + n = u at *
  generalize r - n = w at *
  generalize at_ - 1 = v at *
  grind
theorem cg6 (z ll fi la at_ n : Int32) (hz : ll = fX10_lines z) (h1 : 1 ≤ fi) (h2 : fi ≤ la) (h2' : la ≤ ll) (h3 : 1 ≤ at_) (h4 : at_ ≤ ll) (h5 : 1 ≤ n) (h6 : n ≤ 16384) (ha : ¬ (fi = 1 ∧ la = ll)) :
    ((fX8_closeGap ll fi la at_ n).1 = 0 ↔ (fX10_firstLeft fi la z at_ (-n) = 0 ∨ fX10_lastLeft fi la z at_ (-n) = 0)) ∧ (¬ fX10_firstLeft fi la z at_ (-n) = 0 → ¬ fX10_lastLeft fi la z at_ (-n) = 0 → (fX8_closeGap ll fi la at_ n).2 = (fX10_firstLeft fi la z at_ (-n), fX10_lastLeft fi la z at_ (-n))) := by
  have hl : ll ≤ 1048576 ∧ 1 < ll := by rw [hz]; unfold fX10_lines; split <;> exact ⟨by decide, by decide⟩
  have h7 : fi ≤ ll := Int32.le_trans h2 h2'
  have h8 : 1 ≤ la := Int32.le_trans h1 h2
  obtain ⟨p1, p2, p3, p4, p5, p6, p7, p8, p9, p10⟩ := cgF ll fi at_ n hl.1 h1 h7 h3 h4 h5 h6
  obtain ⟨-, q2, -, -, q5, -, -, -, q9, q10⟩ := cgF ll la at_ n hl.1 h8 h2' h3 h4 h5 h6
  have m1 : at_ + n ≤ fi → fi - n ≤ la - n := by
    intro q
    have e0 := le_toInt.mp h2
    have e1 := le_toInt.mp h1
    have e2 := le_toInt.mp h2'
    have e3 := le_toInt.mp hl.1
    obtain ⟨e4, e5⟩ := bI h5 h6
    have l1 : (1 : Int32).toInt = 1 := by decide
    have l2 : (16384 : Int32).toInt = 16384 := by decide
    have l3 : (1048576 : Int32).toInt = 1048576 := by decide
    rw [l1] at e1 e4
    rw [l2] at e5
    rw [l3] at e3
    rw [le_toInt, subI (by omega) (by omega), subI (by omega) (by omega)]
    omega
  unfold fX8_closeGap fX10_firstLeft fX10_lastLeft fX10_shifted fX9_areAllLines
  rw [← hz]
  simp only [if_neg p6, if_pos p7, p8, p9, q9]
  clear hz p6 p7 p8 p9 q9 h5 h6
  generalize at_ + n = u at *
  generalize fi - n = w at *
  generalize la - n = x at *
  generalize at_ - 1 = v at *
  grind
