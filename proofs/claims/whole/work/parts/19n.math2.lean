/-! the class's lines against the reference's -/
theorem sl0 (ll fi la ff lf x : Int32) (h1 : 1 ≤ fi) (h2 : fi ≤ ll) (h3 : 1 ≤ la) (h4 : la ≤ ll) : (fX8_shiftLoose ll fi la ff lf x).1 = 0 ↔ (fX10_moved fi ff x ll = 0 ∨ fX10_moved la lf x ll = 0) := by
  unfold fX8_shiftLoose fX10_moved fX9_isLine fX10_within
  grind
theorem sl1 (ll fi la ff lf x : Int32) (h1 : 1 ≤ fi) (h2 : fi ≤ ll) (h3 : 1 ≤ la) (h4 : la ≤ ll) (a : ¬ fX10_moved fi ff x ll = 0) (b : ¬ fX10_moved la lf x ll = 0) :
    fX8_shiftLoose ll fi la ff lf x = (1, if fX10_moved fi ff x ll ≤ fX10_moved la lf x ll then fX10_moved fi ff x ll else fX10_moved la lf x ll, if fX10_moved fi ff x ll ≤ fX10_moved la lf x ll then fX10_moved la lf x ll else fX10_moved fi ff x ll, if fX10_moved fi ff x ll ≤ fX10_moved la lf x ll then ff else lf, if fX10_moved fi ff x ll ≤ fX10_moved la lf x ll then lf else ff) := by
  unfold fX8_shiftLoose
  unfold fX10_moved fX10_within at *
  unfold fX9_isLine
  grind
theorem og4 (z ll r at_ n : Int32) (hz : ll = fX10_lines z) (h1 : 1 ≤ r) (h2 : r ≤ ll) (h3 : 1 ≤ at_) (h4 : at_ ≤ ll) (h5 : 1 ≤ n) (h6 : n ≤ 16384) :
    ((fX8_openGap ll r r at_ n).1 = 0 ↔ fX10_shifted r z at_ n = 0) ∧ (¬ fX10_shifted r z at_ n = 0 → (fX8_openGap ll r r at_ n).2 = (fX10_shifted r z at_ n, fX10_shifted r z at_ n)) := by
  have hl : ll = 1048576 ∨ ll = 16384 := by rw [hz]; unfold fX10_lines; split <;> simp
  unfold fX8_openGap fX10_shifted fX9_areAllLines
  rw [← hz]
  grind
