def okRg (p1 p2 p3 p4 p5 p6 : Int32) (N : Nat) : Prop := (0 ≤ p1 ∧ p1 ≤ 47) ∧ okS p2 ∧ (1 ≤ p3 ∧ p3 ≤ p5 ∧ p5 ≤ 1048576) ∧ (1 ≤ p4 ∧ p4 ≤ p6 ∧ p6 ≤ 16384) ∧ (¬ fX9_has p1 16 = 0 → p3 = 1 ∧ p5 = 1048576) ∧ (¬ fX9_has p1 32 = 0 → p4 = 1 ∧ p6 = 16384) ∧ N + 6 ≤ 1000
theorem rng_ite {α : Type} (a b x y : Prop) [Decidable a] [Decidable b] [Decidable x] [Decidable y] (G B : α) : (if a then (if b then G else (if y then B else G)) else (if x then B else (if b then G else (if y then B else G)))) = if (¬ a → ¬ x) ∧ (¬ b → ¬ y) then G else B := by
  by_cases h1 : a <;> by_cases h2 : b <;> by_cases h3 : x <;> by_cases h4 : y <;> simp [h1, h2, h3, h4]
theorem range_9 {N : Nat} (f : Nat → Int32) (p1 p2 p3 p4 p5 p6 : Int32) (hN : N ≤ 1000) :
    (okRg p1 p2 p3 p4 p5 p6 N ∧ fX9_range (nI N) f p1 p2 p3 p4 p5 p6 = (1, nI (N + 6), wr f N [5 + 16 * p1, p2, p3, p4, p5, p6])) ∨ (¬ okRg p1 p2 p3 p4 p5 p6 N ∧ fX9_range (nI N) f p1 p2 p3 p4 p5 p6 = (0, nI N, f)) := by
  unfold fX9_range
  have r := room_i (k := 6) hN (by decide) 6 rfl
  by_cases h1 : p1 < 0
  · rw [if_pos h1]; exact Or.inr ⟨fun q => absurd q.1.1 (Int32.not_le.mpr h1), rfl⟩
  rw [if_neg h1]
  by_cases h2 : 47 < p1
  · rw [if_pos h2]; exact Or.inr ⟨fun q => absurd q.1.2 (Int32.not_le.mpr h2), rfl⟩
  rw [if_neg h2]
  by_cases h3 : fX9_isSheetOrNone p2 = 0
  · rw [if_pos h3]; exact Or.inr ⟨fun q => (sheetn_i p2).mp h3 q.2.1, rfl⟩
  rw [if_neg h3]
  by_cases h4 : fX9_areLines p3 p5 1048576 = 0
  · rw [if_pos h4]; exact Or.inr ⟨fun q => (lines_i _ _ _).mp h4 q.2.2.1, rfl⟩
  rw [if_neg h4]
  by_cases h5 : fX9_areLines p4 p6 16384 = 0
  · rw [if_pos h5]; exact Or.inr ⟨fun q => (lines_i _ _ _).mp h5 q.2.2.2.1, rfl⟩
  rw [if_neg h5]
  by_cases h6 : fX9_hasRoomFor (nI N) 6 = 0
  · rw [if_pos h6]; exact Or.inr ⟨fun q => by have := r.mp h6; have := q.2.2.2.2.2.2; omega, rfl⟩
  rw [if_neg h6]
  have h6' : ¬ 1000 < N + 6 := fun q => h6 (r.mpr q)
  rw [rng_ite]
  by_cases h7 : (¬ fX9_has p1 16 = 0 → ¬ fX9_areAllLines p3 p5 1048576 = 0) ∧ (¬ fX9_has p1 32 = 0 → ¬ fX9_areAllLines p4 p6 16384 = 0)
  · rw [if_pos h7]
    refine Or.inl ⟨⟨⟨Int32.not_lt.mp h1, Int32.not_lt.mp h2⟩, Classical.byContradiction (fun q => h3 ((sheetn_i p2).mpr q)), Classical.byContradiction (fun q => h4 ((lines_i _ _ _).mpr q)), Classical.byContradiction (fun q => h5 ((lines_i _ _ _).mpr q)), fun q => Classical.byContradiction (fun w => h7.1 q ((all_i _ _ _).mpr w)), fun q => Classical.byContradiction (fun w => h7.2 q ((all_i _ _ _).mpr w)), by omega⟩, ?_⟩
    rw [n1, n1, n1, n1, n1, n1, put_in _ _ (by omega), put_in _ _ (by omega), put_in _ _ (by omega), put_in _ _ (by omega), put_in _ _ (by omega), put_in _ _ (by omega)]
    rfl
  · rw [if_neg h7]
    exact Or.inr ⟨fun q => h7 ⟨fun w => fun z => (all_i _ _ _).mp z (q.2.2.2.2.1 w), fun w => fun z => (all_i _ _ _).mp z (q.2.2.2.2.2.1 w)⟩, rfl⟩
theorem has48 : ∀ m, m < 48 → (((nI m &&& 16) = 16) ↔ ¬ fX9_has (nI m) 16 = 0) ∧ (((nI m &&& 32) = 32) ↔ ¬ fX9_has (nI m) 32 = 0) := by decide +kernel
theorem whole_i (k x y c d : Int32) (b : Int32) : ((if k = b then (if x = c then (if y = d then (0 : Int32) else 1) else 1) else 0) = 0) ↔ (k = b → x = c ∧ y = d) := by
  by_cases h1 : k = b <;> by_cases h2 : x = c <;> by_cases h3 : y = d <;> simp [h1, h2, h3]
theorem range_10 {N : Nat} (f : Nat → Int32) (p1 p2 p3 p4 p5 p6 : Int32) (hN : N ≤ 1000) :
    (okRg p1 p2 p3 p4 p5 p6 N ∧ fX10_range (nI N) f p1 p2 p3 p4 p5 p6 = (1, 0, nI (N + 6), wr f N [5 + 16 * p1, p2, p3, p4, p5, p6])) ∨ (¬ okRg p1 p2 p3 p4 p5 p6 N ∧ fX10_range (nI N) f p1 p2 p3 p4 p5 p6 = (0, 0, nI N, f)) := by
  unfold fX10_range
  dsimp only
  by_cases h1 : fX10_within p1 0 47 = 0
  · rw [if_pos h1]; exact Or.inr ⟨fun q => (within_i _ _ _).mp h1 q.1, rfl⟩
  rw [if_neg h1]
  have hp := wI h1
  obtain ⟨m, hm, rfl⟩ := nJ_of (k := 47) hp.1 hp.2 (by decide)
  have hw := has48 m (by omega)
  have w1 := whole_i (nI m &&& 16) p3 p5 1 1048576 16
  have w2 := whole_i (nI m &&& 32) p4 p6 1 16384 32
  by_cases h2 : (if (nI m &&& 16) = 16 then (if p3 = 1 then (if p5 = 1048576 then (0 : Int32) else 1) else 1) else 0) = 0
  rotate_left
  · rw [if_neg h2]; exact Or.inr ⟨fun q => h2 (w1.mpr (fun z => q.2.2.2.2.1 (hw.1.mp z))), rfl⟩
  rw [if_pos h2]
  by_cases h3 : (if (nI m &&& 32) = 32 then (if p4 = 1 then (if p6 = 16384 then (0 : Int32) else 1) else 1) else 0) = 0
  rotate_left
  · rw [if_neg h3]; exact Or.inr ⟨fun q => h3 (w2.mpr (fun z => q.2.2.2.2.2.1 (hw.2.mp z))), rfl⟩
  rw [if_pos h3]
  by_cases h4 : fX10_within p2 (-1) 7 = 0
  · rw [if_pos h4]; exact Or.inr ⟨fun q => (within_i _ _ _).mp h4 q.2.1, rfl⟩
  rw [if_neg h4]
  by_cases h5 : fX10_isCell p3 p4 = 0
  · rw [if_pos h5]; exact Or.inr ⟨fun q => (cell_i _ _).mp h5 ⟨⟨q.2.2.1.1, Int32.le_trans q.2.2.1.2.1 q.2.2.1.2.2⟩, ⟨q.2.2.2.1.1, Int32.le_trans q.2.2.2.1.2.1 q.2.2.2.1.2.2⟩⟩, rfl⟩
  rw [if_neg h5]
  by_cases h6 : fX10_isCell p5 p6 = 0
  · rw [if_pos h6]; exact Or.inr ⟨fun q => (cell_i _ _).mp h6 ⟨⟨Int32.le_trans q.2.2.1.1 q.2.2.1.2.1, q.2.2.1.2.2⟩, ⟨Int32.le_trans q.2.2.2.1.1 q.2.2.2.1.2.1, q.2.2.2.1.2.2⟩⟩, rfl⟩
  rw [if_neg h6]
  by_cases h7 : p5 < p3
  · rw [if_pos h7]; exact Or.inr ⟨fun q => absurd q.2.2.1.2.1 (Int32.not_le.mpr h7), rfl⟩
  rw [if_neg h7]
  by_cases h8 : p6 < p4
  · rw [if_pos h8]; exact Or.inr ⟨fun q => absurd q.2.2.2.1.2.1 (Int32.not_le.mpr h8), rfl⟩
  rw [if_neg h8]
  have e : (nI N ≤ 994) ↔ N ≤ 994 := nJ_le (b := 994) (by omega) (by omega)
  by_cases h9 : nI N ≤ 994
  · rw [if_pos h9]
    have h9' := e.mp h9
    refine Or.inl ⟨⟨hp, wI h4, ⟨(cI h5).1.1, Int32.not_lt.mp h7, (cI h6).1.2⟩, ⟨(cI h5).2.1, Int32.not_lt.mp h8, (cI h6).2.2⟩, fun z => w1.mp h2 (hw.1.mpr z), fun z => w2.mp h3 (hw.2.mpr z), by omega⟩, ?_⟩
    rw [n1, n1, n1, n1, n1, n1, c0 (by omega), c0 (by omega), c0 (by omega), c0 (by omega), c0 (by omega), c0 (by omega)]
    rfl
  · rw [if_neg h9]
    exact Or.inr ⟨fun q => h9 (e.mpr (by have := q.2.2.2.2.2.2; omega)), rfl⟩
theorem range_rows {items : List (List Int32)} {f1 f2 : Nat → Int32} {n1 n2 : Int32} (h : Both items n1 f1 n2 f2) (p1 p2 p3 p4 p5 p6 : Int32) :
    (fX9_range n1 f1 p1 p2 p3 p4 p5 p6).1 = (fX10_range n2 f2 p1 p2 p3 p4 p5 p6).1 ∧ ∃ items', Both items' (fX9_range n1 f1 p1 p2 p3 p4 p5 p6).2.1 (fX9_range n1 f1 p1 p2 p3 p4 p5 p6).2.2 (fX10_range n2 f2 p1 p2 p3 p4 p5 p6).2.2.1 (fX10_range n2 f2 p1 p2 p3 p4 p5 p6).2.2.2 := by
  have h0 := h
  obtain ⟨h1, h2, rfl, rfl, h5, h6⟩ := h
  rcases range_9 f1 p1 p2 p3 p4 p5 p6 h2 with ⟨a, e1⟩ | ⟨a, e1⟩ <;> rcases range_10 f2 p1 p2 p3 p4 p5 p6 h2 with ⟨b, e2⟩ | ⟨b, e2⟩
  · rw [e1, e2]
    obtain ⟨⟨a1, a2⟩, a3, ⟨r1, r2, r3⟩, ⟨s1, s2, s3⟩, a6, a7, a8⟩ := a
    obtain ⟨m, hm, rfl⟩ := nJ_of (k := 47) a1 a2 (by decide)
    exact ⟨rfl, _, h0.push (it := [5 + 16 * nI m, p2, p3, p4, p5, p6]) (Or.inr (Or.inr ⟨m, p2, p3, p4, p5, p6, by omega, a3, ⟨r1, Int32.le_trans r2 r3⟩, ⟨s1, Int32.le_trans s2 s3⟩, ⟨Int32.le_trans r1 r2, r3⟩, ⟨Int32.le_trans s1 s2, s3⟩, r2, s2, a6, a7, by rw [(hd5 m (by omega)).2.2.1]⟩)) a8⟩
  · exact absurd a b
  · exact absurd b a
  · rw [e1, e2]
    exact ⟨rfl, _, h0⟩
/-! rectangle, word, size -/
theorem rect_rows (gs gt gl gb gr p1 p2 p3 p4 p5 : Int32) (hR : RectOk gt gl gb gr) :
    (fX9_rectangle gs gt gl gb gr p1 p2 p3 p4 p5).1 = (fX10_rectangle gs gt gl gb gr p1 p2 p3 p4 p5).1 ∧ (fX9_rectangle gs gt gl gb gr p1 p2 p3 p4 p5).2 = (fX10_rectangle gs gt gl gb gr p1 p2 p3 p4 p5).2.2 ∧
      RectOk (fX9_rectangle gs gt gl gb gr p1 p2 p3 p4 p5).2.2.1 (fX9_rectangle gs gt gl gb gr p1 p2 p3 p4 p5).2.2.2.1 (fX9_rectangle gs gt gl gb gr p1 p2 p3 p4 p5).2.2.2.2.1 (fX9_rectangle gs gt gl gb gr p1 p2 p3 p4 p5).2.2.2.2.2 := by
  have k9 : (((0 ≤ p1 ∧ p1 ≤ 7) ∧ (1 ≤ p2 ∧ p2 ≤ p4 ∧ p4 ≤ 1048576) ∧ (1 ≤ p3 ∧ p3 ≤ p5 ∧ p5 ≤ 16384)) ∧ fX9_rectangle gs gt gl gb gr p1 p2 p3 p4 p5 = (1, p1, p2, p3, p4, p5)) ∨ (¬ ((0 ≤ p1 ∧ p1 ≤ 7) ∧ (1 ≤ p2 ∧ p2 ≤ p4 ∧ p4 ≤ 1048576) ∧ (1 ≤ p3 ∧ p3 ≤ p5 ∧ p5 ≤ 16384)) ∧ fX9_rectangle gs gt gl gb gr p1 p2 p3 p4 p5 = (0, gs, gt, gl, gb, gr)) := by
    unfold fX9_rectangle
    by_cases h1 : fX9_isSheet p1 = 0
    · rw [if_pos h1]; exact Or.inr ⟨fun q => (sheet_i _).mp h1 q.1, rfl⟩
    rw [if_neg h1]
    by_cases h2 : fX9_areLines p2 p4 1048576 = 0
    · rw [if_pos h2]; exact Or.inr ⟨fun q => (lines_i _ _ _).mp h2 q.2.1, rfl⟩
    rw [if_neg h2]
    by_cases h3 : fX9_areLines p3 p5 16384 = 0
    · rw [if_pos h3]; exact Or.inr ⟨fun q => (lines_i _ _ _).mp h3 q.2.2, rfl⟩
    rw [if_neg h3]
    exact Or.inl ⟨⟨Classical.byContradiction (fun q => h1 ((sheet_i _).mpr q)), Classical.byContradiction (fun q => h2 ((lines_i _ _ _).mpr q)), Classical.byContradiction (fun q => h3 ((lines_i _ _ _).mpr q))⟩, rfl⟩
  have k10 : (((0 ≤ p1 ∧ p1 ≤ 7) ∧ (1 ≤ p2 ∧ p2 ≤ p4 ∧ p4 ≤ 1048576) ∧ (1 ≤ p3 ∧ p3 ≤ p5 ∧ p5 ≤ 16384)) ∧ fX10_rectangle gs gt gl gb gr p1 p2 p3 p4 p5 = (1, 0, p1, p2, p3, p4, p5)) ∨ (¬ ((0 ≤ p1 ∧ p1 ≤ 7) ∧ (1 ≤ p2 ∧ p2 ≤ p4 ∧ p4 ≤ 1048576) ∧ (1 ≤ p3 ∧ p3 ≤ p5 ∧ p5 ≤ 16384)) ∧ fX10_rectangle gs gt gl gb gr p1 p2 p3 p4 p5 = (0, 0, gs, gt, gl, gb, gr)) := by
    unfold fX10_rectangle
    by_cases h1 : fX10_within p1 0 7 = 0
    · rw [if_pos h1]; exact Or.inr ⟨fun q => (within_i _ _ _).mp h1 q.1, rfl⟩
    rw [if_neg h1]
    by_cases h5 : fX10_isCell p2 p3 = 0
    · rw [if_pos h5]; exact Or.inr ⟨fun q => (cell_i _ _).mp h5 ⟨⟨q.2.1.1, Int32.le_trans q.2.1.2.1 q.2.1.2.2⟩, ⟨q.2.2.1, Int32.le_trans q.2.2.2.1 q.2.2.2.2⟩⟩, rfl⟩
    rw [if_neg h5]
    by_cases h6 : fX10_isCell p4 p5 = 0
    · rw [if_pos h6]; exact Or.inr ⟨fun q => (cell_i _ _).mp h6 ⟨⟨Int32.le_trans q.2.1.1 q.2.1.2.1, q.2.1.2.2⟩, ⟨Int32.le_trans q.2.2.1 q.2.2.2.1, q.2.2.2.2⟩⟩, rfl⟩
    rw [if_neg h6]
    by_cases h7 : p4 < p2
    · rw [if_pos h7]; exact Or.inr ⟨fun q => absurd q.2.1.2.1 (Int32.not_le.mpr h7), rfl⟩
    rw [if_neg h7]
    by_cases h8 : p3 ≤ p5
    · rw [if_pos h8]; exact Or.inl ⟨⟨wI h1, ⟨(cI h5).1.1, Int32.not_lt.mp h7, (cI h6).1.2⟩, ⟨(cI h5).2.1, h8, (cI h6).2.2⟩⟩, rfl⟩
    · rw [if_neg h8]; exact Or.inr ⟨fun q => h8 q.2.2.2.1, rfl⟩
  rcases k9 with ⟨a, e1⟩ | ⟨a, e1⟩ <;> rcases k10 with ⟨b, e2⟩ | ⟨b, e2⟩
  · rw [e1, e2]
    obtain ⟨-, ⟨r1, r2, r3⟩, ⟨s1, s2, s3⟩⟩ := a
    exact ⟨rfl, rfl, r1, r2, r3, s1, s2, s3⟩
  · exact absurd a b
  · exact absurd b a
  · rw [e1, e2]
    exact ⟨rfl, rfl, hR⟩
theorem word_rows {items : List (List Int32)} {f1 f2 : Nat → Int32} {n1 n2 : Int32} (h : Both items n1 f1 n2 f2) (k : Int32) : fX9_word n1 f1 k = (fX10_word n2 f2 k).1 := by
  obtain ⟨h1, h2, rfl, rfl, h5, h6⟩ := h
  unfold fX9_word fX10_word
  by_cases q1 : k < 0
  · rw [if_pos q1, if_pos q1]
  rw [if_neg q1, if_neg q1]
  by_cases q2 : nI items.flatten.length ≤ k
  · rw [if_pos q2, if_pos q2]
  rw [if_neg q2, if_neg q2]
  have a1 := Int32.not_lt.mp q1
  have a2 := Int32.not_le.mp q2
  obtain ⟨m, hm, rfl⟩ := nJ_of (k := items.flatten.length) a1 (Int32.le_of_lt a2) (by omega)
  have hm' := (nJ_lt (by omega) (by omega)).mp a2
  rw [if_neg (show ¬ (1000 : Int32) ≤ nI m from nI_ge (a := m) (b := 1000) (by omega) (by omega)), c0 (by omega)]
  have e1 := h5 m hm'
  have e2 := h6 m hm'
  rw [Nat.zero_add] at e1 e2
  rw [e1, e2]
theorem size_rows {items : List (List Int32)} {f1 f2 : Nat → Int32} {n1 n2 : Int32} (h : Both items n1 f1 n2 f2) : n1 = n2 := h.2.2.1.trans h.2.2.2.1.symm
/-! copy, insert, delete, move -/
theorem res_rows {items : List (List Int32)} {f1 f2 : Nat → Int32} {n1 n2 : Int32} (h : Both items n1 f1 n2 f2) (good : Int32) (T : List Int32 → List Int32) (md ch : Int32) (g2 : Nat → Int32) (go : Nat → Int64) (hT : good = 1 → ∀ it ∈ items, okI (T it) ∧ (T it).length ≤ it.length) :
    (resM good T items md ch f2 g2).2.1 = (resC good T items f1 go).1 ∧ ((resC good T items f1 go).1 = 0 → (resC good T items f1 go).2.2.2 0 = (resM good T items md ch f2 g2).1.toInt64) ∧
      ∃ items', Both items' (resC good T items f1 go).2.1 (resC good T items f1 go).2.2.1 (resM good T items md ch f2 g2).2.2.1 (resM good T items md ch f2 g2).2.2.2.2.2.1 := by
  have h0 := h
  obtain ⟨h1, h2, h3, h4, h5, h6⟩ := h
  unfold resM resC
  by_cases q : good = 1
  · rw [if_pos q, if_pos q]
    have hl := outs_le (T := T) (items := items) (fun it hit => ⟨h1 it hit, (hT q it hit).2⟩)
    refine ⟨rfl, fun _ => (show vp_updL go 0 (cnt T items).toInt64 0 = (cnt T items).toInt64 from pk_uLs), items.map T, ?_, Nat.le_trans hl h2, rfl, rfl, wr_seg _ _ _, ?_⟩
    · intro it hit
      obtain ⟨x, hx, rfl⟩ := List.mem_map.mp hit
      exact (hT q x hx).1
    · intro i hi
      have h9 := wr_seg (outs T items) g2 0 i hi
      show ffin _ _ _ (0 + i) = _
      unfold ffin
      rw [if_pos (show 0 + i < (outs T items).length by rw [Nat.zero_add]; exact hi)]
      exact h9
  · rw [if_neg q, if_neg q]
    exact ⟨rfl, fun w => absurd (show (1 : Int32) = 0 from w) (by decide), items, h1, h2, rfl, rfl, h5, h6⟩
theorem ins_eq (md ch : Int32) (f g : Nat → Int32) (p1 p2 p3 p4 p5 : Int32) (items : List (List Int32)) : fX10_insert md ch f g p1 p2 p3 p4 p5 items = resM (fX10_isLine p1 p2 p3 p4 p5) (Tsh p1 p2 p3 p4 p5) items md ch f g := by
  unfold fX10_insert resM
  dsimp only
  rcases zb_X10_isLine p1 p2 p3 p4 p5 with e | e <;> rw [e] <;> rfl
theorem del_eq (md ch : Int32) (f g : Nat → Int32) (p1 p2 p3 p4 p5 : Int32) (items : List (List Int32)) : fX10_delete md ch f g p1 p2 p3 p4 p5 items = resM (fX10_isLine p1 p2 p3 p4 p5) (Tsh p1 p2 p3 p4 (-p5)) items md ch f g := by
  unfold fX10_delete resM
  dsimp only
  rcases zb_X10_isLine p1 p2 p3 p4 p5 with e | e <;> rw [e] <;> rfl
