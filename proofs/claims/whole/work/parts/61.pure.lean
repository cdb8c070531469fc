/-! the two sides of the law, in numbers: what each call leaves on both -/
theorem nJ_lt {a b : Nat} (ha : a < 2000000) (hb : b < 2000000) : nI a < nI b ↔ a < b := by
  rw [lt_toInt, show (nI a).toInt = (a : Int) from nI_toInt (by omega), show (nI b).toInt = (b : Int) from nI_toInt (by omega)]
  omega
theorem nJ_le {a b : Nat} (ha : a < 2000000) (hb : b < 2000000) : nI a ≤ nI b ↔ a ≤ b := by
  rw [le_toInt, show (nI a).toInt = (a : Int) from nI_toInt (by omega), show (nI b).toInt = (b : Int) from nI_toInt (by omega)]
  omega
theorem nJ_eq {a b : Nat} (ha : a < 2000000) (hb : b < 2000000) : nI a = nI b ↔ a = b := by
  rw [eq_toInt, show (nI a).toInt = (a : Int) from nI_toInt (by omega), show (nI b).toInt = (b : Int) from nI_toInt (by omega)]
  omega
/-- both sides hold the same items -/
def Both (items : List (List Int32)) (n1 : Int32) (f1 : Nat → Int32) (n2 : Int32) (f2 : Nat → Int32) : Prop :=
  (∀ it ∈ items, okI it) ∧ items.flatten.length ≤ 1000 ∧ n1 = nI items.flatten.length ∧ n2 = nI items.flatten.length ∧ Seg f1 0 items.flatten ∧ Seg f2 0 items.flatten
theorem Both.nil (f1 f2 : Nat → Int32) : Both [] 0 f1 0 f2 :=
  ⟨fun _ h => absurd h List.not_mem_nil, Nat.zero_le _, rfl, rfl, fun i h => absurd h (Nat.not_lt_zero i), fun i h => absurd h (Nat.not_lt_zero i)⟩
theorem seg_push {f : Nat → Int32} {a b : List Int32} (h : Seg f 0 a) : Seg (wr f a.length b) 0 (a ++ b) :=
  seg_app (fun i hi => (wr_lo b f a.length (0 + i) (by omega)).trans (h i hi)) (by rw [Nat.zero_add]; exact wr_seg b f a.length)
theorem Both.push {items : List (List Int32)} {it : List Int32} {f1 f2 : Nat → Int32} {n1 n2 : Int32} (h : Both items n1 f1 n2 f2) (hk : okI it) (hl : items.flatten.length + it.length ≤ 1000) :
    Both (items ++ [it]) (nI (items.flatten.length + it.length)) (wr f1 items.flatten.length it) (nI (items.flatten.length + it.length)) (wr f2 items.flatten.length it) := by
  obtain ⟨h1, h2, h3, h4, h5, h6⟩ := h
  have e : (items ++ [it]).flatten = items.flatten ++ it := by simp
  refine ⟨fun x hx => ?_, by rw [e, List.length_append]; exact hl, by rw [e, List.length_append], by rw [e, List.length_append], by rw [e]; exact seg_push h5, by rw [e]; exact seg_push h6⟩
  rcases List.mem_append.mp hx with q | q
  · exact h1 x q
  · rw [List.mem_singleton.mp q]; exact hk
theorem room_i {N k : Nat} (hN : N ≤ 1000) (hk : k ≤ 6) (K : Int32) (hK : K = nI k) : (fX9_hasRoomFor (nI N) K = 0) ↔ 1000 < N + k := by
  subst hK
  unfold fX9_hasRoomFor
  rw [nI_add, show (1000 : Int32) = nI 1000 from rfl]
  by_cases h : 1000 < N + k
  · rw [if_pos ((nJ_lt (by omega) (by omega)).mpr h)]; simp [h]
  · rw [if_neg (fun q => h ((nJ_lt (by omega) (by omega)).mp q))]; simp [h]
/-! other -/
theorem other_9 {N : Nat} (f : Nat → Int32) (x : Int32) (hN : N ≤ 1000) : fX9_other (nI N) f x = if N < 1000 ∧ fX9_itemLength x = 1 then (1, nI (N + 1), wr f N [x]) else (0, nI N, f) := by
  unfold fX9_other fX9_itemLength
  have r := room_i (k := 1) hN (by decide) 1 rfl
  by_cases h1 : fX9_isOfKind x 4 = 0
  · rw [if_pos h1, if_pos h1]
    by_cases h2 : fX9_isOfKind x 5 = 0
    · rw [if_pos h2, if_pos h2]
      by_cases h3 : N < 1000
      · rw [if_neg (fun q => by have := r.mp q; omega), if_pos ⟨h3, rfl⟩, n1, put_in _ _ h3]; rfl
      · rw [if_pos (r.mpr (by omega)), if_neg (fun q => h3 q.1)]
    · rw [if_neg h2, if_neg h2, if_neg (fun q => absurd q.2 (by decide))]
  · rw [if_neg h1, if_neg h1, if_neg (fun q => absurd q.2 (by decide))]
theorem other_10 {N : Nat} (f : Nat → Int32) (x : Int32) (hN : N ≤ 1000) : fX10_other (nI N) f x = if N < 1000 ∧ fX9_itemLength x = 1 then (1, 0, nI (N + 1), wr f N [x]) else (0, 0, nI N, f) := by
  unfold fX10_other fX9_itemLength fX9_isOfKind
  rw [show (1000 : Int32) = nI 1000 from rfl]
  by_cases h3 : N < 1000
  · rw [if_neg (fun q => by have := (nJ_eq (by omega) (by omega)).mp q; omega), n1, c0 (by omega)]
    by_cases h0 : x < 0
    · simp [h0, h3]; rfl
    · by_cases h4 : (x - x / 16 * 16) = 4
      · simp [h0, h3, h4]
      · by_cases h5 : (x - x / 16 * 16) = 5
        · simp [h0, h3, h5]
        · simp [h0, h3, h4, h5]; rfl
  · rw [if_pos ((nJ_eq (by omega) (by omega)).mpr (by omega)), if_neg (fun q => h3 q.1)]
theorem other_rows {items : List (List Int32)} {f1 f2 : Nat → Int32} {n1 n2 : Int32} (h : Both items n1 f1 n2 f2) (x : Int32) :
    (fX9_other n1 f1 x).1 = (fX10_other n2 f2 x).1 ∧ ∃ items', Both items' (fX9_other n1 f1 x).2.1 (fX9_other n1 f1 x).2.2 (fX10_other n2 f2 x).2.2.1 (fX10_other n2 f2 x).2.2.2 := by
  have h0 := h
  obtain ⟨h1, h2, rfl, rfl, h5, h6⟩ := h
  rw [other_9 f1 x h2, other_10 f2 x h2]
  by_cases q : items.flatten.length < 1000 ∧ fX9_itemLength x = 1
  · rw [if_pos q, if_pos q]
    exact ⟨rfl, _, h0.push (it := [x]) (Or.inl ⟨x, q.2, rfl⟩) (by have := q.1; show items.flatten.length + 1 ≤ 1000; omega)⟩
  · rw [if_neg q, if_neg q]
    exact ⟨rfl, _, h0⟩
/-! place, range -/
theorem within_i (x y z : Int32) : (fX10_within x y z = 0) ↔ ¬ (y ≤ x ∧ x ≤ z) := by
  unfold fX10_within
  by_cases h1 : x < y
  · rw [if_pos h1]; exact ⟨fun _ q => absurd q.1 (Int32.not_le.mpr h1), fun _ => rfl⟩
  · rw [if_neg h1]
    by_cases h2 : z < x
    · rw [if_pos h2]; exact ⟨fun _ q => absurd q.2 (Int32.not_le.mpr h2), fun _ => rfl⟩
    · rw [if_neg h2]; exact ⟨fun q => absurd q (by decide), fun q => absurd ⟨Int32.not_lt.mp h1, Int32.not_lt.mp h2⟩ q⟩
theorem cell_i (x y : Int32) : (fX10_isCell x y = 0) ↔ ¬ (okR x ∧ okC y) := by
  unfold fX10_isCell
  by_cases h1 : fX10_within x 1 1048576 = 0
  · rw [if_pos h1]; exact ⟨fun _ q => absurd q.1 ((within_i _ _ _).mp h1), fun _ => rfl⟩
  · rw [if_neg h1]
    by_cases h2 : fX10_within y 1 16384 = 0
    · rw [if_pos h2]; exact ⟨fun _ q => absurd q.2 ((within_i _ _ _).mp h2), fun _ => rfl⟩
    · rw [if_neg h2]; exact ⟨fun q => absurd q (by decide), fun q => absurd ⟨wI h1, wI h2⟩ q⟩
theorem line_i (x y : Int32) : (fX9_isLine x y = 0) ↔ ¬ (1 ≤ x ∧ x ≤ y) := within_i x 1 y
theorem sheet_i (x : Int32) : (fX9_isSheet x = 0) ↔ ¬ (0 ≤ x ∧ x ≤ 7) := within_i x 0 7
theorem sheetn_i (x : Int32) : (fX9_isSheetOrNone x = 0) ↔ ¬ okS x := by
  unfold fX9_isSheetOrNone okS
  have e1 : x = -1 ↔ x.toInt = -1 := by rw [eq_toInt]; rfl
  have e2 := sheet_i x
  rw [le_toInt, le_toInt, show (0 : Int32).toInt = 0 from rfl, show (7 : Int32).toInt = 7 from rfl] at e2
  rw [le_toInt, le_toInt, show (-1 : Int32).toInt = -1 from rfl, show (7 : Int32).toInt = 7 from rfl]
  by_cases h1 : x = -1
  · rw [if_pos h1]
    have := e1.mp h1
    exact ⟨fun q => absurd q (by decide), fun q => absurd (by omega) q⟩
  · rw [if_neg h1]
    have h1' : ¬ x.toInt = -1 := fun q => h1 (e1.mpr q)
    by_cases h2 : fX9_isSheet x = 0
    · rw [if_pos h2]
      have := e2.mp h2
      exact ⟨fun _ q => by omega, fun _ => rfl⟩
    · rw [if_neg h2]
      have : 0 ≤ x.toInt ∧ x.toInt ≤ 7 := Classical.byContradiction (fun q => h2 (e2.mpr q))
      exact ⟨fun q => absurd q (by decide), fun q => absurd (by omega) q⟩
theorem lines_i (x y z : Int32) : (fX9_areLines x y z = 0) ↔ ¬ (1 ≤ x ∧ x ≤ y ∧ y ≤ z) := by
  unfold fX9_areLines
  by_cases h1 : x < 1
  · rw [if_pos h1]; exact ⟨fun _ q => absurd q.1 (Int32.not_le.mpr h1), fun _ => rfl⟩
  · rw [if_neg h1]
    by_cases h2 : y < x
    · rw [if_pos h2]; exact ⟨fun _ q => absurd q.2.1 (Int32.not_le.mpr h2), fun _ => rfl⟩
    · rw [if_neg h2]
      by_cases h3 : z < y
      · rw [if_pos h3]; exact ⟨fun _ q => absurd q.2.2 (Int32.not_le.mpr h3), fun _ => rfl⟩
      · rw [if_neg h3]; exact ⟨fun q => absurd q (by decide), fun q => absurd ⟨Int32.not_lt.mp h1, Int32.not_lt.mp h2, Int32.not_lt.mp h3⟩ q⟩
theorem all_i (x y z : Int32) : (fX9_areAllLines x y z = 0) ↔ ¬ (x = 1 ∧ y = z) := by
  unfold fX9_areAllLines
  by_cases h1 : x = 1
  · rw [if_pos h1]
    by_cases h2 : y = z
    · rw [if_pos h2]; exact ⟨fun q => absurd q (by decide), fun q => absurd ⟨h1, h2⟩ q⟩
    · rw [if_neg h2]; exact ⟨fun _ q => h2 q.2, fun _ => rfl⟩
  · rw [if_neg h1]; exact ⟨fun _ q => h1 q.1, fun _ => rfl⟩
def okPl (p1 p2 p3 p4 : Int32) (N : Nat) : Prop := (0 ≤ p1 ∧ p1 ≤ 3) ∧ okS p2 ∧ okR p3 ∧ okC p4 ∧ N + 4 ≤ 1000
theorem place_9 {N : Nat} (f : Nat → Int32) (p1 p2 p3 p4 : Int32) (hN : N ≤ 1000) :
    (okPl p1 p2 p3 p4 N ∧ fX9_place (nI N) f p1 p2 p3 p4 = (1, nI (N + 4), wr f N [4 + 16 * p1, p2, p3, p4])) ∨ (¬ okPl p1 p2 p3 p4 N ∧ fX9_place (nI N) f p1 p2 p3 p4 = (0, nI N, f)) := by
  unfold fX9_place
  have r := room_i (k := 4) hN (by decide) 4 rfl
  by_cases h1 : p1 < 0
  · rw [if_pos h1]; exact Or.inr ⟨fun q => absurd q.1.1 (Int32.not_le.mpr h1), rfl⟩
  rw [if_neg h1]
  by_cases h2 : 3 < p1
  · rw [if_pos h2]; exact Or.inr ⟨fun q => absurd q.1.2 (Int32.not_le.mpr h2), rfl⟩
  rw [if_neg h2]
  by_cases h3 : fX9_isSheetOrNone p2 = 0
  · rw [if_pos h3]; exact Or.inr ⟨fun q => (sheetn_i p2).mp h3 q.2.1, rfl⟩
  rw [if_neg h3]
  by_cases h4 : fX9_isLine p3 1048576 = 0
  · rw [if_pos h4]; exact Or.inr ⟨fun q => (line_i _ _).mp h4 q.2.2.1, rfl⟩
  rw [if_neg h4]
  by_cases h5 : fX9_isLine p4 16384 = 0
  · rw [if_pos h5]; exact Or.inr ⟨fun q => (line_i _ _).mp h5 q.2.2.2.1, rfl⟩
  rw [if_neg h5]
  by_cases h6 : fX9_hasRoomFor (nI N) 4 = 0
  · rw [if_pos h6]; exact Or.inr ⟨fun q => by have := r.mp h6; have := q.2.2.2.2; omega, rfl⟩
  rw [if_neg h6]
  have h6' : ¬ 1000 < N + 4 := fun q => h6 (r.mpr q)
  refine Or.inl ⟨⟨⟨Int32.not_lt.mp h1, Int32.not_lt.mp h2⟩, Classical.byContradiction (fun q => h3 ((sheetn_i p2).mpr q)), Classical.byContradiction (fun q => h4 ((line_i _ _).mpr q)), Classical.byContradiction (fun q => h5 ((line_i _ _).mpr q)), by omega⟩, ?_⟩
  rw [n1, n1, n1, n1, put_in _ _ (by omega), put_in _ _ (by omega), put_in _ _ (by omega), put_in _ _ (by omega)]
  rfl
theorem place_10 {N : Nat} (f : Nat → Int32) (p1 p2 p3 p4 : Int32) (hN : N ≤ 1000) :
    (okPl p1 p2 p3 p4 N ∧ fX10_place (nI N) f p1 p2 p3 p4 = (1, 0, nI (N + 4), wr f N [4 + 16 * p1, p2, p3, p4])) ∨ (¬ okPl p1 p2 p3 p4 N ∧ fX10_place (nI N) f p1 p2 p3 p4 = (0, 0, nI N, f)) := by
  unfold fX10_place
  by_cases h1 : fX10_within p1 0 3 = 0
  · rw [if_pos h1]; exact Or.inr ⟨fun q => (within_i _ _ _).mp h1 q.1, rfl⟩
  rw [if_neg h1]
  by_cases h2 : fX10_within p2 (-1) 7 = 0
  · rw [if_pos h2]; exact Or.inr ⟨fun q => (within_i _ _ _).mp h2 q.2.1, rfl⟩
  rw [if_neg h2]
  by_cases h3 : fX10_isCell p3 p4 = 0
  · rw [if_pos h3]; exact Or.inr ⟨fun q => (cell_i _ _).mp h3 ⟨q.2.2.1, q.2.2.2.1⟩, rfl⟩
  rw [if_neg h3]
  have e : (nI N ≤ 996) ↔ N ≤ 996 := nJ_le (b := 996) (by omega) (by omega)
  by_cases h4 : nI N ≤ 996
  · rw [if_pos h4]
    have h4' := e.mp h4
    refine Or.inl ⟨⟨wI h1, wI h2, (cI h3).1, (cI h3).2, by omega⟩, ?_⟩
    rw [n1, n1, n1, n1, c0 (by omega), c0 (by omega), c0 (by omega), c0 (by omega)]
    rfl
  · rw [if_neg h4]
    exact Or.inr ⟨fun q => h4 (e.mpr (by have := q.2.2.2.2; omega)), rfl⟩
theorem nJ_of {x : Int32} {k : Nat} (h0 : 0 ≤ x) (h : x ≤ nI k) (hk : k < 2000) : ∃ m : Nat, m ≤ k ∧ x = nI m := by
  have h1 := le_toInt.mp h0
  have h2 := le_toInt.mp h
  rw [show (0 : Int32).toInt = 0 from rfl] at h1
  rw [show (nI k).toInt = (k : Int) from nI_toInt (by omega)] at h2
  refine ⟨x.toInt.toNat, by omega, ?_⟩
  rw [eq_toInt, show (nI x.toInt.toNat).toInt = (x.toInt.toNat : Int) from nI_toInt (by omega)]
  omega
theorem hp4 : ∀ m, m < 4 → 4 + 16 * nI m = nI (4 + 16 * m) := by decide +kernel
theorem place_rows {items : List (List Int32)} {f1 f2 : Nat → Int32} {n1 n2 : Int32} (h : Both items n1 f1 n2 f2) (p1 p2 p3 p4 : Int32) :
    (fX9_place n1 f1 p1 p2 p3 p4).1 = (fX10_place n2 f2 p1 p2 p3 p4).1 ∧ ∃ items', Both items' (fX9_place n1 f1 p1 p2 p3 p4).2.1 (fX9_place n1 f1 p1 p2 p3 p4).2.2 (fX10_place n2 f2 p1 p2 p3 p4).2.2.1 (fX10_place n2 f2 p1 p2 p3 p4).2.2.2 := by
  have h0 := h
  obtain ⟨h1, h2, rfl, rfl, h5, h6⟩ := h
  rcases place_9 f1 p1 p2 p3 p4 h2 with ⟨a, e1⟩ | ⟨a, e1⟩ <;> rcases place_10 f2 p1 p2 p3 p4 h2 with ⟨b, e2⟩ | ⟨b, e2⟩
  · rw [e1, e2]
    obtain ⟨⟨a1, a2⟩, a3, a4, a5, a6⟩ := a
    obtain ⟨m, hm, rfl⟩ := nJ_of (k := 3) a1 a2 (by decide)
    exact ⟨rfl, _, h0.push (it := [4 + 16 * nI m, p2, p3, p4]) (Or.inr (Or.inl ⟨m, p2, p3, p4, by omega, a3, a4, a5, by rw [hp4 m (by omega)]⟩)) a6⟩
  · exact absurd a b
  · exact absurd b a
  · rw [e1, e2]
    exact ⟨rfl, _, h0⟩
