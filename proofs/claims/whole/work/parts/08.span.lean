def fX9_isSheet (x : Int32) : Int32 := if x < 0 then 0 else (if 7 < x then 0 else 1)
theorem zb_X9_isSheet (x : Int32) : isB (fX9_isSheet x) := by
  unfold fX9_isSheet
  (try dsimp only)
  repeat' split
  all_goals first | exact Or.inl rfl | exact Or.inr rfl
abbrev rmX9_isSheet : Room := { frames := 0, cells := 0, slots := 0, locals := 0 }
abbrev qX9_isSheet (D : va_G) (sz : Nat) (x : Int32) : Array Value → State → Outcome → State → Prop := vp_Si (fun r_9 => r_9 = (fX9_isSheet x))
set_option maxHeartbeats 4000000 in
set_option maxRecDepth 100000 in
theorem kX9_isSheet (l : Launch) (D : va_G) (sz : Nat) (x : Int32) : Met l yX9_isSheet wsX9_isSheet rmX9_isSheet (va_Pc [.int x] (Pw D [] [] sz)) (qX9_isSheet D sz x) 0 0 (fun _ => False) := by
  refine Met.ofW (cc := cX9_isSheet) (maxL := 1) (ret := (some .boolean)) (by decide) rfl ?_
  intro p e s m args below meth c s₁ B hml hv
  obtain ⟨rfl, hsz, hP, hK, hD0, hN⟩ := hv
  have hx := B.exec
  have hb := B.bytes
  have hr := B.returns
  have hts := atoms_spec (ws := wsX9_isSheet) B.pre
  have hown : s.vm.findClass RX9 = some m.cls := findClass_of_methodNamed B.named
  have hlocks := B.notSynchronized
  subst hsz
  obtain ⟨Q, hQe⟩ : ∃ Q, Q = MQ below (qX9_isSheet D s.heap.size x) ([.int x] : List Value).toArray s 0 0 (fun _ => False) := ⟨_, rfl⟩
  rw [← hQe]
  have hD := hD0
  have hP : va_P D vwCl [] s.heap := hP
  have hl := lv_entry ([.int x]) (n := 1) (Nat.le_of_ble_eq_true rfl)
  rw [lg_entry_eq]
  generalize (lg_sl ([.int x]) ++ List.replicate (1 - (lg_sl ([.int x])).length) Slot.unset).toArray = ls at hl ⊢
  have hl : lv_has ls 1 [(0, .int x)] := hl
  refine lv_iload_n hx hb dX9_isSheet_0 rfl (lv_at hl 0 rfl) ?_
  refine lv_if_lt (tgt := 14) hx hb dX9_isSheet_1 (by decide) (fun c1 => ?_) (fun c1 => ?_)
  · refine lv_iconst (v := 0) hx hb dX9_isSheet_14 (by decide) ?_
    have hF : (fX9_isSheet x) = 0 := by exact (if_pos c1)
    subst hQe
    exact W.zret (v := 0) hx hb hr rfl (fun t ht hW => ⟨_, rfl, hF.symm, ht⟩) (fun q h => absurd h List.not_mem_nil) dX9_isSheet_15
  · refine lv_iload_n hx hb dX9_isSheet_4 rfl (lv_at hl 0 rfl) ?_
    refine lv_bipush (v := 7) hx hb dX9_isSheet_5 (by decide) ?_
    refine lv_icmp_gt (tgt := 14) hx hb dX9_isSheet_7 (by decide) (fun c7 => ?_) (fun c7 => ?_)
    · refine lv_iconst (v := 0) hx hb dX9_isSheet_14 (by decide) ?_
      have hF : (fX9_isSheet x) = 0 := by exact ((if_neg c1).trans (if_pos c7))
      subst hQe
      exact W.zret (v := 0) hx hb hr rfl (fun t ht hW => ⟨_, rfl, hF.symm, ht⟩) (fun q h => absurd h List.not_mem_nil) dX9_isSheet_15
    · refine lv_iconst (v := 1) hx hb dX9_isSheet_10 (by decide) ?_
      refine lv_goto (tgt := 15) hx hb dX9_isSheet_11 (by decide) ?_
      have hF : (fX9_isSheet x) = 1 := by exact ((if_neg c1).trans (if_neg c7))
      subst hQe
      exact W.zret (v := 1) hx hb hr rfl (fun t ht hW => ⟨_, rfl, hF.symm, ht⟩) (fun q h => absurd h List.not_mem_nil) dX9_isSheet_15

def fX9_isSheetOrNone (x : Int32) : Int32 := if x = (-1) then 1 else (if (fX9_isSheet x) = 0 then 0 else 1)
theorem zb_X9_isSheetOrNone (x : Int32) : isB (fX9_isSheetOrNone x) := by
  unfold fX9_isSheetOrNone
  (try dsimp only)
  repeat' split
  all_goals first | exact Or.inl rfl | exact Or.inr rfl
abbrev rmX9_isSheetOrNone : Room := { frames := 1, cells := 0, slots := 0, locals := 20 }
abbrev qX9_isSheetOrNone (D : va_G) (sz : Nat) (x : Int32) : Array Value → State → Outcome → State → Prop := vp_Si (fun r_9 => r_9 = (fX9_isSheetOrNone x))
set_option maxHeartbeats 4000000 in
set_option maxRecDepth 100000 in
theorem kX9_isSheetOrNone (l : Launch) (D : va_G) (sz : Nat) (x : Int32) : Met l yX9_isSheetOrNone wsX9_isSheetOrNone rmX9_isSheetOrNone (va_Pc [.int x] (Pw D [] [] sz)) (qX9_isSheetOrNone D sz x) 0 0 (fun _ => False) := by
  refine Met.ofW (cc := cX9_isSheetOrNone) (maxL := 1) (ret := (some .boolean)) (by decide) rfl ?_
  intro p e s m args below meth c s₁ B hml hv
  obtain ⟨rfl, hsz, hP, hK, hD0, hN⟩ := hv
  have hx := B.exec
  have hb := B.bytes
  have hr := B.returns
  have hts := atoms_spec (ws := wsX9_isSheetOrNone) B.pre
  have hown : s.vm.findClass RX9 = some m.cls := findClass_of_methodNamed B.named
  have hlocks := B.notSynchronized
  subst hsz
  obtain ⟨Q, hQe⟩ : ∃ Q, Q = MQ below (qX9_isSheetOrNone D s.heap.size x) ([.int x] : List Value).toArray s 0 0 (fun _ => False) := ⟨_, rfl⟩
  rw [← hQe]
  have hD := hD0
  have hP : va_P D vwCl [] s.heap := hP
  have hl := lv_entry ([.int x]) (n := 1) (Nat.le_of_ble_eq_true rfl)
  rw [lg_entry_eq]
  generalize (lg_sl ([.int x]) ++ List.replicate (1 - (lg_sl ([.int x])).length) Slot.unset).toArray = ls at hl ⊢
  have hl : lv_has ls 1 [(0, .int x)] := hl
  refine lv_iload_n hx hb dX9_isSheetOrNone_0 rfl (lv_at hl 0 rfl) ?_
  refine lv_iconst (v := (-1)) hx hb dX9_isSheetOrNone_1 (by decide) ?_
  refine lv_icmp_eq (tgt := 12) hx hb dX9_isSheetOrNone_2 (by decide) (fun c2 => ?_) (fun c2 => ?_)
  · refine lv_iconst (v := 1) hx hb dX9_isSheetOrNone_12 (by decide) ?_
    refine lv_goto (tgt := 17) hx hb dX9_isSheetOrNone_13 (by decide) ?_
    have hF : (fX9_isSheetOrNone x) = 1 := by exact (if_pos c2)
    subst hQe
    exact W.zret (v := 1) hx hb hr rfl (fun t ht hW => ⟨_, rfl, hF.symm, ht⟩) (fun q h => absurd h List.not_mem_nil) dX9_isSheetOrNone_17
  · refine lv_iload_n hx hb dX9_isSheetOrNone_5 rfl (lv_at hl 0 rfl) ?_
    have hPc := hP.sub (ws' := []) [] rfl
    have hDc := hD.sub (ws' := []) [] (by decide) rfl
    have hKc := hK.sub (tys' := []) [] rfl
    refine rd_i (va_runS (As := [.int x]) (rest := []) ⟨hx, hb, hml, hown, hts⟩ (kX9_isSheet l D s.heap.size x ) (va_cwS 1 hts gX9_isSheetOrNone_X9_isSheet rfl rfl rfl (by decide +kernel) ⟨Nat.le_of_ble_eq_true rfl, Nat.le_of_ble_eq_true rfl⟩) ⟨Pw_blind, fun U hU hW => Pw_at hKc hPc hDc hN hU hW⟩ rfl rfl hl.1 rfl (lv_room (Nat.le_of_ble_eq_true rfl)) dX9_isSheetOrNone_6 ⟨Nat.le_of_ble_eq_true rfl, Nat.le_of_ble_eq_true rfl⟩) ?_
    refine lv_if_eq (tgt := 16) hx hb dX9_isSheetOrNone_9 (by decide) (fun c9 => ?_) (fun c9 => ?_)
    · refine lv_iconst (v := 0) hx hb dX9_isSheetOrNone_16 (by decide) ?_
      have hF : (fX9_isSheetOrNone x) = 0 := by exact ((if_neg c2).trans (if_pos c9))
      subst hQe
      exact W.zret (v := 0) hx hb hr rfl (fun t ht hW => ⟨_, rfl, hF.symm, ht⟩) (fun q h => absurd h List.not_mem_nil) dX9_isSheetOrNone_17
    · refine lv_iconst (v := 1) hx hb dX9_isSheetOrNone_12 (by decide) ?_
      refine lv_goto (tgt := 17) hx hb dX9_isSheetOrNone_13 (by decide) ?_
      have hF : (fX9_isSheetOrNone x) = 1 := by exact ((if_neg c2).trans (if_neg c9))
      subst hQe
      exact W.zret (v := 1) hx hb hr rfl (fun t ht hW => ⟨_, rfl, hF.symm, ht⟩) (fun q h => absurd h List.not_mem_nil) dX9_isSheetOrNone_17

def fX9_isLine (x : Int32) (y : Int32) : Int32 := if x < 1 then 0 else (if y < x then 0 else 1)
theorem zb_X9_isLine (x : Int32) (y : Int32) : isB (fX9_isLine x y) := by
  unfold fX9_isLine
  (try dsimp only)
  repeat' split
  all_goals first | exact Or.inl rfl | exact Or.inr rfl
abbrev rmX9_isLine : Room := { frames := 0, cells := 0, slots := 0, locals := 0 }
abbrev qX9_isLine (D : va_G) (sz : Nat) (x : Int32) (y : Int32) : Array Value → State → Outcome → State → Prop := vp_Si (fun r_9 => r_9 = (fX9_isLine x y))
set_option maxHeartbeats 4000000 in
set_option maxRecDepth 100000 in
theorem kX9_isLine (l : Launch) (D : va_G) (sz : Nat) (x : Int32) (y : Int32) : Met l yX9_isLine wsX9_isLine rmX9_isLine (va_Pc [.int x, .int y] (Pw D [] [] sz)) (qX9_isLine D sz x y) 0 0 (fun _ => False) := by
  refine Met.ofW (cc := cX9_isLine) (maxL := 2) (ret := (some .boolean)) (by decide) rfl ?_
  intro p e s m args below meth c s₁ B hml hv
  obtain ⟨rfl, hsz, hP, hK, hD0, hN⟩ := hv
  have hx := B.exec
  have hb := B.bytes
  have hr := B.returns
  have hts := atoms_spec (ws := wsX9_isLine) B.pre
  have hown : s.vm.findClass RX9 = some m.cls := findClass_of_methodNamed B.named
  have hlocks := B.notSynchronized
  subst hsz
  obtain ⟨Q, hQe⟩ : ∃ Q, Q = MQ below (qX9_isLine D s.heap.size x y) ([.int x, .int y] : List Value).toArray s 0 0 (fun _ => False) := ⟨_, rfl⟩
  rw [← hQe]
  have hD := hD0
  have hP : va_P D vwCl [] s.heap := hP
  have hl := lv_entry ([.int x, .int y]) (n := 2) (Nat.le_of_ble_eq_true rfl)
  rw [lg_entry_eq]
  generalize (lg_sl ([.int x, .int y]) ++ List.replicate (2 - (lg_sl ([.int x, .int y])).length) Slot.unset).toArray = ls at hl ⊢
  have hl : lv_has ls 2 [(0, .int x), (1, .int y)] := hl
  refine lv_iload_n hx hb dX9_isLine_0 rfl (lv_at hl 0 rfl) ?_
  refine lv_iconst (v := 1) hx hb dX9_isLine_1 (by decide) ?_
  refine lv_icmp_lt (tgt := 14) hx hb dX9_isLine_2 (by decide) (fun c2 => ?_) (fun c2 => ?_)
  · refine lv_iconst (v := 0) hx hb dX9_isLine_14 (by decide) ?_
    have hF : (fX9_isLine x y) = 0 := by exact (if_pos c2)
    subst hQe
    exact W.zret (v := 0) hx hb hr rfl (fun t ht hW => ⟨_, rfl, hF.symm, ht⟩) (fun q h => absurd h List.not_mem_nil) dX9_isLine_15
  · refine lv_iload_n hx hb dX9_isLine_5 rfl (lv_at hl 0 rfl) ?_
    refine lv_iload_n hx hb dX9_isLine_6 rfl (lv_at hl 1 rfl) ?_
    refine lv_icmp_gt (tgt := 14) hx hb dX9_isLine_7 (by decide) (fun c7 => ?_) (fun c7 => ?_)
    · refine lv_iconst (v := 0) hx hb dX9_isLine_14 (by decide) ?_
      have hF : (fX9_isLine x y) = 0 := by exact ((if_neg c2).trans (if_pos c7))
      subst hQe
      exact W.zret (v := 0) hx hb hr rfl (fun t ht hW => ⟨_, rfl, hF.symm, ht⟩) (fun q h => absurd h List.not_mem_nil) dX9_isLine_15
    · refine lv_iconst (v := 1) hx hb dX9_isLine_10 (by decide) ?_
      refine lv_goto (tgt := 15) hx hb dX9_isLine_11 (by decide) ?_
      have hF : (fX9_isLine x y) = 1 := by exact ((if_neg c2).trans (if_neg c7))
      subst hQe
      exact W.zret (v := 1) hx hb hr rfl (fun t ht hW => ⟨_, rfl, hF.symm, ht⟩) (fun q h => absurd h List.not_mem_nil) dX9_isLine_15

def fX9_areLines (x : Int32) (y : Int32) (z : Int32) : Int32 := if x < 1 then 0 else (if y < x then 0 else (if z < y then 0 else 1))
theorem zb_X9_areLines (x : Int32) (y : Int32) (z : Int32) : isB (fX9_areLines x y z) := by
  unfold fX9_areLines
  (try dsimp only)
  repeat' split
  all_goals first | exact Or.inl rfl | exact Or.inr rfl
abbrev rmX9_areLines : Room := { frames := 0, cells := 0, slots := 0, locals := 0 }
abbrev qX9_areLines (D : va_G) (sz : Nat) (x : Int32) (y : Int32) (z : Int32) : Array Value → State → Outcome → State → Prop := vp_Si (fun r_9 => r_9 = (fX9_areLines x y z))
set_option maxHeartbeats 4000000 in
set_option maxRecDepth 100000 in
theorem kX9_areLines (l : Launch) (D : va_G) (sz : Nat) (x : Int32) (y : Int32) (z : Int32) : Met l yX9_areLines wsX9_areLines rmX9_areLines (va_Pc [.int x, .int y, .int z] (Pw D [] [] sz)) (qX9_areLines D sz x y z) 0 0 (fun _ => False) := by
  refine Met.ofW (cc := cX9_areLines) (maxL := 3) (ret := (some .boolean)) (by decide) rfl ?_
  intro p e s m args below meth c s₁ B hml hv
  obtain ⟨rfl, hsz, hP, hK, hD0, hN⟩ := hv
  have hx := B.exec
  have hb := B.bytes
  have hr := B.returns
  have hts := atoms_spec (ws := wsX9_areLines) B.pre
  have hown : s.vm.findClass RX9 = some m.cls := findClass_of_methodNamed B.named
  have hlocks := B.notSynchronized
  subst hsz
  obtain ⟨Q, hQe⟩ : ∃ Q, Q = MQ below (qX9_areLines D s.heap.size x y z) ([.int x, .int y, .int z] : List Value).toArray s 0 0 (fun _ => False) := ⟨_, rfl⟩
  rw [← hQe]
  have hD := hD0
  have hP : va_P D vwCl [] s.heap := hP
  have hl := lv_entry ([.int x, .int y, .int z]) (n := 3) (Nat.le_of_ble_eq_true rfl)
  rw [lg_entry_eq]
  generalize (lg_sl ([.int x, .int y, .int z]) ++ List.replicate (3 - (lg_sl ([.int x, .int y, .int z])).length) Slot.unset).toArray = ls at hl ⊢
  have hl : lv_has ls 3 [(0, .int x), (1, .int y), (2, .int z)] := hl
  refine lv_iload_n hx hb dX9_areLines_0 rfl (lv_at hl 0 rfl) ?_
  refine lv_iconst (v := 1) hx hb dX9_areLines_1 (by decide) ?_
  refine lv_icmp_lt (tgt := 19) hx hb dX9_areLines_2 (by decide) (fun c2 => ?_) (fun c2 => ?_)
  · refine lv_iconst (v := 0) hx hb dX9_areLines_19 (by decide) ?_
    have hF : (fX9_areLines x y z) = 0 := by exact (if_pos c2)
    subst hQe
    exact W.zret (v := 0) hx hb hr rfl (fun t ht hW => ⟨_, rfl, hF.symm, ht⟩) (fun q h => absurd h List.not_mem_nil) dX9_areLines_20
  · refine lv_iload_n hx hb dX9_areLines_5 rfl (lv_at hl 0 rfl) ?_
    refine lv_iload_n hx hb dX9_areLines_6 rfl (lv_at hl 1 rfl) ?_
    refine lv_icmp_gt (tgt := 19) hx hb dX9_areLines_7 (by decide) (fun c7 => ?_) (fun c7 => ?_)
    · refine lv_iconst (v := 0) hx hb dX9_areLines_19 (by decide) ?_
      have hF : (fX9_areLines x y z) = 0 := by exact ((if_neg c2).trans (if_pos c7))
      subst hQe
      exact W.zret (v := 0) hx hb hr rfl (fun t ht hW => ⟨_, rfl, hF.symm, ht⟩) (fun q h => absurd h List.not_mem_nil) dX9_areLines_20
    · refine lv_iload_n hx hb dX9_areLines_10 rfl (lv_at hl 1 rfl) ?_
      refine lv_iload_n hx hb dX9_areLines_11 rfl (lv_at hl 2 rfl) ?_
      refine lv_icmp_gt (tgt := 19) hx hb dX9_areLines_12 (by decide) (fun c12 => ?_) (fun c12 => ?_)
      · refine lv_iconst (v := 0) hx hb dX9_areLines_19 (by decide) ?_
        have hF : (fX9_areLines x y z) = 0 := by exact ((if_neg c2).trans ((if_neg c7).trans (if_pos c12)))
        subst hQe
        exact W.zret (v := 0) hx hb hr rfl (fun t ht hW => ⟨_, rfl, hF.symm, ht⟩) (fun q h => absurd h List.not_mem_nil) dX9_areLines_20
      · refine lv_iconst (v := 1) hx hb dX9_areLines_15 (by decide) ?_
        refine lv_goto (tgt := 20) hx hb dX9_areLines_16 (by decide) ?_
        have hF : (fX9_areLines x y z) = 1 := by exact ((if_neg c2).trans ((if_neg c7).trans (if_neg c12)))
        subst hQe
        exact W.zret (v := 1) hx hb hr rfl (fun t ht hW => ⟨_, rfl, hF.symm, ht⟩) (fun q h => absurd h List.not_mem_nil) dX9_areLines_20

def fX9_areAllLines (x : Int32) (y : Int32) (z : Int32) : Int32 := if x = 1 then (if y = z then 1 else 0) else 0
theorem zb_X9_areAllLines (x : Int32) (y : Int32) (z : Int32) : isB (fX9_areAllLines x y z) := by
  unfold fX9_areAllLines
  (try dsimp only)
  repeat' split
  all_goals first | exact Or.inl rfl | exact Or.inr rfl
abbrev rmX9_areAllLines : Room := { frames := 0, cells := 0, slots := 0, locals := 0 }
abbrev qX9_areAllLines (D : va_G) (sz : Nat) (x : Int32) (y : Int32) (z : Int32) : Array Value → State → Outcome → State → Prop := vp_Si (fun r_9 => r_9 = (fX9_areAllLines x y z))
set_option maxHeartbeats 4000000 in
set_option maxRecDepth 100000 in
theorem kX9_areAllLines (l : Launch) (D : va_G) (sz : Nat) (x : Int32) (y : Int32) (z : Int32) : Met l yX9_areAllLines wsX9_areAllLines rmX9_areAllLines (va_Pc [.int x, .int y, .int z] (Pw D [] [] sz)) (qX9_areAllLines D sz x y z) 0 0 (fun _ => False) := by
  refine Met.ofW (cc := cX9_areAllLines) (maxL := 3) (ret := (some .boolean)) (by decide) rfl ?_
  intro p e s m args below meth c s₁ B hml hv
  obtain ⟨rfl, hsz, hP, hK, hD0, hN⟩ := hv
  have hx := B.exec
  have hb := B.bytes
  have hr := B.returns
  have hts := atoms_spec (ws := wsX9_areAllLines) B.pre
  have hown : s.vm.findClass RX9 = some m.cls := findClass_of_methodNamed B.named
  have hlocks := B.notSynchronized
  subst hsz
  obtain ⟨Q, hQe⟩ : ∃ Q, Q = MQ below (qX9_areAllLines D s.heap.size x y z) ([.int x, .int y, .int z] : List Value).toArray s 0 0 (fun _ => False) := ⟨_, rfl⟩
  rw [← hQe]
  have hD := hD0
  have hP : va_P D vwCl [] s.heap := hP
  have hl := lv_entry ([.int x, .int y, .int z]) (n := 3) (Nat.le_of_ble_eq_true rfl)
  rw [lg_entry_eq]
  generalize (lg_sl ([.int x, .int y, .int z]) ++ List.replicate (3 - (lg_sl ([.int x, .int y, .int z])).length) Slot.unset).toArray = ls at hl ⊢
  have hl : lv_has ls 3 [(0, .int x), (1, .int y), (2, .int z)] := hl
  refine lv_iload_n hx hb dX9_areAllLines_0 rfl (lv_at hl 0 rfl) ?_
  refine lv_iconst (v := 1) hx hb dX9_areAllLines_1 (by decide) ?_
  refine lv_icmp_ne (tgt := 14) hx hb dX9_areAllLines_2 (by decide) (fun c2 => ?_) (fun c2 => ?_)
  · refine lv_iconst (v := 0) hx hb dX9_areAllLines_14 (by decide) ?_
    have hF : (fX9_areAllLines x y z) = 0 := by exact (if_neg c2)
    subst hQe
    exact W.zret (v := 0) hx hb hr rfl (fun t ht hW => ⟨_, rfl, hF.symm, ht⟩) (fun q h => absurd h List.not_mem_nil) dX9_areAllLines_15
  · refine lv_iload_n hx hb dX9_areAllLines_5 rfl (lv_at hl 1 rfl) ?_
    refine lv_iload_n hx hb dX9_areAllLines_6 rfl (lv_at hl 2 rfl) ?_
    refine lv_icmp_ne (tgt := 14) hx hb dX9_areAllLines_7 (by decide) (fun c7 => ?_) (fun c7 => ?_)
    · refine lv_iconst (v := 0) hx hb dX9_areAllLines_14 (by decide) ?_
      have hF : (fX9_areAllLines x y z) = 0 := by exact ((if_pos c2).trans (if_neg c7))
      subst hQe
      exact W.zret (v := 0) hx hb hr rfl (fun t ht hW => ⟨_, rfl, hF.symm, ht⟩) (fun q h => absurd h List.not_mem_nil) dX9_areAllLines_15
    · refine lv_iconst (v := 1) hx hb dX9_areAllLines_10 (by decide) ?_
      refine lv_goto (tgt := 15) hx hb dX9_areAllLines_11 (by decide) ?_
      have hF : (fX9_areAllLines x y z) = 1 := by exact ((if_pos c2).trans (if_pos c7))
      subst hQe
      exact W.zret (v := 1) hx hb hr rfl (fun t ht hW => ⟨_, rfl, hF.symm, ht⟩) (fun q h => absurd h List.not_mem_nil) dX9_areAllLines_15

def fX9_has (x : Int32) (y : Int32) : Int32 := if (x &&& y) = 0 then 0 else 1
theorem zb_X9_has (x : Int32) (y : Int32) : isB (fX9_has x y) := by
  unfold fX9_has
  (try dsimp only)
  repeat' split
  all_goals first | exact Or.inl rfl | exact Or.inr rfl
abbrev rmX9_has : Room := { frames := 0, cells := 0, slots := 0, locals := 0 }
abbrev qX9_has (D : va_G) (sz : Nat) (x : Int32) (y : Int32) : Array Value → State → Outcome → State → Prop := vp_Si (fun r_9 => r_9 = (fX9_has x y))
set_option maxHeartbeats 4000000 in
set_option maxRecDepth 100000 in
theorem kX9_has (l : Launch) (D : va_G) (sz : Nat) (x : Int32) (y : Int32) : Met l yX9_has wsX9_has rmX9_has (va_Pc [.int x, .int y] (Pw D [] [] sz)) (qX9_has D sz x y) 0 0 (fun _ => False) := by
  refine Met.ofW (cc := cX9_has) (maxL := 2) (ret := (some .boolean)) (by decide) rfl ?_
  intro p e s m args below meth c s₁ B hml hv
  obtain ⟨rfl, hsz, hP, hK, hD0, hN⟩ := hv
  have hx := B.exec
  have hb := B.bytes
  have hr := B.returns
  have hts := atoms_spec (ws := wsX9_has) B.pre
  have hown : s.vm.findClass RX9 = some m.cls := findClass_of_methodNamed B.named
  have hlocks := B.notSynchronized
  subst hsz
  obtain ⟨Q, hQe⟩ : ∃ Q, Q = MQ below (qX9_has D s.heap.size x y) ([.int x, .int y] : List Value).toArray s 0 0 (fun _ => False) := ⟨_, rfl⟩
  rw [← hQe]
  have hD := hD0
  have hP : va_P D vwCl [] s.heap := hP
  have hl := lv_entry ([.int x, .int y]) (n := 2) (Nat.le_of_ble_eq_true rfl)
  rw [lg_entry_eq]
  generalize (lg_sl ([.int x, .int y]) ++ List.replicate (2 - (lg_sl ([.int x, .int y])).length) Slot.unset).toArray = ls at hl ⊢
  have hl : lv_has ls 2 [(0, .int x), (1, .int y)] := hl
  refine lv_iload_n hx hb dX9_has_0 rfl (lv_at hl 0 rfl) ?_
  refine lv_iload_n hx hb dX9_has_1 rfl (lv_at hl 1 rfl) ?_
  refine lv_iand hx hb dX9_has_2 ?_
  refine lv_if_eq (tgt := 10) hx hb dX9_has_3 (by decide) (fun c3 => ?_) (fun c3 => ?_)
  · refine lv_iconst (v := 0) hx hb dX9_has_10 (by decide) ?_
    have hF : (fX9_has x y) = 0 := by exact (if_pos c3)
    subst hQe
    exact W.zret (v := 0) hx hb hr rfl (fun t ht hW => ⟨_, rfl, hF.symm, ht⟩) (fun q h => absurd h List.not_mem_nil) dX9_has_11
  · refine lv_iconst (v := 1) hx hb dX9_has_6 (by decide) ?_
    refine lv_goto (tgt := 11) hx hb dX9_has_7 (by decide) ?_
    have hF : (fX9_has x y) = 1 := by exact (if_neg c3)
    subst hQe
    exact W.zret (v := 1) hx hb hr rfl (fun t ht hW => ⟨_, rfl, hF.symm, ht⟩) (fun q h => absurd h List.not_mem_nil) dX9_has_11

def fX9_isOfKind (x : Int32) (y : Int32) : Int32 := if x < 0 then 0 else (if (x - x / 16 * 16) = y then 1 else 0)
theorem zb_X9_isOfKind (x : Int32) (y : Int32) : isB (fX9_isOfKind x y) := by
  unfold fX9_isOfKind
  (try dsimp only)
  repeat' split
  all_goals first | exact Or.inl rfl | exact Or.inr rfl
abbrev rmX9_isOfKind : Room := { frames := 0, cells := 0, slots := 0, locals := 0 }
abbrev qX9_isOfKind (D : va_G) (sz : Nat) (x : Int32) (y : Int32) : Array Value → State → Outcome → State → Prop := vp_Si (fun r_9 => r_9 = (fX9_isOfKind x y))
set_option maxHeartbeats 4000000 in
set_option maxRecDepth 100000 in
theorem kX9_isOfKind (l : Launch) (D : va_G) (sz : Nat) (x : Int32) (y : Int32) : Met l yX9_isOfKind wsX9_isOfKind rmX9_isOfKind (va_Pc [.int x, .int y] (Pw D [] [] sz)) (qX9_isOfKind D sz x y) 0 0 (fun _ => False) := by
  refine Met.ofW (cc := cX9_isOfKind) (maxL := 2) (ret := (some .boolean)) (by decide) rfl ?_
  intro p e s m args below meth c s₁ B hml hv
  obtain ⟨rfl, hsz, hP, hK, hD0, hN⟩ := hv
  have hx := B.exec
  have hb := B.bytes
  have hr := B.returns
  have hts := atoms_spec (ws := wsX9_isOfKind) B.pre
  have hown : s.vm.findClass RX9 = some m.cls := findClass_of_methodNamed B.named
  have hlocks := B.notSynchronized
  subst hsz
  obtain ⟨Q, hQe⟩ : ∃ Q, Q = MQ below (qX9_isOfKind D s.heap.size x y) ([.int x, .int y] : List Value).toArray s 0 0 (fun _ => False) := ⟨_, rfl⟩
  rw [← hQe]
  have hD := hD0
  have hP : va_P D vwCl [] s.heap := hP
  have hl := lv_entry ([.int x, .int y]) (n := 2) (Nat.le_of_ble_eq_true rfl)
  rw [lg_entry_eq]
  generalize (lg_sl ([.int x, .int y]) ++ List.replicate (2 - (lg_sl ([.int x, .int y])).length) Slot.unset).toArray = ls at hl ⊢
  have hl : lv_has ls 2 [(0, .int x), (1, .int y)] := hl
  refine lv_iload_n hx hb dX9_isOfKind_0 rfl (lv_at hl 0 rfl) ?_
  refine lv_if_lt (tgt := 16) hx hb dX9_isOfKind_1 (by decide) (fun c1 => ?_) (fun c1 => ?_)
  · refine lv_iconst (v := 0) hx hb dX9_isOfKind_16 (by decide) ?_
    have hF : (fX9_isOfKind x y) = 0 := by exact (if_pos c1)
    subst hQe
    exact W.zret (v := 0) hx hb hr rfl (fun t ht hW => ⟨_, rfl, hF.symm, ht⟩) (fun q h => absurd h List.not_mem_nil) dX9_isOfKind_17
  · refine lv_iload_n hx hb dX9_isOfKind_4 rfl (lv_at hl 0 rfl) ?_
    refine lv_bipush (v := 16) hx hb dX9_isOfKind_5 (by decide) ?_
    refine lv_irem hx hb dX9_isOfKind_7 (by decide) ?_
    refine lv_iload_n hx hb dX9_isOfKind_8 rfl (lv_at hl 1 rfl) ?_
    refine lv_icmp_ne (tgt := 16) hx hb dX9_isOfKind_9 (by decide) (fun c9 => ?_) (fun c9 => ?_)
    · refine lv_iconst (v := 0) hx hb dX9_isOfKind_16 (by decide) ?_
      have hF : (fX9_isOfKind x y) = 0 := by exact ((if_neg c1).trans (if_neg c9))
      subst hQe
      exact W.zret (v := 0) hx hb hr rfl (fun t ht hW => ⟨_, rfl, hF.symm, ht⟩) (fun q h => absurd h List.not_mem_nil) dX9_isOfKind_17
    · refine lv_iconst (v := 1) hx hb dX9_isOfKind_12 (by decide) ?_
      refine lv_goto (tgt := 17) hx hb dX9_isOfKind_13 (by decide) ?_
      have hF : (fX9_isOfKind x y) = 1 := by exact ((if_neg c1).trans (if_pos c9))
      subst hQe
      exact W.zret (v := 1) hx hb hr rfl (fun t ht hW => ⟨_, rfl, hF.symm, ht⟩) (fun q h => absurd h List.not_mem_nil) dX9_isOfKind_17

def fX9_itemLength (x : Int32) : Int32 := if (fX9_isOfKind x 4) = 0 then (if (fX9_isOfKind x 5) = 0 then 1 else 6) else 4
abbrev rmX9_itemLength : Room := { frames := 1, cells := 0, slots := 0, locals := 21 }
abbrev qX9_itemLength (D : va_G) (sz : Nat) (x : Int32) : Array Value → State → Outcome → State → Prop := vp_Si (fun r_9 => r_9 = (fX9_itemLength x))
set_option maxHeartbeats 4000000 in
set_option maxRecDepth 100000 in
theorem kX9_itemLength (l : Launch) (D : va_G) (sz : Nat) (x : Int32) : Met l yX9_itemLength wsX9_itemLength rmX9_itemLength (va_Pc [.int x] (Pw D [] [] sz)) (qX9_itemLength D sz x) 0 0 (fun _ => False) := by
  refine Met.ofW (cc := cX9_itemLength) (maxL := 1) (ret := (some .int)) (by decide) rfl ?_
  intro p e s m args below meth c s₁ B hml hv
  obtain ⟨rfl, hsz, hP, hK, hD0, hN⟩ := hv
  have hx := B.exec
  have hb := B.bytes
  have hr := B.returns
  have hts := atoms_spec (ws := wsX9_itemLength) B.pre
  have hown : s.vm.findClass RX9 = some m.cls := findClass_of_methodNamed B.named
  have hlocks := B.notSynchronized
  subst hsz
  obtain ⟨Q, hQe⟩ : ∃ Q, Q = MQ below (qX9_itemLength D s.heap.size x) ([.int x] : List Value).toArray s 0 0 (fun _ => False) := ⟨_, rfl⟩
  rw [← hQe]
  have hD := hD0
  have hP : va_P D vwCl [] s.heap := hP
  have hl := lv_entry ([.int x]) (n := 1) (Nat.le_of_ble_eq_true rfl)
  rw [lg_entry_eq]
  generalize (lg_sl ([.int x]) ++ List.replicate (1 - (lg_sl ([.int x])).length) Slot.unset).toArray = ls at hl ⊢
  have hl : lv_has ls 1 [(0, .int x)] := hl
  refine lv_iload_n hx hb dX9_itemLength_0 rfl (lv_at hl 0 rfl) ?_
  refine lv_iconst (v := 4) hx hb dX9_itemLength_1 (by decide) ?_
  have hPc := hP.sub (ws' := []) [] rfl
  have hDc := hD.sub (ws' := []) [] (by decide) rfl
  have hKc := hK.sub (tys' := []) [] rfl
  refine rd_i (va_runS (As := [.int x, .int 4]) (rest := []) ⟨hx, hb, hml, hown, hts⟩ (kX9_isOfKind l D s.heap.size x 4 ) (va_cwS 2 hts gX9_itemLength_X9_isOfKind rfl rfl rfl (by decide +kernel) ⟨Nat.le_of_ble_eq_true rfl, Nat.le_of_ble_eq_true rfl⟩) ⟨Pw_blind, fun U hU hW => Pw_at hKc hPc hDc hN hU hW⟩ rfl rfl hl.1 rfl (lv_room (Nat.le_of_ble_eq_true rfl)) dX9_itemLength_2 ⟨Nat.le_of_ble_eq_true rfl, Nat.le_of_ble_eq_true rfl⟩) ?_
  refine lv_if_eq (tgt := 10) hx hb dX9_itemLength_5 (by decide) (fun c5 => ?_) (fun c5 => ?_)
  · refine lv_iload_n hx hb dX9_itemLength_10 rfl (lv_at hl 0 rfl) ?_
    refine lv_iconst (v := 5) hx hb dX9_itemLength_11 (by decide) ?_
    have hPc := hP.sub (ws' := []) [] rfl
    have hDc := hD.sub (ws' := []) [] (by decide) rfl
    have hKc := hK.sub (tys' := []) [] rfl
    refine rd_i (va_runS (As := [.int x, .int 5]) (rest := []) ⟨hx, hb, hml, hown, hts⟩ (kX9_isOfKind l D s.heap.size x 5 ) (va_cwS 2 hts gX9_itemLength_X9_isOfKind rfl rfl rfl (by decide +kernel) ⟨Nat.le_of_ble_eq_true rfl, Nat.le_of_ble_eq_true rfl⟩) ⟨Pw_blind, fun U hU hW => Pw_at hKc hPc hDc hN hU hW⟩ rfl rfl hl.1 rfl (lv_room (Nat.le_of_ble_eq_true rfl)) dX9_itemLength_12 ⟨Nat.le_of_ble_eq_true rfl, Nat.le_of_ble_eq_true rfl⟩) ?_
    refine lv_if_eq (tgt := 23) hx hb dX9_itemLength_15 (by decide) (fun c15 => ?_) (fun c15 => ?_)
    · refine lv_iconst (v := 1) hx hb dX9_itemLength_23 (by decide) ?_
      have hF : (fX9_itemLength x) = 1 := by exact ((if_pos c5).trans (if_pos c15))
      subst hQe
      exact W.iret (v := 1) hx hb hr (fun t ht hW => ⟨_, rfl, hF.symm, ht⟩) (fun q h => absurd h List.not_mem_nil) dX9_itemLength_24
    · refine lv_bipush (v := 6) hx hb dX9_itemLength_18 (by decide) ?_
      refine lv_goto (tgt := 24) hx hb dX9_itemLength_20 (by decide) ?_
      have hF : (fX9_itemLength x) = 6 := by exact ((if_pos c5).trans (if_neg c15))
      subst hQe
      exact W.iret (v := 6) hx hb hr (fun t ht hW => ⟨_, rfl, hF.symm, ht⟩) (fun q h => absurd h List.not_mem_nil) dX9_itemLength_24
  · refine lv_iconst (v := 4) hx hb dX9_itemLength_8 (by decide) ?_
    have hF : (fX9_itemLength x) = 4 := by exact (if_neg c5)
    subst hQe
    exact W.iret (v := 4) hx hb hr (fun t ht hW => ⟨_, rfl, hF.symm, ht⟩) (fun q h => absurd h List.not_mem_nil) dX9_itemLength_9

abbrev rmX8_setFirst : Room := { frames := 0, cells := 0, slots := 0, locals := 0 }
abbrev qX8_setFirst (D : va_G) (sz : Nat) (h0 : Nat) (ll : Int32) (fi : Int32) (la : Int32) (ff : Int32) (lf : Int32) (x : Int32) (z : Int32) : Array Value → State → Outcome → State → Prop := va_Qv (fun w_9 => ∃ _u : Unit, True ∧ w_9 = [(h0, .inr (6, [.int ll, .int x, .int la, .int z, .int lf]))]) (Bq D (va_A [(h0, .inr (6, [.int ll, .int fi, .int la, .int ff, .int lf]))] sz)) (va_A [(h0, .inr (6, [.int ll, .int fi, .int la, .int ff, .int lf]))] sz)
set_option maxHeartbeats 4000000 in
set_option maxRecDepth 100000 in
theorem kX8_setFirst (l : Launch) (D : va_G) (sz : Nat) (h0 : Nat) (ll : Int32) (fi : Int32) (la : Int32) (ff : Int32) (lf : Int32) (x : Int32) (z : Int32) (hz : isB z) : Met l yX8_setFirst wsX8_setFirst rmX8_setFirst (va_Pc [.ref h0, .int x, .int z] (Pw D [] [(h0, .inr (6, [.int ll, .int fi, .int la, .int ff, .int lf]))] sz)) (qX8_setFirst D sz h0 ll fi la ff lf x z) 0 0 (va_A [(h0, .inr (6, [.int ll, .int fi, .int la, .int ff, .int lf]))] sz) := by
  refine Met.ofW (cc := cX8_setFirst) (maxL := 3) (ret := none) (by decide) rfl ?_
  intro p e s m args below meth c s₁ B hml hv
  obtain ⟨rfl, hsz, hP, hK, hD0, hN⟩ := hv
  have hx := B.exec
  have hb := B.bytes
  have hr := B.returns
  have hts := atoms_spec (ws := wsX8_setFirst) B.pre
  have hown : s.vm.findClass RX8 = some m.cls := findClass_of_methodNamed B.named
  have hlocks := B.notSynchronized
  subst hsz
  obtain ⟨Q, hQe⟩ : ∃ Q, Q = MQ below (qX8_setFirst D s.heap.size h0 ll fi la ff lf x z) ([.ref h0, .int x, .int z] : List Value).toArray s 0 0 (va_A [(h0, .inr (6, [.int ll, .int fi, .int la, .int ff, .int lf]))] s.heap.size) := ⟨_, rfl⟩
  rw [← hQe]
  obtain ⟨A, hAe⟩ : ∃ A, A = va_A [(h0, .inr (6, [.int ll, .int fi, .int la, .int ff, .int lf]))] s.heap.size := ⟨_, rfl⟩
  have hD : va_D A [(h0, .inr (6, [.int ll, .int fi, .int la, .int ff, .int lf]))] := by rw [hAe]; exact hD0.self
  have hA : ∀ q : Nat, s.heap.size ≤ q → A q := by rw [hAe]; exact mo_A
  have hS : va_S A s.heap s.heap [] := va_S.rf
  obtain ⟨H, hHe⟩ : ∃ H, H = s.heap := ⟨_, rfl⟩
  obtain ⟨locs, hLe⟩ : ∃ L : List Loc, L = [] := ⟨_, rfl⟩
  have hP : va_P D vwCl [(h0, .inr (6, [.int ll, .int fi, .int la, .int ff, .int lf]))] H := by rw [hHe]; exact hP
  have hS : va_S A s.heap H locs := by rw [hHe, hLe]; exact hS
  have hl := lv_entry ([.ref h0, .int x, .int z]) (n := 3) (Nat.le_of_ble_eq_true rfl)
  rw [lg_entry_eq]
  generalize (lg_sl ([.ref h0, .int x, .int z]) ++ List.replicate (3 - (lg_sl ([.ref h0, .int x, .int z])).length) Slot.unset).toArray = ls at hl ⊢
  have hl : lv_has ls 3 [(0, .ref h0), (1, .int x), (2, .int z)] := hl
  refine hStart hHe hLe ?_
  clear hHe hLe
  have w_X8 : ∀ w ∈ wsX80, w ∈ wsX8_setFirst := by decide +kernel
  have f_13 := hts (.fieldLink RX8 13 "ReferenceMover$Span" "first" "I") (by decide +kernel)
  have f_16 := hts (.fieldLink RX8 16 "ReferenceMover$Span" "firstFixed" "Z") (by decide +kernel)
  refine lv_aload_n hx hb dX8_setFirst_0 rfl (lv_at hl 0 rfl) ?_
  refine lv_iload_n hx hb dX8_setFirst_1 rfl (lv_at hl 1 rfl) ?_
  refine va_put (D := D) (ci := 6) (v := .int x) (ty := .int) (C := RX8) (T := TX8) (N := 5) hx hb hts w_X8 tyX8 tyX8_ok nmX8 hown hK hP hD hS 0 rfl rfl 1 (by decide) f_13 (fun _ h9 => h9) rfl (by decide +kernel) rfl rfl (Nat.le_of_ble_eq_true rfl) dX8_setFirst_2 (fun H locs hP hD hS => ?_)
  have hP : va_P D vwCl [(h0, .inr (6, [.int ll, .int x, .int la, .int ff, .int lf]))] H := hP
  have hD : va_D A [(h0, .inr (6, [.int ll, .int x, .int la, .int ff, .int lf]))] := hD
  refine lv_aload_n hx hb dX8_setFirst_5 rfl (lv_at hl 0 rfl) ?_
  refine lv_iload_n hx hb dX8_setFirst_6 rfl (lv_at hl 2 rfl) ?_
  refine va_put (D := D) (ci := 6) (v := .int z) (ty := .boolean) (C := RX8) (T := TX8) (N := 5) hx hb hts w_X8 tyX8 tyX8_ok nmX8 hown hK hP hD hS 0 rfl rfl 3 (by decide) f_16 (fun _ h9 => h9) rfl (by decide +kernel) (isB.nar (by first | assumption | (repeat' (first | assumption | exact Or.inl rfl | exact Or.inr rfl | apply isB.ite)))) (isB.fit (by first | assumption | (repeat' (first | assumption | exact Or.inl rfl | exact Or.inr rfl | apply isB.ite)))) (Nat.le_of_ble_eq_true rfl) dX8_setFirst_7 (fun H locs hP hD hS => ?_)
  have hP : va_P D vwCl [(h0, .inr (6, [.int ll, .int x, .int la, .int z, .int lf]))] H := hP
  have hD : va_D A [(h0, .inr (6, [.int ll, .int x, .int la, .int z, .int lf]))] := hD
  subst hAe
  subst hQe
  exact W.vret hx hb hr (fun t ht hW => ⟨⟨_, rfl, ⟨(), trivial, rfl⟩, by rw [ht]; exact hP, hD⟩, hS.F ht⟩) hS.2.2 dX8_setFirst_10

abbrev rmX8_setLast : Room := { frames := 0, cells := 0, slots := 0, locals := 0 }
abbrev qX8_setLast (D : va_G) (sz : Nat) (h0 : Nat) (ll : Int32) (fi : Int32) (la : Int32) (ff : Int32) (lf : Int32) (x : Int32) (z : Int32) : Array Value → State → Outcome → State → Prop := va_Qv (fun w_9 => ∃ _u : Unit, True ∧ w_9 = [(h0, .inr (6, [.int ll, .int fi, .int x, .int ff, .int z]))]) (Bq D (va_A [(h0, .inr (6, [.int ll, .int fi, .int la, .int ff, .int lf]))] sz)) (va_A [(h0, .inr (6, [.int ll, .int fi, .int la, .int ff, .int lf]))] sz)
set_option maxHeartbeats 4000000 in
set_option maxRecDepth 100000 in
theorem kX8_setLast (l : Launch) (D : va_G) (sz : Nat) (h0 : Nat) (ll : Int32) (fi : Int32) (la : Int32) (ff : Int32) (lf : Int32) (x : Int32) (z : Int32) (hz : isB z) : Met l yX8_setLast wsX8_setLast rmX8_setLast (va_Pc [.ref h0, .int x, .int z] (Pw D [] [(h0, .inr (6, [.int ll, .int fi, .int la, .int ff, .int lf]))] sz)) (qX8_setLast D sz h0 ll fi la ff lf x z) 0 0 (va_A [(h0, .inr (6, [.int ll, .int fi, .int la, .int ff, .int lf]))] sz) := by
  refine Met.ofW (cc := cX8_setLast) (maxL := 3) (ret := none) (by decide) rfl ?_
  intro p e s m args below meth c s₁ B hml hv
  obtain ⟨rfl, hsz, hP, hK, hD0, hN⟩ := hv
  have hx := B.exec
  have hb := B.bytes
  have hr := B.returns
  have hts := atoms_spec (ws := wsX8_setLast) B.pre
  have hown : s.vm.findClass RX8 = some m.cls := findClass_of_methodNamed B.named
  have hlocks := B.notSynchronized
  subst hsz
  obtain ⟨Q, hQe⟩ : ∃ Q, Q = MQ below (qX8_setLast D s.heap.size h0 ll fi la ff lf x z) ([.ref h0, .int x, .int z] : List Value).toArray s 0 0 (va_A [(h0, .inr (6, [.int ll, .int fi, .int la, .int ff, .int lf]))] s.heap.size) := ⟨_, rfl⟩
  rw [← hQe]
  obtain ⟨A, hAe⟩ : ∃ A, A = va_A [(h0, .inr (6, [.int ll, .int fi, .int la, .int ff, .int lf]))] s.heap.size := ⟨_, rfl⟩
  have hD : va_D A [(h0, .inr (6, [.int ll, .int fi, .int la, .int ff, .int lf]))] := by rw [hAe]; exact hD0.self
  have hA : ∀ q : Nat, s.heap.size ≤ q → A q := by rw [hAe]; exact mo_A
  have hS : va_S A s.heap s.heap [] := va_S.rf
  obtain ⟨H, hHe⟩ : ∃ H, H = s.heap := ⟨_, rfl⟩
  obtain ⟨locs, hLe⟩ : ∃ L : List Loc, L = [] := ⟨_, rfl⟩
  have hP : va_P D vwCl [(h0, .inr (6, [.int ll, .int fi, .int la, .int ff, .int lf]))] H := by rw [hHe]; exact hP
  have hS : va_S A s.heap H locs := by rw [hHe, hLe]; exact hS
  have hl := lv_entry ([.ref h0, .int x, .int z]) (n := 3) (Nat.le_of_ble_eq_true rfl)
  rw [lg_entry_eq]
  generalize (lg_sl ([.ref h0, .int x, .int z]) ++ List.replicate (3 - (lg_sl ([.ref h0, .int x, .int z])).length) Slot.unset).toArray = ls at hl ⊢
  have hl : lv_has ls 3 [(0, .ref h0), (1, .int x), (2, .int z)] := hl
  refine hStart hHe hLe ?_
  clear hHe hLe
  have w_X8 : ∀ w ∈ wsX80, w ∈ wsX8_setLast := by decide +kernel
  have f_20 := hts (.fieldLink RX8 20 "ReferenceMover$Span" "last" "I") (by decide +kernel)
  have f_23 := hts (.fieldLink RX8 23 "ReferenceMover$Span" "lastFixed" "Z") (by decide +kernel)
  refine lv_aload_n hx hb dX8_setLast_0 rfl (lv_at hl 0 rfl) ?_
  refine lv_iload_n hx hb dX8_setLast_1 rfl (lv_at hl 1 rfl) ?_
  refine va_put (D := D) (ci := 6) (v := .int x) (ty := .int) (C := RX8) (T := TX8) (N := 5) hx hb hts w_X8 tyX8 tyX8_ok nmX8 hown hK hP hD hS 0 rfl rfl 2 (by decide) f_20 (fun _ h9 => h9) rfl (by decide +kernel) rfl rfl (Nat.le_of_ble_eq_true rfl) dX8_setLast_2 (fun H locs hP hD hS => ?_)
  have hP : va_P D vwCl [(h0, .inr (6, [.int ll, .int fi, .int x, .int ff, .int lf]))] H := hP
  have hD : va_D A [(h0, .inr (6, [.int ll, .int fi, .int x, .int ff, .int lf]))] := hD
  refine lv_aload_n hx hb dX8_setLast_5 rfl (lv_at hl 0 rfl) ?_
  refine lv_iload_n hx hb dX8_setLast_6 rfl (lv_at hl 2 rfl) ?_
  refine va_put (D := D) (ci := 6) (v := .int z) (ty := .boolean) (C := RX8) (T := TX8) (N := 5) hx hb hts w_X8 tyX8 tyX8_ok nmX8 hown hK hP hD hS 0 rfl rfl 4 (by decide) f_23 (fun _ h9 => h9) rfl (by decide +kernel) (isB.nar (by first | assumption | (repeat' (first | assumption | exact Or.inl rfl | exact Or.inr rfl | apply isB.ite)))) (isB.fit (by first | assumption | (repeat' (first | assumption | exact Or.inl rfl | exact Or.inr rfl | apply isB.ite)))) (Nat.le_of_ble_eq_true rfl) dX8_setLast_7 (fun H locs hP hD hS => ?_)
  have hP : va_P D vwCl [(h0, .inr (6, [.int ll, .int fi, .int x, .int ff, .int z]))] H := hP
  have hD : va_D A [(h0, .inr (6, [.int ll, .int fi, .int x, .int ff, .int z]))] := hD
  subst hAe
  subst hQe
  exact W.vret hx hb hr (fun t ht hW => ⟨⟨_, rfl, ⟨(), trivial, rfl⟩, by rw [ht]; exact hP, hD⟩, hS.F ht⟩) hS.2.2 dX8_setLast_10

def fX8_isWithin (fi : Int32) (la : Int32) (x : Int32) (y : Int32) : Int32 := if fi < x then 0 else (if y < la then 0 else 1)
theorem zb_X8_isWithin (fi : Int32) (la : Int32) (x : Int32) (y : Int32) : isB (fX8_isWithin fi la x y) := by
  unfold fX8_isWithin
  (try dsimp only)
  repeat' split
  all_goals first | exact Or.inl rfl | exact Or.inr rfl
abbrev rmX8_isWithin : Room := { frames := 0, cells := 0, slots := 0, locals := 0 }
abbrev qX8_isWithin (D : va_G) (sz : Nat) (h0 : Nat) (ll : Int32) (fi : Int32) (la : Int32) (ff : Int32) (lf : Int32) (x : Int32) (y : Int32) : Array Value → State → Outcome → State → Prop := vp_Si (fun r_9 => r_9 = (fX8_isWithin fi la x y))
set_option maxHeartbeats 4000000 in
set_option maxRecDepth 100000 in
theorem kX8_isWithin (l : Launch) (D : va_G) (sz : Nat) (h0 : Nat) (ll : Int32) (fi : Int32) (la : Int32) (ff : Int32) (lf : Int32) (x : Int32) (y : Int32) : Met l yX8_isWithin wsX8_isWithin rmX8_isWithin (va_Pc [.ref h0, .int x, .int y] (Pw D [] [(h0, .inr (6, [.int ll, .int fi, .int la, .int ff, .int lf]))] sz)) (qX8_isWithin D sz h0 ll fi la ff lf x y) 0 0 (fun _ => False) := by
  refine Met.ofW (cc := cX8_isWithin) (maxL := 3) (ret := (some .boolean)) (by decide) rfl ?_
  intro p e s m args below meth c s₁ B hml hv
  obtain ⟨rfl, hsz, hP, hK, hD0, hN⟩ := hv
  have hx := B.exec
  have hb := B.bytes
  have hr := B.returns
  have hts := atoms_spec (ws := wsX8_isWithin) B.pre
  have hown : s.vm.findClass RX8 = some m.cls := findClass_of_methodNamed B.named
  have hlocks := B.notSynchronized
  subst hsz
  obtain ⟨Q, hQe⟩ : ∃ Q, Q = MQ below (qX8_isWithin D s.heap.size h0 ll fi la ff lf x y) ([.ref h0, .int x, .int y] : List Value).toArray s 0 0 (fun _ => False) := ⟨_, rfl⟩
  rw [← hQe]
  have hD := hD0
  have hP : va_P D vwCl [(h0, .inr (6, [.int ll, .int fi, .int la, .int ff, .int lf]))] s.heap := hP
  have hl := lv_entry ([.ref h0, .int x, .int y]) (n := 3) (Nat.le_of_ble_eq_true rfl)
  rw [lg_entry_eq]
  generalize (lg_sl ([.ref h0, .int x, .int y]) ++ List.replicate (3 - (lg_sl ([.ref h0, .int x, .int y])).length) Slot.unset).toArray = ls at hl ⊢
  have hl : lv_has ls 3 [(0, .ref h0), (1, .int x), (2, .int y)] := hl
  have w_X8 : ∀ w ∈ wsX80, w ∈ wsX8_isWithin := by decide +kernel
  have f_13 := hts (.fieldLink RX8 13 "ReferenceMover$Span" "first" "I") (by decide +kernel)
  have f_20 := hts (.fieldLink RX8 20 "ReferenceMover$Span" "last" "I") (by decide +kernel)
  refine lv_aload_n hx hb dX8_isWithin_0 rfl (lv_at hl 0 rfl) ?_
  refine va_get (D := D) (ci := 6) (v := .int fi) (C := RX8) (T := TX8) (N := 5) hx hb hts w_X8 hown hK hP 0 rfl rfl 1 (by decide) f_13 (fun _ h9 => h9) rfl dX8_isWithin_1 ?_
  refine lv_iload_n hx hb dX8_isWithin_4 rfl (lv_at hl 1 rfl) ?_
  refine lv_icmp_lt (tgt := 20) hx hb dX8_isWithin_5 (by decide) (fun c5 => ?_) (fun c5 => ?_)
  · refine lv_iconst (v := 0) hx hb dX8_isWithin_20 (by decide) ?_
    have hF : (fX8_isWithin fi la x y) = 0 := by exact (if_pos c5)
    subst hQe
    exact W.zret (v := 0) hx hb hr rfl (fun t ht hW => ⟨_, rfl, hF.symm, ht⟩) (fun q h => absurd h List.not_mem_nil) dX8_isWithin_21
  · refine lv_aload_n hx hb dX8_isWithin_8 rfl (lv_at hl 0 rfl) ?_
    refine va_get (D := D) (ci := 6) (v := .int la) (C := RX8) (T := TX8) (N := 5) hx hb hts w_X8 hown hK hP 0 rfl rfl 2 (by decide) f_20 (fun _ h9 => h9) rfl dX8_isWithin_9 ?_
    refine lv_iload_n hx hb dX8_isWithin_12 rfl (lv_at hl 2 rfl) ?_
    refine lv_icmp_gt (tgt := 20) hx hb dX8_isWithin_13 (by decide) (fun c13 => ?_) (fun c13 => ?_)
    · refine lv_iconst (v := 0) hx hb dX8_isWithin_20 (by decide) ?_
      have hF : (fX8_isWithin fi la x y) = 0 := by exact ((if_neg c5).trans (if_pos c13))
      subst hQe
      exact W.zret (v := 0) hx hb hr rfl (fun t ht hW => ⟨_, rfl, hF.symm, ht⟩) (fun q h => absurd h List.not_mem_nil) dX8_isWithin_21
    · refine lv_iconst (v := 1) hx hb dX8_isWithin_16 (by decide) ?_
      refine lv_goto (tgt := 21) hx hb dX8_isWithin_17 (by decide) ?_
      have hF : (fX8_isWithin fi la x y) = 1 := by exact ((if_neg c5).trans (if_neg c13))
      subst hQe
      exact W.zret (v := 1) hx hb hr rfl (fun t ht hW => ⟨_, rfl, hF.symm, ht⟩) (fun q h => absurd h List.not_mem_nil) dX8_isWithin_21

abbrev rmX8_shift : Room := { frames := 0, cells := 0, slots := 0, locals := 0 }
abbrev qX8_shift (D : va_G) (sz : Nat) (h0 : Nat) (ll : Int32) (fi : Int32) (la : Int32) (ff : Int32) (lf : Int32) (x : Int32) : Array Value → State → Outcome → State → Prop := va_Qv (fun w_9 => ∃ _u : Unit, True ∧ w_9 = [(h0, .inr (6, [.int ll, .int (fi + x), .int (la + x), .int ff, .int lf]))]) (Bq D (va_A [(h0, .inr (6, [.int ll, .int fi, .int la, .int ff, .int lf]))] sz)) (va_A [(h0, .inr (6, [.int ll, .int fi, .int la, .int ff, .int lf]))] sz)
set_option maxHeartbeats 4000000 in
set_option maxRecDepth 100000 in
theorem kX8_shift (l : Launch) (D : va_G) (sz : Nat) (h0 : Nat) (ll : Int32) (fi : Int32) (la : Int32) (ff : Int32) (lf : Int32) (x : Int32) : Met l yX8_shift wsX8_shift rmX8_shift (va_Pc [.ref h0, .int x] (Pw D [] [(h0, .inr (6, [.int ll, .int fi, .int la, .int ff, .int lf]))] sz)) (qX8_shift D sz h0 ll fi la ff lf x) 0 0 (va_A [(h0, .inr (6, [.int ll, .int fi, .int la, .int ff, .int lf]))] sz) := by
  refine Met.ofW (cc := cX8_shift) (maxL := 2) (ret := none) (by decide) rfl ?_
  intro p e s m args below meth c s₁ B hml hv
  obtain ⟨rfl, hsz, hP, hK, hD0, hN⟩ := hv
  have hx := B.exec
  have hb := B.bytes
  have hr := B.returns
  have hts := atoms_spec (ws := wsX8_shift) B.pre
  have hown : s.vm.findClass RX8 = some m.cls := findClass_of_methodNamed B.named
  have hlocks := B.notSynchronized
  subst hsz
  obtain ⟨Q, hQe⟩ : ∃ Q, Q = MQ below (qX8_shift D s.heap.size h0 ll fi la ff lf x) ([.ref h0, .int x] : List Value).toArray s 0 0 (va_A [(h0, .inr (6, [.int ll, .int fi, .int la, .int ff, .int lf]))] s.heap.size) := ⟨_, rfl⟩
  rw [← hQe]
  obtain ⟨A, hAe⟩ : ∃ A, A = va_A [(h0, .inr (6, [.int ll, .int fi, .int la, .int ff, .int lf]))] s.heap.size := ⟨_, rfl⟩
  have hD : va_D A [(h0, .inr (6, [.int ll, .int fi, .int la, .int ff, .int lf]))] := by rw [hAe]; exact hD0.self
  have hA : ∀ q : Nat, s.heap.size ≤ q → A q := by rw [hAe]; exact mo_A
  have hS : va_S A s.heap s.heap [] := va_S.rf
  obtain ⟨H, hHe⟩ : ∃ H, H = s.heap := ⟨_, rfl⟩
  obtain ⟨locs, hLe⟩ : ∃ L : List Loc, L = [] := ⟨_, rfl⟩
  have hP : va_P D vwCl [(h0, .inr (6, [.int ll, .int fi, .int la, .int ff, .int lf]))] H := by rw [hHe]; exact hP
  have hS : va_S A s.heap H locs := by rw [hHe, hLe]; exact hS
  have hl := lv_entry ([.ref h0, .int x]) (n := 2) (Nat.le_of_ble_eq_true rfl)
  rw [lg_entry_eq]
  generalize (lg_sl ([.ref h0, .int x]) ++ List.replicate (2 - (lg_sl ([.ref h0, .int x])).length) Slot.unset).toArray = ls at hl ⊢
  have hl : lv_has ls 2 [(0, .ref h0), (1, .int x)] := hl
  refine hStart hHe hLe ?_
  clear hHe hLe
  have w_X8 : ∀ w ∈ wsX80, w ∈ wsX8_shift := by decide +kernel
  have f_13 := hts (.fieldLink RX8 13 "ReferenceMover$Span" "first" "I") (by decide +kernel)
  have f_20 := hts (.fieldLink RX8 20 "ReferenceMover$Span" "last" "I") (by decide +kernel)
  refine lv_aload_n hx hb dX8_shift_0 rfl (lv_at hl 0 rfl) ?_
  refine lv_dup hx hb dX8_shift_1 rfl ?_
  refine va_get (D := D) (ci := 6) (v := .int fi) (C := RX8) (T := TX8) (N := 5) hx hb hts w_X8 hown hK hP 0 rfl rfl 1 (by decide) f_13 (fun _ h9 => h9) rfl dX8_shift_2 ?_
  refine lv_iload_n hx hb dX8_shift_5 rfl (lv_at hl 1 rfl) ?_
  refine lv_iadd hx hb dX8_shift_6 ?_
  refine va_put (D := D) (ci := 6) (v := .int (fi + x)) (ty := .int) (C := RX8) (T := TX8) (N := 5) hx hb hts w_X8 tyX8 tyX8_ok nmX8 hown hK hP hD hS 0 rfl rfl 1 (by decide) f_13 (fun _ h9 => h9) rfl (by decide +kernel) rfl rfl (Nat.le_of_ble_eq_true rfl) dX8_shift_7 (fun H locs hP hD hS => ?_)
  have hP : va_P D vwCl [(h0, .inr (6, [.int ll, .int (fi + x), .int la, .int ff, .int lf]))] H := hP
  have hD : va_D A [(h0, .inr (6, [.int ll, .int (fi + x), .int la, .int ff, .int lf]))] := hD
  refine lv_aload_n hx hb dX8_shift_10 rfl (lv_at hl 0 rfl) ?_
  refine lv_dup hx hb dX8_shift_11 rfl ?_
  refine va_get (D := D) (ci := 6) (v := .int la) (C := RX8) (T := TX8) (N := 5) hx hb hts w_X8 hown hK hP 0 rfl rfl 2 (by decide) f_20 (fun _ h9 => h9) rfl dX8_shift_12 ?_
  refine lv_iload_n hx hb dX8_shift_15 rfl (lv_at hl 1 rfl) ?_
  refine lv_iadd hx hb dX8_shift_16 ?_
  refine va_put (D := D) (ci := 6) (v := .int (la + x)) (ty := .int) (C := RX8) (T := TX8) (N := 5) hx hb hts w_X8 tyX8 tyX8_ok nmX8 hown hK hP hD hS 0 rfl rfl 2 (by decide) f_20 (fun _ h9 => h9) rfl (by decide +kernel) rfl rfl (Nat.le_of_ble_eq_true rfl) dX8_shift_17 (fun H locs hP hD hS => ?_)
  have hP : va_P D vwCl [(h0, .inr (6, [.int ll, .int (fi + x), .int (la + x), .int ff, .int lf]))] H := hP
  have hD : va_D A [(h0, .inr (6, [.int ll, .int (fi + x), .int (la + x), .int ff, .int lf]))] := hD
  subst hAe
  subst hQe
  exact W.vret hx hb hr (fun t ht hW => ⟨⟨_, rfl, ⟨(), trivial, rfl⟩, by rw [ht]; exact hP, hD⟩, hS.F ht⟩) hS.2.2 dX8_shift_20

abbrev rmX8_exchange : Room := { frames := 1, cells := 0, slots := 0, locals := 22 }
abbrev qX8_exchange (D : va_G) (sz : Nat) (h0 : Nat) (ll : Int32) (fi : Int32) (la : Int32) (ff : Int32) (lf : Int32) : Array Value → State → Outcome → State → Prop := va_Qv (fun w_9 => ∃ _u : Unit, True ∧ w_9 = [(h0, .inr (6, [.int ll, .int la, .int fi, .int lf, .int ff]))]) (Bq D (va_A [(h0, .inr (6, [.int ll, .int fi, .int la, .int ff, .int lf]))] sz)) (va_A [(h0, .inr (6, [.int ll, .int fi, .int la, .int ff, .int lf]))] sz)
set_option maxHeartbeats 4000000 in
set_option maxRecDepth 100000 in
theorem kX8_exchange (l : Launch) (D : va_G) (sz : Nat) (h0 : Nat) (ll : Int32) (fi : Int32) (la : Int32) (ff : Int32) (lf : Int32) (h4 : isB ff) (h5 : isB lf) : Met l yX8_exchange wsX8_exchange rmX8_exchange (va_Pc [.ref h0] (Pw D [] [(h0, .inr (6, [.int ll, .int fi, .int la, .int ff, .int lf]))] sz)) (qX8_exchange D sz h0 ll fi la ff lf) 0 0 (va_A [(h0, .inr (6, [.int ll, .int fi, .int la, .int ff, .int lf]))] sz) := by
  refine Met.ofW (cc := cX8_exchange) (maxL := 3) (ret := none) (by decide) rfl ?_
  intro p e s m args below meth c s₁ B hml hv
  obtain ⟨rfl, hsz, hP, hK, hD0, hN⟩ := hv
  have hx := B.exec
  have hb := B.bytes
  have hr := B.returns
  have hts := atoms_spec (ws := wsX8_exchange) B.pre
  have hown : s.vm.findClass RX8 = some m.cls := findClass_of_methodNamed B.named
  have hlocks := B.notSynchronized
  subst hsz
  obtain ⟨Q, hQe⟩ : ∃ Q, Q = MQ below (qX8_exchange D s.heap.size h0 ll fi la ff lf) ([.ref h0] : List Value).toArray s 0 0 (va_A [(h0, .inr (6, [.int ll, .int fi, .int la, .int ff, .int lf]))] s.heap.size) := ⟨_, rfl⟩
  rw [← hQe]
  obtain ⟨A, hAe⟩ : ∃ A, A = va_A [(h0, .inr (6, [.int ll, .int fi, .int la, .int ff, .int lf]))] s.heap.size := ⟨_, rfl⟩
  have hD : va_D A [(h0, .inr (6, [.int ll, .int fi, .int la, .int ff, .int lf]))] := by rw [hAe]; exact hD0.self
  have hA : ∀ q : Nat, s.heap.size ≤ q → A q := by rw [hAe]; exact mo_A
  have hS : va_S A s.heap s.heap [] := va_S.rf
  obtain ⟨H, hHe⟩ : ∃ H, H = s.heap := ⟨_, rfl⟩
  obtain ⟨locs, hLe⟩ : ∃ L : List Loc, L = [] := ⟨_, rfl⟩
  have hP : va_P D vwCl [(h0, .inr (6, [.int ll, .int fi, .int la, .int ff, .int lf]))] H := by rw [hHe]; exact hP
  have hS : va_S A s.heap H locs := by rw [hHe, hLe]; exact hS
  have hl := lv_entry ([.ref h0]) (n := 3) (Nat.le_of_ble_eq_true rfl)
  rw [lg_entry_eq]
  generalize (lg_sl ([.ref h0]) ++ List.replicate (3 - (lg_sl ([.ref h0])).length) Slot.unset).toArray = ls at hl ⊢
  have hl : lv_has ls 3 [(0, .ref h0)] := hl
  refine hStart hHe hLe ?_
  clear hHe hLe
  have w_X8 : ∀ w ∈ wsX80, w ∈ wsX8_exchange := by decide +kernel
  have f_13 := hts (.fieldLink RX8 13 "ReferenceMover$Span" "first" "I") (by decide +kernel)
  have f_16 := hts (.fieldLink RX8 16 "ReferenceMover$Span" "firstFixed" "Z") (by decide +kernel)
  have f_20 := hts (.fieldLink RX8 20 "ReferenceMover$Span" "last" "I") (by decide +kernel)
  have f_23 := hts (.fieldLink RX8 23 "ReferenceMover$Span" "lastFixed" "Z") (by decide +kernel)
  refine lv_aload_n hx hb dX8_exchange_0 rfl (lv_at hl 0 rfl) ?_
  refine va_get (D := D) (ci := 6) (v := .int fi) (C := RX8) (T := TX8) (N := 5) hx hb hts w_X8 hown hK hP 0 rfl rfl 1 (by decide) f_13 (fun _ h9 => h9) rfl dX8_exchange_1 ?_
  refine lv_istore_n (lv' := [(1, .int fi), (0, .ref h0)]) hx hb dX8_exchange_4 rfl hl (by decide) rfl (fun ls hl => ?_)
  refine lv_aload_n hx hb dX8_exchange_5 rfl (lv_at hl 1 rfl) ?_
  refine va_get (D := D) (ci := 6) (v := .int ff) (C := RX8) (T := TX8) (N := 5) hx hb hts w_X8 hown hK hP 0 rfl rfl 3 (by decide) f_16 (fun _ h9 => h9) rfl dX8_exchange_6 ?_
  refine lv_istore_n (lv' := [(2, .int ff), (1, .int fi), (0, .ref h0)]) hx hb dX8_exchange_9 rfl hl (by decide) rfl (fun ls hl => ?_)
  refine lv_aload_n hx hb dX8_exchange_10 rfl (lv_at hl 2 rfl) ?_
  refine lv_aload_n hx hb dX8_exchange_11 rfl (lv_at hl 2 rfl) ?_
  refine va_get (D := D) (ci := 6) (v := .int la) (C := RX8) (T := TX8) (N := 5) hx hb hts w_X8 hown hK hP 0 rfl rfl 2 (by decide) f_20 (fun _ h9 => h9) rfl dX8_exchange_12 ?_
  refine lv_aload_n hx hb dX8_exchange_15 rfl (lv_at hl 2 rfl) ?_
  refine va_get (D := D) (ci := 6) (v := .int lf) (C := RX8) (T := TX8) (N := 5) hx hb hts w_X8 hown hK hP 0 rfl rfl 4 (by decide) f_23 (fun _ h9 => h9) rfl dX8_exchange_16 ?_
  have hPc := hP.sub (ws' := [(h0, .inr (6, [.int ll, .int fi, .int la, .int ff, .int lf]))]) [0] rfl
  have hDc := hD.sub (ws' := [(h0, .inr (6, [.int ll, .int fi, .int la, .int ff, .int lf]))]) [0] (by decide) rfl
  have hKc := hK.sub (tys' := []) [] rfl
  refine wk_v (β := Unit) (ok := fun _ => True) (wc := [(h0, .inr (6, [.int ll, .int fi, .int la, .int ff, .int lf]))]) (wr := []) (w1 := fun _ => [(h0, .inr (6, [.int ll, .int la, .int la, .int lf, .int lf]))]) (ws2 := fun _ => [(h0, .inr (6, [.int ll, .int la, .int la, .int lf, .int lf]))]) (va_runV (As := [.int la, .int lf]) (rest := []) ⟨hx, hb, hml, hown, hts⟩ (kX8_setFirst l D H.size h0 ll fi la ff lf la lf (by first | assumption | (repeat' (first | assumption | exact Or.inl rfl | exact Or.inr rfl | apply isB.ite)))) (cwV 2 hts gX8_exchange_X8_setFirst rfl rfl rfl (by decide +kernel) ⟨Nat.le_of_ble_eq_true rfl, Nat.le_of_ble_eq_true rfl⟩) ⟨Pw_blind, (va_recv hKc hPc (ci := 6) (q0 := 0) rfl rfl), fun U hU hW => Pw_at hKc hPc hDc hN hU hW⟩ rfl rfl hl.1 rfl (lv_room (Nat.le_of_ble_eq_true rfl)) dX8_exchange_19 ⟨Nat.le_of_ble_eq_true rfl, Nat.le_of_ble_eq_true rfl⟩) hP hD hS hA [0] [] [0] rfl rfl (by decide) (by decide) (fun _ => rfl) (by decide) (fun _ _ H locs hP hD hS => ?_)
  have hP : va_P D vwCl [(h0, .inr (6, [.int ll, .int la, .int la, .int lf, .int lf]))] H := hP
  have hD : va_D A [(h0, .inr (6, [.int ll, .int la, .int la, .int lf, .int lf]))] := hD
  refine lv_aload_n hx hb dX8_exchange_22 rfl (lv_at hl 2 rfl) ?_
  refine lv_iload_n hx hb dX8_exchange_23 rfl (lv_at hl 1 rfl) ?_
  refine lv_iload_n hx hb dX8_exchange_24 rfl (lv_at hl 0 rfl) ?_
  have hPc := hP.sub (ws' := [(h0, .inr (6, [.int ll, .int la, .int la, .int lf, .int lf]))]) [0] rfl
  have hDc := hD.sub (ws' := [(h0, .inr (6, [.int ll, .int la, .int la, .int lf, .int lf]))]) [0] (by decide) rfl
  have hKc := hK.sub (tys' := []) [] rfl
  refine wk_v (β := Unit) (ok := fun _ => True) (wc := [(h0, .inr (6, [.int ll, .int la, .int la, .int lf, .int lf]))]) (wr := []) (w1 := fun _ => [(h0, .inr (6, [.int ll, .int la, .int fi, .int lf, .int ff]))]) (ws2 := fun _ => [(h0, .inr (6, [.int ll, .int la, .int fi, .int lf, .int ff]))]) (va_runV (As := [.int fi, .int ff]) (rest := []) ⟨hx, hb, hml, hown, hts⟩ (kX8_setLast l D H.size h0 ll la la lf lf fi ff (by first | assumption | (repeat' (first | assumption | exact Or.inl rfl | exact Or.inr rfl | apply isB.ite)))) (cwV 2 hts gX8_exchange_X8_setLast rfl rfl rfl (by decide +kernel) ⟨Nat.le_of_ble_eq_true rfl, Nat.le_of_ble_eq_true rfl⟩) ⟨Pw_blind, (va_recv hKc hPc (ci := 6) (q0 := 0) rfl rfl), fun U hU hW => Pw_at hKc hPc hDc hN hU hW⟩ rfl rfl hl.1 rfl (lv_room (Nat.le_of_ble_eq_true rfl)) dX8_exchange_25 ⟨Nat.le_of_ble_eq_true rfl, Nat.le_of_ble_eq_true rfl⟩) hP hD hS hA [0] [] [0] rfl rfl (by decide) (by decide) (fun _ => rfl) (by decide) (fun _ _ H locs hP hD hS => ?_)
  have hP : va_P D vwCl [(h0, .inr (6, [.int ll, .int la, .int fi, .int lf, .int ff]))] H := hP
  have hD : va_D A [(h0, .inr (6, [.int ll, .int la, .int fi, .int lf, .int ff]))] := hD
  subst hAe
  subst hQe
  exact W.vret hx hb hr (fun t ht hW => ⟨⟨_, rfl, ⟨(), trivial, rfl⟩, by rw [ht]; exact hP, hD⟩, hS.F ht⟩) hS.2.2 dX8_exchange_28

def fX8_shiftLoose (ll : Int32) (fi : Int32) (la : Int32) (ff : Int32) (lf : Int32) (x : Int32) : Int32 × Int32 × Int32 × Int32 × Int32 := let v_1 : Int32 := (if ff = 0 then (fi + x) else fi); let v_2 : Int32 := (if lf = 0 then (la + x) else la); if (fX9_isLine v_1 ll) = 0 then (0, v_1, v_2, ff, lf) else (if (fX9_isLine v_2 ll) = 0 then (0, v_1, v_2, ff, lf) else (let v_3 : Int32 := (if v_1 ≤ v_2 then v_1 else v_2); let v_4 : Int32 := (if v_1 ≤ v_2 then v_2 else v_1); let v_5 : Int32 := (if v_1 ≤ v_2 then ff else lf); let v_6 : Int32 := (if v_1 ≤ v_2 then lf else ff); (1, v_3, v_4, v_5, v_6)))
theorem zb_X8_shiftLoose (ll : Int32) (fi : Int32) (la : Int32) (ff : Int32) (lf : Int32) (x : Int32) : isB (fX8_shiftLoose ll fi la ff lf x).1 := by
  unfold fX8_shiftLoose
  (try dsimp only)
  repeat' split
  all_goals first | exact Or.inl rfl | exact Or.inr rfl
abbrev rmX8_shiftLoose : Room := { frames := 2, cells := 0, slots := 0, locals := 44 }
abbrev qX8_shiftLoose (D : va_G) (sz : Nat) (h0 : Nat) (ll : Int32) (fi : Int32) (la : Int32) (ff : Int32) (lf : Int32) (x : Int32) : Array Value → State → Outcome → State → Prop := va_Qi (fun r_9 w_9 => ∃ _u : Unit, True ∧ r_9 = (fX8_shiftLoose ll fi la ff lf x).1 ∧ w_9 = [(h0, .inr (6, [.int ll, .int (fX8_shiftLoose ll fi la ff lf x).2.1, .int (fX8_shiftLoose ll fi la ff lf x).2.2.1, .int (fX8_shiftLoose ll fi la ff lf x).2.2.2.1, .int (fX8_shiftLoose ll fi la ff lf x).2.2.2.2]))]) (Bq D (va_A [(h0, .inr (6, [.int ll, .int fi, .int la, .int ff, .int lf]))] sz)) (va_A [(h0, .inr (6, [.int ll, .int fi, .int la, .int ff, .int lf]))] sz)
set_option maxHeartbeats 4000000 in
set_option maxRecDepth 100000 in
theorem kX8_shiftLoose (l : Launch) (D : va_G) (sz : Nat) (h0 : Nat) (ll : Int32) (fi : Int32) (la : Int32) (ff : Int32) (lf : Int32) (x : Int32) (h4 : isB ff) (h5 : isB lf) : Met l yX8_shiftLoose wsX8_shiftLoose rmX8_shiftLoose (va_Pc [.ref h0, .int x] (Pw D [] [(h0, .inr (6, [.int ll, .int fi, .int la, .int ff, .int lf]))] sz)) (qX8_shiftLoose D sz h0 ll fi la ff lf x) 0 0 (va_A [(h0, .inr (6, [.int ll, .int fi, .int la, .int ff, .int lf]))] sz) := by
  refine Met.ofW (cc := cX8_shiftLoose) (maxL := 2) (ret := (some .boolean)) (by decide) rfl ?_
  intro p e s m args below meth c s₁ B hml hv
  obtain ⟨rfl, hsz, hP, hK, hD0, hN⟩ := hv
  have hx := B.exec
  have hb := B.bytes
  have hr := B.returns
  have hts := atoms_spec (ws := wsX8_shiftLoose) B.pre
  have hown : s.vm.findClass RX8 = some m.cls := findClass_of_methodNamed B.named
  have hlocks := B.notSynchronized
  subst hsz
  obtain ⟨Q, hQe⟩ : ∃ Q, Q = MQ below (qX8_shiftLoose D s.heap.size h0 ll fi la ff lf x) ([.ref h0, .int x] : List Value).toArray s 0 0 (va_A [(h0, .inr (6, [.int ll, .int fi, .int la, .int ff, .int lf]))] s.heap.size) := ⟨_, rfl⟩
  rw [← hQe]
  obtain ⟨A, hAe⟩ : ∃ A, A = va_A [(h0, .inr (6, [.int ll, .int fi, .int la, .int ff, .int lf]))] s.heap.size := ⟨_, rfl⟩
  have hD : va_D A [(h0, .inr (6, [.int ll, .int fi, .int la, .int ff, .int lf]))] := by rw [hAe]; exact hD0.self
  have hA : ∀ q : Nat, s.heap.size ≤ q → A q := by rw [hAe]; exact mo_A
  have hS : va_S A s.heap s.heap [] := va_S.rf
  obtain ⟨H, hHe⟩ : ∃ H, H = s.heap := ⟨_, rfl⟩
  obtain ⟨locs, hLe⟩ : ∃ L : List Loc, L = [] := ⟨_, rfl⟩
  have hP : va_P D vwCl [(h0, .inr (6, [.int ll, .int fi, .int la, .int ff, .int lf]))] H := by rw [hHe]; exact hP
  have hS : va_S A s.heap H locs := by rw [hHe, hLe]; exact hS
  have hl := lv_entry ([.ref h0, .int x]) (n := 2) (Nat.le_of_ble_eq_true rfl)
  rw [lg_entry_eq]
  generalize (lg_sl ([.ref h0, .int x]) ++ List.replicate (2 - (lg_sl ([.ref h0, .int x])).length) Slot.unset).toArray = ls at hl ⊢
  have hl : lv_has ls 2 [(0, .ref h0), (1, .int x)] := hl
  refine hStart hHe hLe ?_
  clear hHe hLe
  have w_X8 : ∀ w ∈ wsX80, w ∈ wsX8_shiftLoose := by decide +kernel
  have f_16 := hts (.fieldLink RX8 16 "ReferenceMover$Span" "firstFixed" "Z") (by decide +kernel)
  have f_13 := hts (.fieldLink RX8 13 "ReferenceMover$Span" "first" "I") (by decide +kernel)
  have f_23 := hts (.fieldLink RX8 23 "ReferenceMover$Span" "lastFixed" "Z") (by decide +kernel)
  have f_20 := hts (.fieldLink RX8 20 "ReferenceMover$Span" "last" "I") (by decide +kernel)
  have f_7 := hts (.fieldLink RX8 7 "ReferenceMover$Span" "lastLine" "I") (by decide +kernel)
  have in_RX9 := hts (.initialized RX9) (by decide +kernel)
  have st_yX9_isLine := hts (.static yX9_isLine) (by decide +kernel)
  refine lv_aload_n hx hb dX8_shiftLoose_0 rfl (lv_at hl 0 rfl) ?_
  refine va_get (D := D) (ci := 6) (v := .int ff) (C := RX8) (T := TX8) (N := 5) hx hb hts w_X8 hown hK hP 0 rfl rfl 3 (by decide) f_16 (fun _ h9 => h9) rfl dX8_shiftLoose_1 ?_
  have K17_1 : ∀ (v_1 : Int32), v_1 = (if ff = 0 then (fi + x) else fi) → ∀ (H : Heap) (locs : List Loc), va_P D vwCl [(h0, .inr (6, [.int ll, .int v_1, .int la, .int ff, .int lf]))] H → va_D A [(h0, .inr (6, [.int ll, .int v_1, .int la, .int ff, .int lf]))] → va_S A s.heap H locs → ∀ ls : Array Slot, lv_has ls 2 [(0, .ref h0), (1, .int x)] → W p l e (headSpec wsX8_shiftLoose rmX8_shiftLoose).room s m ([.ref h0, .int x] : List Value).toArray below meth c H locs 0 0 Q (F0 m 17 ls []) := by
    intro v_1 ev_1 H locs hP hD hS ls hl
    refine lv_aload_n hx hb dX8_shiftLoose_17 rfl (lv_at hl 0 rfl) ?_
    refine va_get (D := D) (ci := 6) (v := .int lf) (C := RX8) (T := TX8) (N := 5) hx hb hts w_X8 hown hK hP 0 rfl rfl 4 (by decide) f_23 (fun _ h9 => h9) rfl dX8_shiftLoose_18 ?_
    have K34_2 : ∀ (v_2 : Int32), v_2 = (if lf = 0 then (la + x) else la) → ∀ (H : Heap) (locs : List Loc), va_P D vwCl [(h0, .inr (6, [.int ll, .int v_1, .int v_2, .int ff, .int lf]))] H → va_D A [(h0, .inr (6, [.int ll, .int v_1, .int v_2, .int ff, .int lf]))] → va_S A s.heap H locs → ∀ ls : Array Slot, lv_has ls 2 [(0, .ref h0)] → W p l e (headSpec wsX8_shiftLoose rmX8_shiftLoose).room s m ([.ref h0, .int x] : List Value).toArray below meth c H locs 0 0 Q (F0 m 34 ls []) := by
      intro v_2 ev_2 H locs hP hD hS ls hl
      refine lv_aload_n hx hb dX8_shiftLoose_34 rfl (lv_at hl 0 rfl) ?_
      refine va_get (D := D) (ci := 6) (v := .int v_1) (C := RX8) (T := TX8) (N := 5) hx hb hts w_X8 hown hK hP 0 rfl rfl 1 (by decide) f_13 (fun _ h9 => h9) rfl dX8_shiftLoose_35 ?_
      refine lv_aload_n hx hb dX8_shiftLoose_38 rfl (lv_at hl 0 rfl) ?_
      refine va_get (D := D) (ci := 6) (v := .int ll) (C := RX8) (T := TX8) (N := 5) hx hb hts w_X8 hown hK hP 0 rfl rfl 0 (by decide) f_7 (fun _ h9 => h9) rfl dX8_shiftLoose_39 ?_
      have hPc := hP.sub (ws' := []) [] rfl
      have hDc := hD.sub (ws' := []) [] (by decide) rfl
      have hKc := hK.sub (tys' := []) [] rfl
      refine rd_i (va_runSN (As := [.int v_1, .int ll]) (rest := []) ⟨hx, hb, hml, hown, hts⟩ (kX9_isLine l D H.size v_1 ll ) ⟨va_cnB 2 hts gX8_shiftLoose_X9_isLine_n26 rfl rfl rfl hN.2.2.2.2.2.1 in_RX9 (by decide +kernel) ⟨Nat.le_of_ble_eq_true rfl, Nat.le_of_ble_eq_true rfl⟩, st_yX9_isLine, trivial⟩ ⟨Pw_blind, fun U hU hW => Pw_at hKc hPc hDc hN hU hW⟩ rfl rfl hl.1 rfl (lv_room (Nat.le_of_ble_eq_true rfl)) dX8_shiftLoose_42 ⟨Nat.le_of_ble_eq_true rfl, Nat.le_of_ble_eq_true rfl⟩) ?_
      refine lv_if_eq (tgt := 62) hx hb dX8_shiftLoose_45 (by decide) (fun c45 => ?_) (fun c45 => ?_)
      · refine lv_iconst (v := 0) hx hb dX8_shiftLoose_62 (by decide) ?_
        have hF : (fX8_shiftLoose ll fi la ff lf x) = (0, v_1, v_2, ff, lf) := by subst ev_2; subst ev_1; exact (if_pos c45)
        subst hAe
        subst hQe
        exact W.zret (v := 0) hx hb hr rfl (fun t ht hW => ⟨⟨_, _, rfl, ⟨(), trivial, by rw [hF], by rw [hF]⟩, by rw [ht]; exact hP, hD⟩, hS.F ht⟩) hS.2.2 dX8_shiftLoose_63
      · refine lv_aload_n hx hb dX8_shiftLoose_48 rfl (lv_at hl 0 rfl) ?_
        refine va_get (D := D) (ci := 6) (v := .int v_2) (C := RX8) (T := TX8) (N := 5) hx hb hts w_X8 hown hK hP 0 rfl rfl 2 (by decide) f_20 (fun _ h9 => h9) rfl dX8_shiftLoose_49 ?_
        refine lv_aload_n hx hb dX8_shiftLoose_52 rfl (lv_at hl 0 rfl) ?_
        refine va_get (D := D) (ci := 6) (v := .int ll) (C := RX8) (T := TX8) (N := 5) hx hb hts w_X8 hown hK hP 0 rfl rfl 0 (by decide) f_7 (fun _ h9 => h9) rfl dX8_shiftLoose_53 ?_
        have hPc := hP.sub (ws' := []) [] rfl
        have hDc := hD.sub (ws' := []) [] (by decide) rfl
        have hKc := hK.sub (tys' := []) [] rfl
        refine rd_i (va_runSN (As := [.int v_2, .int ll]) (rest := []) ⟨hx, hb, hml, hown, hts⟩ (kX9_isLine l D H.size v_2 ll ) ⟨va_cnB 2 hts gX8_shiftLoose_X9_isLine_n26 rfl rfl rfl hN.2.2.2.2.2.1 in_RX9 (by decide +kernel) ⟨Nat.le_of_ble_eq_true rfl, Nat.le_of_ble_eq_true rfl⟩, st_yX9_isLine, trivial⟩ ⟨Pw_blind, fun U hU hW => Pw_at hKc hPc hDc hN hU hW⟩ rfl rfl hl.1 rfl (lv_room (Nat.le_of_ble_eq_true rfl)) dX8_shiftLoose_56 ⟨Nat.le_of_ble_eq_true rfl, Nat.le_of_ble_eq_true rfl⟩) ?_
        refine lv_if_ne (tgt := 64) hx hb dX8_shiftLoose_59 (by decide) (fun c59 => ?_) (fun c59 => ?_)
        · refine lv_aload_n hx hb dX8_shiftLoose_64 rfl (lv_at hl 0 rfl) ?_
          refine va_get (D := D) (ci := 6) (v := .int v_1) (C := RX8) (T := TX8) (N := 5) hx hb hts w_X8 hown hK hP 0 rfl rfl 1 (by decide) f_13 (fun _ h9 => h9) rfl dX8_shiftLoose_65 ?_
          refine lv_aload_n hx hb dX8_shiftLoose_68 rfl (lv_at hl 0 rfl) ?_
          refine va_get (D := D) (ci := 6) (v := .int v_2) (C := RX8) (T := TX8) (N := 5) hx hb hts w_X8 hown hK hP 0 rfl rfl 2 (by decide) f_20 (fun _ h9 => h9) rfl dX8_shiftLoose_69 ?_
          have K79_3 : ∀ (v_3 : Int32), v_3 = (if v_1 ≤ v_2 then v_1 else v_2) → ∀ (v_4 : Int32), v_4 = (if v_1 ≤ v_2 then v_2 else v_1) → ∀ (v_5 : Int32), v_5 = (if v_1 ≤ v_2 then ff else lf) → ∀ (v_6 : Int32), v_6 = (if v_1 ≤ v_2 then lf else ff) → ∀ (H : Heap) (locs : List Loc), va_P D vwCl [(h0, .inr (6, [.int ll, .int v_3, .int v_4, .int v_5, .int v_6]))] H → va_D A [(h0, .inr (6, [.int ll, .int v_3, .int v_4, .int v_5, .int v_6]))] → va_S A s.heap H locs → ∀ ls : Array Slot, lv_has ls 2 [] → W p l e (headSpec wsX8_shiftLoose rmX8_shiftLoose).room s m ([.ref h0, .int x] : List Value).toArray below meth c H locs 0 0 Q (F0 m 79 ls []) := by
            intro v_3 ev_3 v_4 ev_4 v_5 ev_5 v_6 ev_6 H locs hP hD hS ls hl
            refine lv_iconst (v := 1) hx hb dX8_shiftLoose_79 (by decide) ?_
            have hF : (fX8_shiftLoose ll fi la ff lf x) = (1, v_3, v_4, v_5, v_6) := by subst ev_6; subst ev_5; subst ev_4; subst ev_3; subst ev_2; subst ev_1; exact ((if_neg c45).trans (if_neg c59))
            subst hAe
            subst hQe
            exact W.zret (v := 1) hx hb hr rfl (fun t ht hW => ⟨⟨_, _, rfl, ⟨(), trivial, by rw [hF], by rw [hF]⟩, by rw [ht]; exact hP, hD⟩, hS.F ht⟩) hS.2.2 dX8_shiftLoose_80
          refine lv_icmp_le (tgt := 79) hx hb dX8_shiftLoose_72 (by decide) (fun c72 => ?_) (fun c72 => ?_)
          · exact K79_3 _ (if_pos c72).symm _ (if_pos c72).symm _ (if_pos c72).symm _ (if_pos c72).symm H locs hP hD hS ls (lv_sub hl [] rfl)
          · refine lv_aload_n hx hb dX8_shiftLoose_75 rfl (lv_at hl 0 rfl) ?_
            have hPc := hP.sub (ws' := [(h0, .inr (6, [.int ll, .int v_1, .int v_2, .int ff, .int lf]))]) [0] rfl
            have hDc := hD.sub (ws' := [(h0, .inr (6, [.int ll, .int v_1, .int v_2, .int ff, .int lf]))]) [0] (by decide) rfl
            have hKc := hK.sub (tys' := []) [] rfl
            refine wk_v (β := Unit) (ok := fun _ => True) (wc := [(h0, .inr (6, [.int ll, .int v_1, .int v_2, .int ff, .int lf]))]) (wr := []) (w1 := fun _ => [(h0, .inr (6, [.int ll, .int v_2, .int v_1, .int lf, .int ff]))]) (ws2 := fun _ => [(h0, .inr (6, [.int ll, .int v_2, .int v_1, .int lf, .int ff]))]) (va_runV (As := []) (rest := []) ⟨hx, hb, hml, hown, hts⟩ (kX8_exchange l D H.size h0 ll v_1 v_2 ff lf (by first | assumption | (repeat' (first | assumption | exact Or.inl rfl | exact Or.inr rfl | apply isB.ite))) (by first | assumption | (repeat' (first | assumption | exact Or.inl rfl | exact Or.inr rfl | apply isB.ite)))) (cwV 0 hts gX8_shiftLoose_X8_exchange rfl rfl rfl (by decide +kernel) ⟨Nat.le_of_ble_eq_true rfl, Nat.le_of_ble_eq_true rfl⟩) ⟨Pw_blind, (va_recv hKc hPc (ci := 6) (q0 := 0) rfl rfl), fun U hU hW => Pw_at hKc hPc hDc hN hU hW⟩ rfl rfl hl.1 rfl (lv_room (Nat.le_of_ble_eq_true rfl)) dX8_shiftLoose_76 ⟨Nat.le_of_ble_eq_true rfl, Nat.le_of_ble_eq_true rfl⟩) hP hD hS hA [0] [] [0] rfl rfl (by decide) (by decide) (fun _ => rfl) (by decide) (fun _ _ H locs hP hD hS => ?_)
            have hP : va_P D vwCl [(h0, .inr (6, [.int ll, .int v_2, .int v_1, .int lf, .int ff]))] H := hP
            have hD : va_D A [(h0, .inr (6, [.int ll, .int v_2, .int v_1, .int lf, .int ff]))] := hD
            exact K79_3 _ (if_neg c72).symm _ (if_neg c72).symm _ (if_neg c72).symm _ (if_neg c72).symm H locs hP hD hS ls (lv_sub hl [] rfl)
        · refine lv_iconst (v := 0) hx hb dX8_shiftLoose_62 (by decide) ?_
          have hF : (fX8_shiftLoose ll fi la ff lf x) = (0, v_1, v_2, ff, lf) := by subst ev_2; subst ev_1; exact ((if_neg c45).trans (if_pos c59))
          subst hAe
          subst hQe
          exact W.zret (v := 0) hx hb hr rfl (fun t ht hW => ⟨⟨_, _, rfl, ⟨(), trivial, by rw [hF], by rw [hF]⟩, by rw [ht]; exact hP, hD⟩, hS.F ht⟩) hS.2.2 dX8_shiftLoose_63
    refine lv_if_ne (tgt := 34) hx hb dX8_shiftLoose_21 (by decide) (fun c21 => ?_) (fun c21 => ?_)
    · exact K34_2 _ (if_neg c21).symm H locs hP hD hS ls (lv_sub hl [0] rfl)
    · refine lv_aload_n hx hb dX8_shiftLoose_24 rfl (lv_at hl 0 rfl) ?_
      refine lv_dup hx hb dX8_shiftLoose_25 rfl ?_
      refine va_get (D := D) (ci := 6) (v := .int la) (C := RX8) (T := TX8) (N := 5) hx hb hts w_X8 hown hK hP 0 rfl rfl 2 (by decide) f_20 (fun _ h9 => h9) rfl dX8_shiftLoose_26 ?_
      refine lv_iload_n hx hb dX8_shiftLoose_29 rfl (lv_at hl 1 rfl) ?_
      refine lv_iadd hx hb dX8_shiftLoose_30 ?_
      refine va_put (D := D) (ci := 6) (v := .int (la + x)) (ty := .int) (C := RX8) (T := TX8) (N := 5) hx hb hts w_X8 tyX8 tyX8_ok nmX8 hown hK hP hD hS 0 rfl rfl 2 (by decide) f_20 (fun _ h9 => h9) rfl (by decide +kernel) rfl rfl (Nat.le_of_ble_eq_true rfl) dX8_shiftLoose_31 (fun H locs hP hD hS => ?_)
      have hP : va_P D vwCl [(h0, .inr (6, [.int ll, .int v_1, .int (la + x), .int ff, .int lf]))] H := hP
      have hD : va_D A [(h0, .inr (6, [.int ll, .int v_1, .int (la + x), .int ff, .int lf]))] := hD
      exact K34_2 _ (if_pos c21).symm H locs hP hD hS ls (lv_sub hl [0] rfl)
  refine lv_if_ne (tgt := 17) hx hb dX8_shiftLoose_4 (by decide) (fun c4 => ?_) (fun c4 => ?_)
  · exact K17_1 _ (if_neg c4).symm H locs hP hD hS ls (lv_sub hl [0, 1] rfl)
  · refine lv_aload_n hx hb dX8_shiftLoose_7 rfl (lv_at hl 0 rfl) ?_
    refine lv_dup hx hb dX8_shiftLoose_8 rfl ?_
    refine va_get (D := D) (ci := 6) (v := .int fi) (C := RX8) (T := TX8) (N := 5) hx hb hts w_X8 hown hK hP 0 rfl rfl 1 (by decide) f_13 (fun _ h9 => h9) rfl dX8_shiftLoose_9 ?_
    refine lv_iload_n hx hb dX8_shiftLoose_12 rfl (lv_at hl 1 rfl) ?_
    refine lv_iadd hx hb dX8_shiftLoose_13 ?_
    refine va_put (D := D) (ci := 6) (v := .int (fi + x)) (ty := .int) (C := RX8) (T := TX8) (N := 5) hx hb hts w_X8 tyX8 tyX8_ok nmX8 hown hK hP hD hS 0 rfl rfl 1 (by decide) f_13 (fun _ h9 => h9) rfl (by decide +kernel) rfl rfl (Nat.le_of_ble_eq_true rfl) dX8_shiftLoose_14 (fun H locs hP hD hS => ?_)
    have hP : va_P D vwCl [(h0, .inr (6, [.int ll, .int (fi + x), .int la, .int ff, .int lf]))] H := hP
    have hD : va_D A [(h0, .inr (6, [.int ll, .int (fi + x), .int la, .int ff, .int lf]))] := hD
    exact K17_1 _ (if_pos c4).symm H locs hP hD hS ls (lv_sub hl [0, 1] rfl)

def fX8_openGap (ll : Int32) (fi : Int32) (la : Int32) (x : Int32) (y : Int32) : Int32 × Int32 × Int32 := if (fX9_areAllLines fi la ll) = 0 then (let v_1 : Int32 := (if fi < x then fi else (fi + y)); let v_2 : Int32 := (if la < x then la else (if ll < (la + y) then ll else (la + y))); if ll < v_1 then (0, v_1, v_2) else (1, v_1, v_2)) else (1, fi, la)
theorem zb_X8_openGap (ll : Int32) (fi : Int32) (la : Int32) (x : Int32) (y : Int32) : isB (fX8_openGap ll fi la x y).1 := by
  unfold fX8_openGap
  (try dsimp only)
  repeat' split
  all_goals first | exact Or.inl rfl | exact Or.inr rfl
abbrev rmX8_openGap : Room := { frames := 1, cells := 0, slots := 0, locals := 22 }
abbrev qX8_openGap (D : va_G) (sz : Nat) (h0 : Nat) (ll : Int32) (fi : Int32) (la : Int32) (ff : Int32) (lf : Int32) (x : Int32) (y : Int32) : Array Value → State → Outcome → State → Prop := va_Qi (fun r_9 w_9 => ∃ _u : Unit, True ∧ r_9 = (fX8_openGap ll fi la x y).1 ∧ w_9 = [(h0, .inr (6, [.int ll, .int (fX8_openGap ll fi la x y).2.1, .int (fX8_openGap ll fi la x y).2.2, .int ff, .int lf]))]) (Bq D (va_A [(h0, .inr (6, [.int ll, .int fi, .int la, .int ff, .int lf]))] sz)) (va_A [(h0, .inr (6, [.int ll, .int fi, .int la, .int ff, .int lf]))] sz)
set_option maxHeartbeats 4000000 in
set_option maxRecDepth 100000 in
theorem kX8_openGap (l : Launch) (D : va_G) (sz : Nat) (h0 : Nat) (ll : Int32) (fi : Int32) (la : Int32) (ff : Int32) (lf : Int32) (x : Int32) (y : Int32) : Met l yX8_openGap wsX8_openGap rmX8_openGap (va_Pc [.ref h0, .int x, .int y] (Pw D [] [(h0, .inr (6, [.int ll, .int fi, .int la, .int ff, .int lf]))] sz)) (qX8_openGap D sz h0 ll fi la ff lf x y) 0 0 (va_A [(h0, .inr (6, [.int ll, .int fi, .int la, .int ff, .int lf]))] sz) := by
  refine Met.ofW (cc := cX8_openGap) (maxL := 3) (ret := (some .boolean)) (by decide) rfl ?_
  intro p e s m args below meth c s₁ B hml hv
  obtain ⟨rfl, hsz, hP, hK, hD0, hN⟩ := hv
  have hx := B.exec
  have hb := B.bytes
  have hr := B.returns
  have hts := atoms_spec (ws := wsX8_openGap) B.pre
  have hown : s.vm.findClass RX8 = some m.cls := findClass_of_methodNamed B.named
  have hlocks := B.notSynchronized
  subst hsz
  obtain ⟨Q, hQe⟩ : ∃ Q, Q = MQ below (qX8_openGap D s.heap.size h0 ll fi la ff lf x y) ([.ref h0, .int x, .int y] : List Value).toArray s 0 0 (va_A [(h0, .inr (6, [.int ll, .int fi, .int la, .int ff, .int lf]))] s.heap.size) := ⟨_, rfl⟩
  rw [← hQe]
  obtain ⟨A, hAe⟩ : ∃ A, A = va_A [(h0, .inr (6, [.int ll, .int fi, .int la, .int ff, .int lf]))] s.heap.size := ⟨_, rfl⟩
  have hD : va_D A [(h0, .inr (6, [.int ll, .int fi, .int la, .int ff, .int lf]))] := by rw [hAe]; exact hD0.self
  have hA : ∀ q : Nat, s.heap.size ≤ q → A q := by rw [hAe]; exact mo_A
  have hS : va_S A s.heap s.heap [] := va_S.rf
  obtain ⟨H, hHe⟩ : ∃ H, H = s.heap := ⟨_, rfl⟩
  obtain ⟨locs, hLe⟩ : ∃ L : List Loc, L = [] := ⟨_, rfl⟩
  have hP : va_P D vwCl [(h0, .inr (6, [.int ll, .int fi, .int la, .int ff, .int lf]))] H := by rw [hHe]; exact hP
  have hS : va_S A s.heap H locs := by rw [hHe, hLe]; exact hS
  have hl := lv_entry ([.ref h0, .int x, .int y]) (n := 3) (Nat.le_of_ble_eq_true rfl)
  rw [lg_entry_eq]
  generalize (lg_sl ([.ref h0, .int x, .int y]) ++ List.replicate (3 - (lg_sl ([.ref h0, .int x, .int y])).length) Slot.unset).toArray = ls at hl ⊢
  have hl : lv_has ls 3 [(0, .ref h0), (1, .int x), (2, .int y)] := hl
  refine hStart hHe hLe ?_
  clear hHe hLe
  have w_X8 : ∀ w ∈ wsX80, w ∈ wsX8_openGap := by decide +kernel
  have f_13 := hts (.fieldLink RX8 13 "ReferenceMover$Span" "first" "I") (by decide +kernel)
  have f_20 := hts (.fieldLink RX8 20 "ReferenceMover$Span" "last" "I") (by decide +kernel)
  have f_7 := hts (.fieldLink RX8 7 "ReferenceMover$Span" "lastLine" "I") (by decide +kernel)
  have in_RX9 := hts (.initialized RX9) (by decide +kernel)
  have st_yX9_areAllLines := hts (.static yX9_areAllLines) (by decide +kernel)
  refine lv_aload_n hx hb dX8_openGap_0 rfl (lv_at hl 0 rfl) ?_
  refine va_get (D := D) (ci := 6) (v := .int fi) (C := RX8) (T := TX8) (N := 5) hx hb hts w_X8 hown hK hP 0 rfl rfl 1 (by decide) f_13 (fun _ h9 => h9) rfl dX8_openGap_1 ?_
  refine lv_aload_n hx hb dX8_openGap_4 rfl (lv_at hl 0 rfl) ?_
  refine va_get (D := D) (ci := 6) (v := .int la) (C := RX8) (T := TX8) (N := 5) hx hb hts w_X8 hown hK hP 0 rfl rfl 2 (by decide) f_20 (fun _ h9 => h9) rfl dX8_openGap_5 ?_
  refine lv_aload_n hx hb dX8_openGap_8 rfl (lv_at hl 0 rfl) ?_
  refine va_get (D := D) (ci := 6) (v := .int ll) (C := RX8) (T := TX8) (N := 5) hx hb hts w_X8 hown hK hP 0 rfl rfl 0 (by decide) f_7 (fun _ h9 => h9) rfl dX8_openGap_9 ?_
  have hPc := hP.sub (ws' := []) [] rfl
  have hDc := hD.sub (ws' := []) [] (by decide) rfl
  have hKc := hK.sub (tys' := []) [] rfl
  refine rd_i (va_runSN (As := [.int fi, .int la, .int ll]) (rest := []) ⟨hx, hb, hml, hown, hts⟩ (kX9_areAllLines l D H.size fi la ll ) ⟨va_cnB 3 hts gX8_openGap_X9_areAllLines_n42 rfl rfl rfl hN.2.2.2.2.2.2.1 in_RX9 (by decide +kernel) ⟨Nat.le_of_ble_eq_true rfl, Nat.le_of_ble_eq_true rfl⟩, st_yX9_areAllLines, trivial⟩ ⟨Pw_blind, fun U hU hW => Pw_at hKc hPc hDc hN hU hW⟩ rfl rfl hl.1 rfl (lv_room (Nat.le_of_ble_eq_true rfl)) dX8_openGap_12 ⟨Nat.le_of_ble_eq_true rfl, Nat.le_of_ble_eq_true rfl⟩) ?_
  refine lv_if_eq (tgt := 20) hx hb dX8_openGap_15 (by decide) (fun c15 => ?_) (fun c15 => ?_)
  · refine lv_aload_n hx hb dX8_openGap_20 rfl (lv_at hl 0 rfl) ?_
    refine va_get (D := D) (ci := 6) (v := .int fi) (C := RX8) (T := TX8) (N := 5) hx hb hts w_X8 hown hK hP 0 rfl rfl 1 (by decide) f_13 (fun _ h9 => h9) rfl dX8_openGap_21 ?_
    refine lv_iload_n hx hb dX8_openGap_24 rfl (lv_at hl 1 rfl) ?_
    have K38_1 : ∀ (v_1 : Int32), v_1 = (if fi < x then fi else (fi + y)) → ∀ (H : Heap) (locs : List Loc), va_P D vwCl [(h0, .inr (6, [.int ll, .int v_1, .int la, .int ff, .int lf]))] H → va_D A [(h0, .inr (6, [.int ll, .int v_1, .int la, .int ff, .int lf]))] → va_S A s.heap H locs → ∀ ls : Array Slot, lv_has ls 3 [(0, .ref h0), (1, .int x), (2, .int y)] → W p l e (headSpec wsX8_openGap rmX8_openGap).room s m ([.ref h0, .int x, .int y] : List Value).toArray below meth c H locs 0 0 Q (F0 m 38 ls []) := by
      intro v_1 ev_1 H locs hP hD hS ls hl
      refine lv_aload_n hx hb dX8_openGap_38 rfl (lv_at hl 0 rfl) ?_
      refine va_get (D := D) (ci := 6) (v := .int la) (C := RX8) (T := TX8) (N := 5) hx hb hts w_X8 hown hK hP 0 rfl rfl 2 (by decide) f_20 (fun _ h9 => h9) rfl dX8_openGap_39 ?_
      refine lv_iload_n hx hb dX8_openGap_42 rfl (lv_at hl 1 rfl) ?_
      have K63_2 : ∀ (v_2 : Int32), v_2 = (if la < x then la else (if ll < (la + y) then ll else (la + y))) → ∀ (H : Heap) (locs : List Loc), va_P D vwCl [(h0, .inr (6, [.int ll, .int v_1, .int v_2, .int ff, .int lf]))] H → va_D A [(h0, .inr (6, [.int ll, .int v_1, .int v_2, .int ff, .int lf]))] → va_S A s.heap H locs → ∀ ls : Array Slot, lv_has ls 3 [(0, .ref h0)] → W p l e (headSpec wsX8_openGap rmX8_openGap).room s m ([.ref h0, .int x, .int y] : List Value).toArray below meth c H locs 0 0 Q (F0 m 63 ls []) := by
        intro v_2 ev_2 H locs hP hD hS ls hl
        refine lv_aload_n hx hb dX8_openGap_63 rfl (lv_at hl 0 rfl) ?_
        refine va_get (D := D) (ci := 6) (v := .int v_1) (C := RX8) (T := TX8) (N := 5) hx hb hts w_X8 hown hK hP 0 rfl rfl 1 (by decide) f_13 (fun _ h9 => h9) rfl dX8_openGap_64 ?_
        refine lv_aload_n hx hb dX8_openGap_67 rfl (lv_at hl 0 rfl) ?_
        refine va_get (D := D) (ci := 6) (v := .int ll) (C := RX8) (T := TX8) (N := 5) hx hb hts w_X8 hown hK hP 0 rfl rfl 0 (by decide) f_7 (fun _ h9 => h9) rfl dX8_openGap_68 ?_
        refine lv_icmp_gt (tgt := 78) hx hb dX8_openGap_71 (by decide) (fun c71 => ?_) (fun c71 => ?_)
        · refine lv_iconst (v := 0) hx hb dX8_openGap_78 (by decide) ?_
          have hF : (fX8_openGap ll fi la x y) = (0, v_1, v_2) := by subst ev_2; subst ev_1; exact ((if_pos c15).trans (if_pos c71))
          subst hAe
          subst hQe
          exact W.zret (v := 0) hx hb hr rfl (fun t ht hW => ⟨⟨_, _, rfl, ⟨(), trivial, by rw [hF], by rw [hF]⟩, by rw [ht]; exact hP, hD⟩, hS.F ht⟩) hS.2.2 dX8_openGap_79
        · refine lv_iconst (v := 1) hx hb dX8_openGap_74 (by decide) ?_
          refine lv_goto (tgt := 79) hx hb dX8_openGap_75 (by decide) ?_
          have hF : (fX8_openGap ll fi la x y) = (1, v_1, v_2) := by subst ev_2; subst ev_1; exact ((if_pos c15).trans (if_neg c71))
          subst hAe
          subst hQe
          exact W.zret (v := 1) hx hb hr rfl (fun t ht hW => ⟨⟨_, _, rfl, ⟨(), trivial, by rw [hF], by rw [hF]⟩, by rw [ht]; exact hP, hD⟩, hS.F ht⟩) hS.2.2 dX8_openGap_79
      refine lv_icmp_lt (tgt := 63) hx hb dX8_openGap_43 (by decide) (fun c43 => ?_) (fun c43 => ?_)
      · exact K63_2 _ (if_pos c43).symm H locs hP hD hS ls (lv_sub hl [0] rfl)
      · refine lv_aload_n hx hb dX8_openGap_46 rfl (lv_at hl 0 rfl) ?_
        refine lv_aload_n hx hb dX8_openGap_47 rfl (lv_at hl 0 rfl) ?_
        refine va_get (D := D) (ci := 6) (v := .int la) (C := RX8) (T := TX8) (N := 5) hx hb hts w_X8 hown hK hP 0 rfl rfl 2 (by decide) f_20 (fun _ h9 => h9) rfl dX8_openGap_48 ?_
        refine lv_iload_n hx hb dX8_openGap_51 rfl (lv_at hl 2 rfl) ?_
        refine lv_iadd hx hb dX8_openGap_52 ?_
        refine lv_aload_n hx hb dX8_openGap_53 rfl (lv_at hl 0 rfl) ?_
        refine va_get (D := D) (ci := 6) (v := .int ll) (C := RX8) (T := TX8) (N := 5) hx hb hts w_X8 hown hK hP 0 rfl rfl 0 (by decide) f_7 (fun _ h9 => h9) rfl dX8_openGap_54 ?_
        refine va_mmin hx hb (by rw [hml]; exact hl.1.symm) hown (hts (.methodLink RX8 46 Lib.Math.min.name) (by decide +kernel)) (hts (.static Lib.Math.min.name) (by decide +kernel)) (hts (.initialized "java/lang/Math") (by decide +kernel)) (hts (.code Lib.Math.min.name Lib.Math.min.code 2 (some .int)) (by decide +kernel)) (Nat.le_of_ble_eq_true rfl) (Nat.le_of_ble_eq_true rfl) (Nat.zero_le _) (Nat.zero_le _) dX8_openGap_57 ?_
        refine va_put (D := D) (ci := 6) (v := .int (if ll < (la + y) then ll else (la + y))) (ty := .int) (C := RX8) (T := TX8) (N := 5) hx hb hts w_X8 tyX8 tyX8_ok nmX8 hown hK hP hD hS 0 rfl rfl 2 (by decide) f_20 (fun _ h9 => h9) rfl (by decide +kernel) rfl rfl (Nat.le_of_ble_eq_true rfl) dX8_openGap_60 (fun H locs hP hD hS => ?_)
        have hP : va_P D vwCl [(h0, .inr (6, [.int ll, .int v_1, .int (if ll < (la + y) then ll else (la + y)), .int ff, .int lf]))] H := hP
        have hD : va_D A [(h0, .inr (6, [.int ll, .int v_1, .int (if ll < (la + y) then ll else (la + y)), .int ff, .int lf]))] := hD
        exact K63_2 _ (if_neg c43).symm H locs hP hD hS ls (lv_sub hl [0] rfl)
    refine lv_icmp_lt (tgt := 38) hx hb dX8_openGap_25 (by decide) (fun c25 => ?_) (fun c25 => ?_)
    · exact K38_1 _ (if_pos c25).symm H locs hP hD hS ls (lv_sub hl [0, 1, 2] rfl)
    · refine lv_aload_n hx hb dX8_openGap_28 rfl (lv_at hl 0 rfl) ?_
      refine lv_dup hx hb dX8_openGap_29 rfl ?_
      refine va_get (D := D) (ci := 6) (v := .int fi) (C := RX8) (T := TX8) (N := 5) hx hb hts w_X8 hown hK hP 0 rfl rfl 1 (by decide) f_13 (fun _ h9 => h9) rfl dX8_openGap_30 ?_
      refine lv_iload_n hx hb dX8_openGap_33 rfl (lv_at hl 2 rfl) ?_
      refine lv_iadd hx hb dX8_openGap_34 ?_
      refine va_put (D := D) (ci := 6) (v := .int (fi + y)) (ty := .int) (C := RX8) (T := TX8) (N := 5) hx hb hts w_X8 tyX8 tyX8_ok nmX8 hown hK hP hD hS 0 rfl rfl 1 (by decide) f_13 (fun _ h9 => h9) rfl (by decide +kernel) rfl rfl (Nat.le_of_ble_eq_true rfl) dX8_openGap_35 (fun H locs hP hD hS => ?_)
      have hP : va_P D vwCl [(h0, .inr (6, [.int ll, .int (fi + y), .int la, .int ff, .int lf]))] H := hP
      have hD : va_D A [(h0, .inr (6, [.int ll, .int (fi + y), .int la, .int ff, .int lf]))] := hD
      exact K38_1 _ (if_neg c25).symm H locs hP hD hS ls (lv_sub hl [0, 1, 2] rfl)
  · refine lv_iconst (v := 1) hx hb dX8_openGap_18 (by decide) ?_
    have hF : (fX8_openGap ll fi la x y) = (1, fi, la) := by exact (if_neg c15)
    subst hAe
    subst hQe
    exact W.zret (v := 1) hx hb hr rfl (fun t ht hW => ⟨⟨_, _, rfl, ⟨(), trivial, by rw [hF], by rw [hF]⟩, by rw [ht]; exact hP, hD⟩, hS.F ht⟩) hS.2.2 dX8_openGap_19

def fX8_closeGap (ll : Int32) (fi : Int32) (la : Int32) (x : Int32) (y : Int32) : Int32 × Int32 × Int32 := if (fX9_areAllLines fi la ll) = 0 then (let v_1 : Int32 := (if fi < (x + y) then (if fi < x then fi else x) else (fi - y)); let v_2 : Int32 := (if la < (x + y) then (if la < x then la else (x - 1)) else (la - y)); if v_2 < v_1 then (0, v_1, v_2) else (1, v_1, v_2)) else (1, fi, la)
theorem zb_X8_closeGap (ll : Int32) (fi : Int32) (la : Int32) (x : Int32) (y : Int32) : isB (fX8_closeGap ll fi la x y).1 := by
  unfold fX8_closeGap
  (try dsimp only)
  repeat' split
  all_goals first | exact Or.inl rfl | exact Or.inr rfl
abbrev rmX8_closeGap : Room := { frames := 1, cells := 0, slots := 0, locals := 22 }
abbrev qX8_closeGap (D : va_G) (sz : Nat) (h0 : Nat) (ll : Int32) (fi : Int32) (la : Int32) (ff : Int32) (lf : Int32) (x : Int32) (y : Int32) : Array Value → State → Outcome → State → Prop := va_Qi (fun r_9 w_9 => ∃ _u : Unit, True ∧ r_9 = (fX8_closeGap ll fi la x y).1 ∧ w_9 = [(h0, .inr (6, [.int ll, .int (fX8_closeGap ll fi la x y).2.1, .int (fX8_closeGap ll fi la x y).2.2, .int ff, .int lf]))]) (Bq D (va_A [(h0, .inr (6, [.int ll, .int fi, .int la, .int ff, .int lf]))] sz)) (va_A [(h0, .inr (6, [.int ll, .int fi, .int la, .int ff, .int lf]))] sz)
set_option maxHeartbeats 4000000 in
set_option maxRecDepth 100000 in
theorem kX8_closeGap (l : Launch) (D : va_G) (sz : Nat) (h0 : Nat) (ll : Int32) (fi : Int32) (la : Int32) (ff : Int32) (lf : Int32) (x : Int32) (y : Int32) : Met l yX8_closeGap wsX8_closeGap rmX8_closeGap (va_Pc [.ref h0, .int x, .int y] (Pw D [] [(h0, .inr (6, [.int ll, .int fi, .int la, .int ff, .int lf]))] sz)) (qX8_closeGap D sz h0 ll fi la ff lf x y) 0 0 (va_A [(h0, .inr (6, [.int ll, .int fi, .int la, .int ff, .int lf]))] sz) := by
  refine Met.ofW (cc := cX8_closeGap) (maxL := 4) (ret := (some .boolean)) (by decide) rfl ?_
  intro p e s m args below meth c s₁ B hml hv
  obtain ⟨rfl, hsz, hP, hK, hD0, hN⟩ := hv
  have hx := B.exec
  have hb := B.bytes
  have hr := B.returns
  have hts := atoms_spec (ws := wsX8_closeGap) B.pre
  have hown : s.vm.findClass RX8 = some m.cls := findClass_of_methodNamed B.named
  have hlocks := B.notSynchronized
  subst hsz
  obtain ⟨Q, hQe⟩ : ∃ Q, Q = MQ below (qX8_closeGap D s.heap.size h0 ll fi la ff lf x y) ([.ref h0, .int x, .int y] : List Value).toArray s 0 0 (va_A [(h0, .inr (6, [.int ll, .int fi, .int la, .int ff, .int lf]))] s.heap.size) := ⟨_, rfl⟩
  rw [← hQe]
  obtain ⟨A, hAe⟩ : ∃ A, A = va_A [(h0, .inr (6, [.int ll, .int fi, .int la, .int ff, .int lf]))] s.heap.size := ⟨_, rfl⟩
  have hD : va_D A [(h0, .inr (6, [.int ll, .int fi, .int la, .int ff, .int lf]))] := by rw [hAe]; exact hD0.self
  have hA : ∀ q : Nat, s.heap.size ≤ q → A q := by rw [hAe]; exact mo_A
  have hS : va_S A s.heap s.heap [] := va_S.rf
  obtain ⟨H, hHe⟩ : ∃ H, H = s.heap := ⟨_, rfl⟩
  obtain ⟨locs, hLe⟩ : ∃ L : List Loc, L = [] := ⟨_, rfl⟩
  have hP : va_P D vwCl [(h0, .inr (6, [.int ll, .int fi, .int la, .int ff, .int lf]))] H := by rw [hHe]; exact hP
  have hS : va_S A s.heap H locs := by rw [hHe, hLe]; exact hS
  have hl := lv_entry ([.ref h0, .int x, .int y]) (n := 4) (Nat.le_of_ble_eq_true rfl)
  rw [lg_entry_eq]
  generalize (lg_sl ([.ref h0, .int x, .int y]) ++ List.replicate (4 - (lg_sl ([.ref h0, .int x, .int y])).length) Slot.unset).toArray = ls at hl ⊢
  have hl : lv_has ls 4 [(0, .ref h0), (1, .int x), (2, .int y)] := hl
  refine hStart hHe hLe ?_
  clear hHe hLe
  have w_X8 : ∀ w ∈ wsX80, w ∈ wsX8_closeGap := by decide +kernel
  have f_13 := hts (.fieldLink RX8 13 "ReferenceMover$Span" "first" "I") (by decide +kernel)
  have f_20 := hts (.fieldLink RX8 20 "ReferenceMover$Span" "last" "I") (by decide +kernel)
  have f_7 := hts (.fieldLink RX8 7 "ReferenceMover$Span" "lastLine" "I") (by decide +kernel)
  have in_RX9 := hts (.initialized RX9) (by decide +kernel)
  have st_yX9_areAllLines := hts (.static yX9_areAllLines) (by decide +kernel)
  refine lv_aload_n hx hb dX8_closeGap_0 rfl (lv_at hl 0 rfl) ?_
  refine va_get (D := D) (ci := 6) (v := .int fi) (C := RX8) (T := TX8) (N := 5) hx hb hts w_X8 hown hK hP 0 rfl rfl 1 (by decide) f_13 (fun _ h9 => h9) rfl dX8_closeGap_1 ?_
  refine lv_aload_n hx hb dX8_closeGap_4 rfl (lv_at hl 0 rfl) ?_
  refine va_get (D := D) (ci := 6) (v := .int la) (C := RX8) (T := TX8) (N := 5) hx hb hts w_X8 hown hK hP 0 rfl rfl 2 (by decide) f_20 (fun _ h9 => h9) rfl dX8_closeGap_5 ?_
  refine lv_aload_n hx hb dX8_closeGap_8 rfl (lv_at hl 0 rfl) ?_
  refine va_get (D := D) (ci := 6) (v := .int ll) (C := RX8) (T := TX8) (N := 5) hx hb hts w_X8 hown hK hP 0 rfl rfl 0 (by decide) f_7 (fun _ h9 => h9) rfl dX8_closeGap_9 ?_
  have hPc := hP.sub (ws' := []) [] rfl
  have hDc := hD.sub (ws' := []) [] (by decide) rfl
  have hKc := hK.sub (tys' := []) [] rfl
  refine rd_i (va_runSN (As := [.int fi, .int la, .int ll]) (rest := []) ⟨hx, hb, hml, hown, hts⟩ (kX9_areAllLines l D H.size fi la ll ) ⟨va_cnB 3 hts gX8_closeGap_X9_areAllLines_n42 rfl rfl rfl hN.2.2.2.2.2.2.1 in_RX9 (by decide +kernel) ⟨Nat.le_of_ble_eq_true rfl, Nat.le_of_ble_eq_true rfl⟩, st_yX9_areAllLines, trivial⟩ ⟨Pw_blind, fun U hU hW => Pw_at hKc hPc hDc hN hU hW⟩ rfl rfl hl.1 rfl (lv_room (Nat.le_of_ble_eq_true rfl)) dX8_closeGap_12 ⟨Nat.le_of_ble_eq_true rfl, Nat.le_of_ble_eq_true rfl⟩) ?_
  refine lv_if_eq (tgt := 20) hx hb dX8_closeGap_15 (by decide) (fun c15 => ?_) (fun c15 => ?_)
  · refine lv_iload_n hx hb dX8_closeGap_20 rfl (lv_at hl 1 rfl) ?_
    refine lv_iload_n hx hb dX8_closeGap_21 rfl (lv_at hl 2 rfl) ?_
    refine lv_iadd hx hb dX8_closeGap_22 ?_
    refine lv_istore_n (lv' := [(3, .int (x + y)), (0, .ref h0), (1, .int x), (2, .int y)]) hx hb dX8_closeGap_23 rfl hl (by decide) rfl (fun ls hl => ?_)
    refine lv_aload_n hx hb dX8_closeGap_24 rfl (lv_at hl 1 rfl) ?_
    refine va_get (D := D) (ci := 6) (v := .int fi) (C := RX8) (T := TX8) (N := 5) hx hb hts w_X8 hown hK hP 0 rfl rfl 1 (by decide) f_13 (fun _ h9 => h9) rfl dX8_closeGap_25 ?_
    refine lv_iload_n hx hb dX8_closeGap_28 rfl (lv_at hl 0 rfl) ?_
    have K58_1 : ∀ (v_1 : Int32), v_1 = (if fi < (x + y) then (if fi < x then fi else x) else (fi - y)) → ∀ (H : Heap) (locs : List Loc), va_P D vwCl [(h0, .inr (6, [.int ll, .int v_1, .int la, .int ff, .int lf]))] H → va_D A [(h0, .inr (6, [.int ll, .int v_1, .int la, .int ff, .int lf]))] → va_S A s.heap H locs → ∀ ls : Array Slot, lv_has ls 4 [(0, .ref h0), (1, .int x), (2, .int y), (3, .int (x + y))] → W p l e (headSpec wsX8_closeGap rmX8_closeGap).room s m ([.ref h0, .int x, .int y] : List Value).toArray below meth c H locs 0 0 Q (F0 m 58 ls []) := by
      intro v_1 ev_1 H locs hP hD hS ls hl
      refine lv_aload_n hx hb dX8_closeGap_58 rfl (lv_at hl 0 rfl) ?_
      refine va_get (D := D) (ci := 6) (v := .int la) (C := RX8) (T := TX8) (N := 5) hx hb hts w_X8 hown hK hP 0 rfl rfl 2 (by decide) f_20 (fun _ h9 => h9) rfl dX8_closeGap_59 ?_
      refine lv_iload_n hx hb dX8_closeGap_62 rfl (lv_at hl 3 rfl) ?_
      have K94_2 : ∀ (v_2 : Int32), v_2 = (if la < (x + y) then (if la < x then la else (x - 1)) else (la - y)) → ∀ (H : Heap) (locs : List Loc), va_P D vwCl [(h0, .inr (6, [.int ll, .int v_1, .int v_2, .int ff, .int lf]))] H → va_D A [(h0, .inr (6, [.int ll, .int v_1, .int v_2, .int ff, .int lf]))] → va_S A s.heap H locs → ∀ ls : Array Slot, lv_has ls 4 [(0, .ref h0)] → W p l e (headSpec wsX8_closeGap rmX8_closeGap).room s m ([.ref h0, .int x, .int y] : List Value).toArray below meth c H locs 0 0 Q (F0 m 94 ls []) := by
        intro v_2 ev_2 H locs hP hD hS ls hl
        refine lv_aload_n hx hb dX8_closeGap_94 rfl (lv_at hl 0 rfl) ?_
        refine va_get (D := D) (ci := 6) (v := .int v_1) (C := RX8) (T := TX8) (N := 5) hx hb hts w_X8 hown hK hP 0 rfl rfl 1 (by decide) f_13 (fun _ h9 => h9) rfl dX8_closeGap_95 ?_
        refine lv_aload_n hx hb dX8_closeGap_98 rfl (lv_at hl 0 rfl) ?_
        refine va_get (D := D) (ci := 6) (v := .int v_2) (C := RX8) (T := TX8) (N := 5) hx hb hts w_X8 hown hK hP 0 rfl rfl 2 (by decide) f_20 (fun _ h9 => h9) rfl dX8_closeGap_99 ?_
        refine lv_icmp_gt (tgt := 109) hx hb dX8_closeGap_102 (by decide) (fun c102 => ?_) (fun c102 => ?_)
        · refine lv_iconst (v := 0) hx hb dX8_closeGap_109 (by decide) ?_
          have hF : (fX8_closeGap ll fi la x y) = (0, v_1, v_2) := by subst ev_2; subst ev_1; exact ((if_pos c15).trans (if_pos c102))
          subst hAe
          subst hQe
          exact W.zret (v := 0) hx hb hr rfl (fun t ht hW => ⟨⟨_, _, rfl, ⟨(), trivial, by rw [hF], by rw [hF]⟩, by rw [ht]; exact hP, hD⟩, hS.F ht⟩) hS.2.2 dX8_closeGap_110
        · refine lv_iconst (v := 1) hx hb dX8_closeGap_105 (by decide) ?_
          refine lv_goto (tgt := 110) hx hb dX8_closeGap_106 (by decide) ?_
          have hF : (fX8_closeGap ll fi la x y) = (1, v_1, v_2) := by subst ev_2; subst ev_1; exact ((if_pos c15).trans (if_neg c102))
          subst hAe
          subst hQe
          exact W.zret (v := 1) hx hb hr rfl (fun t ht hW => ⟨⟨_, _, rfl, ⟨(), trivial, by rw [hF], by rw [hF]⟩, by rw [ht]; exact hP, hD⟩, hS.F ht⟩) hS.2.2 dX8_closeGap_110
      refine lv_icmp_lt (tgt := 79) hx hb dX8_closeGap_63 (by decide) (fun c63 => ?_) (fun c63 => ?_)
      · refine lv_aload_n hx hb dX8_closeGap_79 rfl (lv_at hl 0 rfl) ?_
        refine va_get (D := D) (ci := 6) (v := .int la) (C := RX8) (T := TX8) (N := 5) hx hb hts w_X8 hown hK hP 0 rfl rfl 2 (by decide) f_20 (fun _ h9 => h9) rfl dX8_closeGap_80 ?_
        refine lv_iload_n hx hb dX8_closeGap_83 rfl (lv_at hl 1 rfl) ?_
        refine lv_icmp_lt (tgt := 94) hx hb dX8_closeGap_84 (by decide) (fun c84 => ?_) (fun c84 => ?_)
        · exact K94_2 _ ((if_pos c63).trans (if_pos c84)).symm H locs hP hD hS ls (lv_sub hl [0] rfl)
        · refine lv_aload_n hx hb dX8_closeGap_87 rfl (lv_at hl 0 rfl) ?_
          refine lv_iload_n hx hb dX8_closeGap_88 rfl (lv_at hl 1 rfl) ?_
          refine lv_iconst (v := 1) hx hb dX8_closeGap_89 (by decide) ?_
          refine lv_isub hx hb dX8_closeGap_90 ?_
          refine va_put (D := D) (ci := 6) (v := .int (x - 1)) (ty := .int) (C := RX8) (T := TX8) (N := 5) hx hb hts w_X8 tyX8 tyX8_ok nmX8 hown hK hP hD hS 0 rfl rfl 2 (by decide) f_20 (fun _ h9 => h9) rfl (by decide +kernel) rfl rfl (Nat.le_of_ble_eq_true rfl) dX8_closeGap_91 (fun H locs hP hD hS => ?_)
          have hP : va_P D vwCl [(h0, .inr (6, [.int ll, .int v_1, .int (x - 1), .int ff, .int lf]))] H := hP
          have hD : va_D A [(h0, .inr (6, [.int ll, .int v_1, .int (x - 1), .int ff, .int lf]))] := hD
          exact K94_2 _ ((if_pos c63).trans (if_neg c84)).symm H locs hP hD hS ls (lv_sub hl [0] rfl)
      · refine lv_aload_n hx hb dX8_closeGap_66 rfl (lv_at hl 0 rfl) ?_
        refine lv_dup hx hb dX8_closeGap_67 rfl ?_
        refine va_get (D := D) (ci := 6) (v := .int la) (C := RX8) (T := TX8) (N := 5) hx hb hts w_X8 hown hK hP 0 rfl rfl 2 (by decide) f_20 (fun _ h9 => h9) rfl dX8_closeGap_68 ?_
        refine lv_iload_n hx hb dX8_closeGap_71 rfl (lv_at hl 2 rfl) ?_
        refine lv_isub hx hb dX8_closeGap_72 ?_
        refine va_put (D := D) (ci := 6) (v := .int (la - y)) (ty := .int) (C := RX8) (T := TX8) (N := 5) hx hb hts w_X8 tyX8 tyX8_ok nmX8 hown hK hP hD hS 0 rfl rfl 2 (by decide) f_20 (fun _ h9 => h9) rfl (by decide +kernel) rfl rfl (Nat.le_of_ble_eq_true rfl) dX8_closeGap_73 (fun H locs hP hD hS => ?_)
        have hP : va_P D vwCl [(h0, .inr (6, [.int ll, .int v_1, .int (la - y), .int ff, .int lf]))] H := hP
        have hD : va_D A [(h0, .inr (6, [.int ll, .int v_1, .int (la - y), .int ff, .int lf]))] := hD
        refine lv_goto (tgt := 94) hx hb dX8_closeGap_76 (by decide) ?_
        exact K94_2 _ (if_neg c63).symm H locs hP hD hS ls (lv_sub hl [0] rfl)
    refine lv_icmp_lt (tgt := 45) hx hb dX8_closeGap_29 (by decide) (fun c29 => ?_) (fun c29 => ?_)
    · refine lv_aload_n hx hb dX8_closeGap_45 rfl (lv_at hl 1 rfl) ?_
      refine va_get (D := D) (ci := 6) (v := .int fi) (C := RX8) (T := TX8) (N := 5) hx hb hts w_X8 hown hK hP 0 rfl rfl 1 (by decide) f_13 (fun _ h9 => h9) rfl dX8_closeGap_46 ?_
      refine lv_iload_n hx hb dX8_closeGap_49 rfl (lv_at hl 2 rfl) ?_
      refine lv_icmp_lt (tgt := 58) hx hb dX8_closeGap_50 (by decide) (fun c50 => ?_) (fun c50 => ?_)
      · exact K58_1 _ ((if_pos c29).trans (if_pos c50)).symm H locs hP hD hS ls (lv_sub hl [1, 2, 3, 0] rfl)
      · refine lv_aload_n hx hb dX8_closeGap_53 rfl (lv_at hl 1 rfl) ?_
        refine lv_iload_n hx hb dX8_closeGap_54 rfl (lv_at hl 2 rfl) ?_
        refine va_put (D := D) (ci := 6) (v := .int x) (ty := .int) (C := RX8) (T := TX8) (N := 5) hx hb hts w_X8 tyX8 tyX8_ok nmX8 hown hK hP hD hS 0 rfl rfl 1 (by decide) f_13 (fun _ h9 => h9) rfl (by decide +kernel) rfl rfl (Nat.le_of_ble_eq_true rfl) dX8_closeGap_55 (fun H locs hP hD hS => ?_)
        have hP : va_P D vwCl [(h0, .inr (6, [.int ll, .int x, .int la, .int ff, .int lf]))] H := hP
        have hD : va_D A [(h0, .inr (6, [.int ll, .int x, .int la, .int ff, .int lf]))] := hD
        exact K58_1 _ ((if_pos c29).trans (if_neg c50)).symm H locs hP hD hS ls (lv_sub hl [1, 2, 3, 0] rfl)
    · refine lv_aload_n hx hb dX8_closeGap_32 rfl (lv_at hl 1 rfl) ?_
      refine lv_dup hx hb dX8_closeGap_33 rfl ?_
      refine va_get (D := D) (ci := 6) (v := .int fi) (C := RX8) (T := TX8) (N := 5) hx hb hts w_X8 hown hK hP 0 rfl rfl 1 (by decide) f_13 (fun _ h9 => h9) rfl dX8_closeGap_34 ?_
      refine lv_iload_n hx hb dX8_closeGap_37 rfl (lv_at hl 3 rfl) ?_
      refine lv_isub hx hb dX8_closeGap_38 ?_
      refine va_put (D := D) (ci := 6) (v := .int (fi - y)) (ty := .int) (C := RX8) (T := TX8) (N := 5) hx hb hts w_X8 tyX8 tyX8_ok nmX8 hown hK hP hD hS 0 rfl rfl 1 (by decide) f_13 (fun _ h9 => h9) rfl (by decide +kernel) rfl rfl (Nat.le_of_ble_eq_true rfl) dX8_closeGap_39 (fun H locs hP hD hS => ?_)
      have hP : va_P D vwCl [(h0, .inr (6, [.int ll, .int (fi - y), .int la, .int ff, .int lf]))] H := hP
      have hD : va_D A [(h0, .inr (6, [.int ll, .int (fi - y), .int la, .int ff, .int lf]))] := hD
      refine lv_goto (tgt := 58) hx hb dX8_closeGap_42 (by decide) ?_
      exact K58_1 _ (if_neg c29).symm H locs hP hD hS ls (lv_sub hl [1, 2, 3, 0] rfl)
  · refine lv_iconst (v := 1) hx hb dX8_closeGap_18 (by decide) ?_
    have hF : (fX8_closeGap ll fi la x y) = (1, fi, la) := by exact (if_neg c15)
    subst hAe
    subst hQe
    exact W.zret (v := 1) hx hb hr rfl (fun t ht hW => ⟨⟨_, _, rfl, ⟨(), trivial, by rw [hF], by rw [hF]⟩, by rw [ht]; exact hP, hD⟩, hS.F ht⟩) hS.2.2 dX8_closeGap_19
