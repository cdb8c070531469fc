def fX10_within (x : Int32) (y : Int32) (z : Int32) : Int32 := if x < y then 0 else (if z < x then 0 else 1)
theorem zb_X10_within (x : Int32) (y : Int32) (z : Int32) : isB (fX10_within x y z) := by
  unfold fX10_within
  (try dsimp only)
  repeat' split
  all_goals first | exact Or.inl rfl | exact Or.inr rfl
abbrev rmX10_within : Room := { frames := 0, cells := 0, slots := 0, locals := 0 }
abbrev qX10_within (D : va_G) (sz : Nat) (x : Int32) (y : Int32) (z : Int32) : Array Value → State → Outcome → State → Prop := vp_Si (fun r_9 => r_9 = (fX10_within x y z))
set_option maxHeartbeats 4000000 in
set_option maxRecDepth 100000 in
theorem kX10_within (l : Launch) (D : va_G) (sz : Nat) (x : Int32) (y : Int32) (z : Int32) : Met l yX10_within wsX10_within rmX10_within (va_Pc [.int x, .int y, .int z] (Pw D [] [] sz)) (qX10_within D sz x y z) 0 0 (fun _ => False) := by
  refine Met.ofW (cc := cX10_within) (maxL := 3) (ret := (some .boolean)) (by decide) rfl ?_
  intro p e s m args below meth c s₁ B hml hv
  obtain ⟨rfl, hsz, hP, hK, hD0, hN⟩ := hv
  have hx := B.exec
  have hb := B.bytes
  have hr := B.returns
  have hts := atoms_spec (ws := wsX10_within) B.pre
  have hown : s.vm.findClass RX10 = some m.cls := findClass_of_methodNamed B.named
  have hlocks := B.notSynchronized
  subst hsz
  obtain ⟨Q, hQe⟩ : ∃ Q, Q = MQ below (qX10_within D s.heap.size x y z) ([.int x, .int y, .int z] : List Value).toArray s 0 0 (fun _ => False) := ⟨_, rfl⟩
  rw [← hQe]
  have hD := hD0
  have hP : va_P D vwCl [] s.heap := hP
  have hl := lv_entry ([.int x, .int y, .int z]) (n := 3) (Nat.le_of_ble_eq_true rfl)
  rw [lg_entry_eq]
  generalize (lg_sl ([.int x, .int y, .int z]) ++ List.replicate (3 - (lg_sl ([.int x, .int y, .int z])).length) Slot.unset).toArray = ls at hl ⊢
  have hl : lv_has ls 3 [(0, .int x), (1, .int y), (2, .int z)] := hl
  refine lv_iload_n hx hb dX10_within_0 rfl (lv_at hl 0 rfl) ?_
  refine lv_iload_n hx hb dX10_within_1 rfl (lv_at hl 1 rfl) ?_
  refine lv_icmp_lt (tgt := 14) hx hb dX10_within_2 (by decide) (fun c2 => ?_) (fun c2 => ?_)
  · refine lv_iconst (v := 0) hx hb dX10_within_14 (by decide) ?_
    have hF : (fX10_within x y z) = 0 := by exact (if_pos c2)
    subst hQe
    exact W.zret (v := 0) hx hb hr rfl (fun t ht hW => ⟨_, rfl, hF.symm, ht⟩) (fun q h => absurd h List.not_mem_nil) dX10_within_15
  · refine lv_iload_n hx hb dX10_within_5 rfl (lv_at hl 0 rfl) ?_
    refine lv_iload_n hx hb dX10_within_6 rfl (lv_at hl 2 rfl) ?_
    refine lv_icmp_gt (tgt := 14) hx hb dX10_within_7 (by decide) (fun c7 => ?_) (fun c7 => ?_)
    · refine lv_iconst (v := 0) hx hb dX10_within_14 (by decide) ?_
      have hF : (fX10_within x y z) = 0 := by exact ((if_neg c2).trans (if_pos c7))
      subst hQe
      exact W.zret (v := 0) hx hb hr rfl (fun t ht hW => ⟨_, rfl, hF.symm, ht⟩) (fun q h => absurd h List.not_mem_nil) dX10_within_15
    · refine lv_iconst (v := 1) hx hb dX10_within_10 (by decide) ?_
      refine lv_goto (tgt := 15) hx hb dX10_within_11 (by decide) ?_
      have hF : (fX10_within x y z) = 1 := by exact ((if_neg c2).trans (if_neg c7))
      subst hQe
      exact W.zret (v := 1) hx hb hr rfl (fun t ht hW => ⟨_, rfl, hF.symm, ht⟩) (fun q h => absurd h List.not_mem_nil) dX10_within_15

def fX10_isCell (x : Int32) (y : Int32) : Int32 := if (fX10_within x 1 1048576) = 0 then 0 else (if (fX10_within y 1 16384) = 0 then 0 else 1)
theorem zb_X10_isCell (x : Int32) (y : Int32) : isB (fX10_isCell x y) := by
  unfold fX10_isCell
  (try dsimp only)
  repeat' split
  all_goals first | exact Or.inl rfl | exact Or.inr rfl
abbrev rmX10_isCell : Room := { frames := 1, cells := 0, slots := 0, locals := 22 }
abbrev qX10_isCell (D : va_G) (sz : Nat) (x : Int32) (y : Int32) : Array Value → State → Outcome → State → Prop := vp_Si (fun r_9 => r_9 = (fX10_isCell x y))
set_option maxHeartbeats 4000000 in
set_option maxRecDepth 100000 in
theorem kX10_isCell (l : Launch) (D : va_G) (sz : Nat) (x : Int32) (y : Int32) : Met l yX10_isCell wsX10_isCell rmX10_isCell (va_Pc [.int x, .int y] (Pw D [] [] sz)) (qX10_isCell D sz x y) 0 0 (fun _ => False) := by
  refine Met.ofW (cc := cX10_isCell) (maxL := 2) (ret := (some .boolean)) (by decide) rfl ?_
  intro p e s m args below meth c s₁ B hml hv
  obtain ⟨rfl, hsz, hP, hK, hD0, hN⟩ := hv
  have hx := B.exec
  have hb := B.bytes
  have hr := B.returns
  have hts := atoms_spec (ws := wsX10_isCell) B.pre
  have hown : s.vm.findClass RX10 = some m.cls := findClass_of_methodNamed B.named
  have hlocks := B.notSynchronized
  subst hsz
  obtain ⟨Q, hQe⟩ : ∃ Q, Q = MQ below (qX10_isCell D s.heap.size x y) ([.int x, .int y] : List Value).toArray s 0 0 (fun _ => False) := ⟨_, rfl⟩
  rw [← hQe]
  have hD := hD0
  have hP : va_P D vwCl [] s.heap := hP
  have hl := lv_entry ([.int x, .int y]) (n := 2) (Nat.le_of_ble_eq_true rfl)
  rw [lg_entry_eq]
  generalize (lg_sl ([.int x, .int y]) ++ List.replicate (2 - (lg_sl ([.int x, .int y])).length) Slot.unset).toArray = ls at hl ⊢
  have hl : lv_has ls 2 [(0, .int x), (1, .int y)] := hl
  have k_39 := hts (.constant RX10 39 (1048576)) (by decide +kernel)
  refine lv_iload_n hx hb dX10_isCell_0 rfl (lv_at hl 0 rfl) ?_
  refine lv_iconst (v := 1) hx hb dX10_isCell_1 (by decide) ?_
  refine lv_ldc (v := 1048576) hx hb hown k_39 dX10_isCell_2 ?_
  have hPc := hP.sub (ws' := []) [] rfl
  have hDc := hD.sub (ws' := []) [] (by decide) rfl
  have hKc := hK.sub (tys' := []) [] rfl
  refine rd_i (va_runS (As := [.int x, .int 1, .int 1048576]) (rest := []) ⟨hx, hb, hml, hown, hts⟩ (kX10_within l D s.heap.size x 1 1048576 ) (va_cwS 3 hts gX10_isCell_X10_within rfl rfl rfl (by decide +kernel) ⟨Nat.le_of_ble_eq_true rfl, Nat.le_of_ble_eq_true rfl⟩) ⟨Pw_blind, fun U hU hW => Pw_at hKc hPc hDc hN hU hW⟩ rfl rfl hl.1 rfl (lv_room (Nat.le_of_ble_eq_true rfl)) dX10_isCell_4 ⟨Nat.le_of_ble_eq_true rfl, Nat.le_of_ble_eq_true rfl⟩) ?_
  refine lv_if_eq (tgt := 25) hx hb dX10_isCell_7 (by decide) (fun c7 => ?_) (fun c7 => ?_)
  · refine lv_iconst (v := 0) hx hb dX10_isCell_25 (by decide) ?_
    have hF : (fX10_isCell x y) = 0 := by exact (if_pos c7)
    subst hQe
    exact W.zret (v := 0) hx hb hr rfl (fun t ht hW => ⟨_, rfl, hF.symm, ht⟩) (fun q h => absurd h List.not_mem_nil) dX10_isCell_26
  · refine lv_iload_n hx hb dX10_isCell_10 rfl (lv_at hl 1 rfl) ?_
    refine lv_iconst (v := 1) hx hb dX10_isCell_11 (by decide) ?_
    refine lv_sipush (v := 16384) hx hb dX10_isCell_12 (by decide) ?_
    have hPc := hP.sub (ws' := []) [] rfl
    have hDc := hD.sub (ws' := []) [] (by decide) rfl
    have hKc := hK.sub (tys' := []) [] rfl
    refine rd_i (va_runS (As := [.int y, .int 1, .int 16384]) (rest := []) ⟨hx, hb, hml, hown, hts⟩ (kX10_within l D s.heap.size y 1 16384 ) (va_cwS 3 hts gX10_isCell_X10_within rfl rfl rfl (by decide +kernel) ⟨Nat.le_of_ble_eq_true rfl, Nat.le_of_ble_eq_true rfl⟩) ⟨Pw_blind, fun U hU hW => Pw_at hKc hPc hDc hN hU hW⟩ rfl rfl hl.1 rfl (lv_room (Nat.le_of_ble_eq_true rfl)) dX10_isCell_15 ⟨Nat.le_of_ble_eq_true rfl, Nat.le_of_ble_eq_true rfl⟩) ?_
    refine lv_if_eq (tgt := 25) hx hb dX10_isCell_18 (by decide) (fun c18 => ?_) (fun c18 => ?_)
    · refine lv_iconst (v := 0) hx hb dX10_isCell_25 (by decide) ?_
      have hF : (fX10_isCell x y) = 0 := by exact ((if_neg c7).trans (if_pos c18))
      subst hQe
      exact W.zret (v := 0) hx hb hr rfl (fun t ht hW => ⟨_, rfl, hF.symm, ht⟩) (fun q h => absurd h List.not_mem_nil) dX10_isCell_26
    · refine lv_iconst (v := 1) hx hb dX10_isCell_21 (by decide) ?_
      refine lv_goto (tgt := 26) hx hb dX10_isCell_22 (by decide) ?_
      have hF : (fX10_isCell x y) = 1 := by exact ((if_neg c7).trans (if_neg c18))
      subst hQe
      exact W.zret (v := 1) hx hb hr rfl (fun t ht hW => ⟨_, rfl, hF.symm, ht⟩) (fun q h => absurd h List.not_mem_nil) dX10_isCell_26

def fX10_moved (x : Int32) (z : Int32) (y : Int32) (u : Int32) : Int32 := if z = 0 then (if (fX10_within (x + y) 1 u) = 0 then 0 else (x + y)) else x
abbrev rmX10_moved : Room := { frames := 1, cells := 0, slots := 0, locals := 22 }
abbrev qX10_moved (D : va_G) (sz : Nat) (x : Int32) (z : Int32) (y : Int32) (u : Int32) : Array Value → State → Outcome → State → Prop := vp_Si (fun r_9 => r_9 = (fX10_moved x z y u))
set_option maxHeartbeats 4000000 in
set_option maxRecDepth 100000 in
theorem kX10_moved (l : Launch) (D : va_G) (sz : Nat) (x : Int32) (z : Int32) (y : Int32) (u : Int32) : Met l yX10_moved wsX10_moved rmX10_moved (va_Pc [.int x, .int z, .int y, .int u] (Pw D [] [] sz)) (qX10_moved D sz x z y u) 0 0 (fun _ => False) := by
  refine Met.ofW (cc := cX10_moved) (maxL := 4) (ret := (some .int)) (by decide) rfl ?_
  intro p e s m args below meth c s₁ B hml hv
  obtain ⟨rfl, hsz, hP, hK, hD0, hN⟩ := hv
  have hx := B.exec
  have hb := B.bytes
  have hr := B.returns
  have hts := atoms_spec (ws := wsX10_moved) B.pre
  have hown : s.vm.findClass RX10 = some m.cls := findClass_of_methodNamed B.named
  have hlocks := B.notSynchronized
  subst hsz
  obtain ⟨Q, hQe⟩ : ∃ Q, Q = MQ below (qX10_moved D s.heap.size x z y u) ([.int x, .int z, .int y, .int u] : List Value).toArray s 0 0 (fun _ => False) := ⟨_, rfl⟩
  rw [← hQe]
  have hD := hD0
  have hP : va_P D vwCl [] s.heap := hP
  have hl := lv_entry ([.int x, .int z, .int y, .int u]) (n := 4) (Nat.le_of_ble_eq_true rfl)
  rw [lg_entry_eq]
  generalize (lg_sl ([.int x, .int z, .int y, .int u]) ++ List.replicate (4 - (lg_sl ([.int x, .int z, .int y, .int u])).length) Slot.unset).toArray = ls at hl ⊢
  have hl : lv_has ls 4 [(0, .int x), (1, .int z), (2, .int y), (3, .int u)] := hl
  refine lv_iload_n hx hb dX10_moved_0 rfl (lv_at hl 1 rfl) ?_
  refine lv_if_eq (tgt := 8) hx hb dX10_moved_1 (by decide) (fun c1 => ?_) (fun c1 => ?_)
  · refine lv_iload_n hx hb dX10_moved_8 rfl (lv_at hl 0 rfl) ?_
    refine lv_iload_n hx hb dX10_moved_9 rfl (lv_at hl 2 rfl) ?_
    refine lv_iadd hx hb dX10_moved_10 ?_
    refine lv_iconst (v := 1) hx hb dX10_moved_11 (by decide) ?_
    refine lv_iload_n hx hb dX10_moved_12 rfl (lv_at hl 3 rfl) ?_
    have hPc := hP.sub (ws' := []) [] rfl
    have hDc := hD.sub (ws' := []) [] (by decide) rfl
    have hKc := hK.sub (tys' := []) [] rfl
    refine rd_i (va_runS (As := [.int (x + y), .int 1, .int u]) (rest := []) ⟨hx, hb, hml, hown, hts⟩ (kX10_within l D s.heap.size (x + y) 1 u ) (va_cwS 3 hts gX10_moved_X10_within rfl rfl rfl (by decide +kernel) ⟨Nat.le_of_ble_eq_true rfl, Nat.le_of_ble_eq_true rfl⟩) ⟨Pw_blind, fun U hU hW => Pw_at hKc hPc hDc hN hU hW⟩ rfl rfl hl.1 rfl (lv_room (Nat.le_of_ble_eq_true rfl)) dX10_moved_13 ⟨Nat.le_of_ble_eq_true rfl, Nat.le_of_ble_eq_true rfl⟩) ?_
    refine lv_if_eq (tgt := 25) hx hb dX10_moved_16 (by decide) (fun c16 => ?_) (fun c16 => ?_)
    · refine lv_iconst (v := 0) hx hb dX10_moved_25 (by decide) ?_
      have hF : (fX10_moved x z y u) = 0 := by exact ((if_pos c1).trans (if_pos c16))
      subst hQe
      exact W.iret (v := 0) hx hb hr (fun t ht hW => ⟨_, rfl, hF.symm, ht⟩) (fun q h => absurd h List.not_mem_nil) dX10_moved_26
    · refine lv_iload_n hx hb dX10_moved_19 rfl (lv_at hl 0 rfl) ?_
      refine lv_iload_n hx hb dX10_moved_20 rfl (lv_at hl 2 rfl) ?_
      refine lv_iadd hx hb dX10_moved_21 ?_
      refine lv_goto (tgt := 26) hx hb dX10_moved_22 (by decide) ?_
      have hF : (fX10_moved x z y u) = (x + y) := by exact ((if_pos c1).trans (if_neg c16))
      subst hQe
      exact W.iret (v := (x + y)) hx hb hr (fun t ht hW => ⟨_, rfl, hF.symm, ht⟩) (fun q h => absurd h List.not_mem_nil) dX10_moved_26
  · refine lv_iload_n hx hb dX10_moved_4 rfl (lv_at hl 0 rfl) ?_
    refine lv_goto (tgt := 26) hx hb dX10_moved_5 (by decide) ?_
    have hF : (fX10_moved x z y u) = x := by exact (if_neg c1)
    subst hQe
    exact W.iret (v := x) hx hb hr (fun t ht hW => ⟨_, rfl, hF.symm, ht⟩) (fun q h => absurd h List.not_mem_nil) dX10_moved_26

def fX10_lines (z : Int32) : Int32 := if z = 0 then 1048576 else 16384
abbrev rmX10_lines : Room := { frames := 0, cells := 0, slots := 0, locals := 0 }
abbrev qX10_lines (D : va_G) (sz : Nat) (z : Int32) : Array Value → State → Outcome → State → Prop := vp_Si (fun r_9 => r_9 = (fX10_lines z))
set_option maxHeartbeats 4000000 in
set_option maxRecDepth 100000 in
theorem kX10_lines (l : Launch) (D : va_G) (sz : Nat) (z : Int32) : Met l yX10_lines wsX10_lines rmX10_lines (va_Pc [.int z] (Pw D [] [] sz)) (qX10_lines D sz z) 0 0 (fun _ => False) := by
  refine Met.ofW (cc := cX10_lines) (maxL := 1) (ret := (some .int)) (by decide) rfl ?_
  intro p e s m args below meth c s₁ B hml hv
  obtain ⟨rfl, hsz, hP, hK, hD0, hN⟩ := hv
  have hx := B.exec
  have hb := B.bytes
  have hr := B.returns
  have hts := atoms_spec (ws := wsX10_lines) B.pre
  have hown : s.vm.findClass RX10 = some m.cls := findClass_of_methodNamed B.named
  have hlocks := B.notSynchronized
  subst hsz
  obtain ⟨Q, hQe⟩ : ∃ Q, Q = MQ below (qX10_lines D s.heap.size z) ([.int z] : List Value).toArray s 0 0 (fun _ => False) := ⟨_, rfl⟩
  rw [← hQe]
  have hD := hD0
  have hP : va_P D vwCl [] s.heap := hP
  have hl := lv_entry ([.int z]) (n := 1) (Nat.le_of_ble_eq_true rfl)
  rw [lg_entry_eq]
  generalize (lg_sl ([.int z]) ++ List.replicate (1 - (lg_sl ([.int z])).length) Slot.unset).toArray = ls at hl ⊢
  have hl : lv_has ls 1 [(0, .int z)] := hl
  have k_39 := hts (.constant RX10 39 (1048576)) (by decide +kernel)
  refine lv_iload_n hx hb dX10_lines_0 rfl (lv_at hl 0 rfl) ?_
  refine lv_if_eq (tgt := 10) hx hb dX10_lines_1 (by decide) (fun c1 => ?_) (fun c1 => ?_)
  · refine lv_ldc (v := 1048576) hx hb hown k_39 dX10_lines_10 ?_
    have hF : (fX10_lines z) = 1048576 := by exact (if_pos c1)
    subst hQe
    exact W.iret (v := 1048576) hx hb hr (fun t ht hW => ⟨_, rfl, hF.symm, ht⟩) (fun q h => absurd h List.not_mem_nil) dX10_lines_12
  · refine lv_sipush (v := 16384) hx hb dX10_lines_4 (by decide) ?_
    refine lv_goto (tgt := 12) hx hb dX10_lines_7 (by decide) ?_
    have hF : (fX10_lines z) = 16384 := by exact (if_neg c1)
    subst hQe
    exact W.iret (v := 16384) hx hb hr (fun t ht hW => ⟨_, rfl, hF.symm, ht⟩) (fun q h => absurd h List.not_mem_nil) dX10_lines_12

def fX10_shifted (x : Int32) (z : Int32) (y : Int32) (u : Int32) : Int32 := if y ≤ x then (if 0 ≤ u then (if (x + u) ≤ (fX10_lines z) then (x + u) else 0) else (if (y - u) ≤ x then (if (x + u) ≤ (fX10_lines z) then (x + u) else 0) else 0)) else x
abbrev rmX10_shifted : Room := { frames := 1, cells := 0, slots := 0, locals := 20 }
abbrev qX10_shifted (D : va_G) (sz : Nat) (x : Int32) (z : Int32) (y : Int32) (u : Int32) : Array Value → State → Outcome → State → Prop := vp_Si (fun r_9 => r_9 = (fX10_shifted x z y u))
set_option maxHeartbeats 4000000 in
set_option maxRecDepth 100000 in
theorem kX10_shifted (l : Launch) (D : va_G) (sz : Nat) (x : Int32) (z : Int32) (y : Int32) (u : Int32) : Met l yX10_shifted wsX10_shifted rmX10_shifted (va_Pc [.int x, .int z, .int y, .int u] (Pw D [] [] sz)) (qX10_shifted D sz x z y u) 0 0 (fun _ => False) := by
  refine Met.ofW (cc := cX10_shifted) (maxL := 4) (ret := (some .int)) (by decide) rfl ?_
  intro p e s m args below meth c s₁ B hml hv
  obtain ⟨rfl, hsz, hP, hK, hD0, hN⟩ := hv
  have hx := B.exec
  have hb := B.bytes
  have hr := B.returns
  have hts := atoms_spec (ws := wsX10_shifted) B.pre
  have hown : s.vm.findClass RX10 = some m.cls := findClass_of_methodNamed B.named
  have hlocks := B.notSynchronized
  subst hsz
  obtain ⟨Q, hQe⟩ : ∃ Q, Q = MQ below (qX10_shifted D s.heap.size x z y u) ([.int x, .int z, .int y, .int u] : List Value).toArray s 0 0 (fun _ => False) := ⟨_, rfl⟩
  rw [← hQe]
  have hD := hD0
  have hP : va_P D vwCl [] s.heap := hP
  have hl := lv_entry ([.int x, .int z, .int y, .int u]) (n := 4) (Nat.le_of_ble_eq_true rfl)
  rw [lg_entry_eq]
  generalize (lg_sl ([.int x, .int z, .int y, .int u]) ++ List.replicate (4 - (lg_sl ([.int x, .int z, .int y, .int u])).length) Slot.unset).toArray = ls at hl ⊢
  have hl : lv_has ls 4 [(0, .int x), (1, .int z), (2, .int y), (3, .int u)] := hl
  refine lv_iload_n hx hb dX10_shifted_0 rfl (lv_at hl 0 rfl) ?_
  refine lv_iload_n hx hb dX10_shifted_1 rfl (lv_at hl 2 rfl) ?_
  refine lv_icmp_ge (tgt := 7) hx hb dX10_shifted_2 (by decide) (fun c2 => ?_) (fun c2 => ?_)
  · refine lv_iload_n hx hb dX10_shifted_7 rfl (lv_at hl 3 rfl) ?_
    refine lv_if_ge (tgt := 20) hx hb dX10_shifted_8 (by decide) (fun c8 => ?_) (fun c8 => ?_)
    · refine lv_iload_n hx hb dX10_shifted_20 rfl (lv_at hl 0 rfl) ?_
      refine lv_iload_n hx hb dX10_shifted_21 rfl (lv_at hl 3 rfl) ?_
      refine lv_iadd hx hb dX10_shifted_22 ?_
      refine lv_iload_n hx hb dX10_shifted_23 rfl (lv_at hl 1 rfl) ?_
      have hPc := hP.sub (ws' := []) [] rfl
      have hDc := hD.sub (ws' := []) [] (by decide) rfl
      have hKc := hK.sub (tys' := []) [] rfl
      refine rd_i (va_runS (As := [.int z]) (rest := [.int (x + u)]) ⟨hx, hb, hml, hown, hts⟩ (kX10_lines l D s.heap.size z ) (va_cwS 1 hts gX10_shifted_X10_lines rfl rfl rfl (by decide +kernel) ⟨Nat.le_of_ble_eq_true rfl, Nat.le_of_ble_eq_true rfl⟩) ⟨Pw_blind, fun U hU hW => Pw_at hKc hPc hDc hN hU hW⟩ rfl rfl hl.1 rfl (lv_room (Nat.le_of_ble_eq_true rfl)) dX10_shifted_24 ⟨Nat.le_of_ble_eq_true rfl, Nat.le_of_ble_eq_true rfl⟩) ?_
      refine lv_icmp_le (tgt := 34) hx hb dX10_shifted_27 (by decide) (fun c27 => ?_) (fun c27 => ?_)
      · refine lv_iload_n hx hb dX10_shifted_34 rfl (lv_at hl 0 rfl) ?_
        refine lv_iload_n hx hb dX10_shifted_35 rfl (lv_at hl 3 rfl) ?_
        refine lv_iadd hx hb dX10_shifted_36 ?_
        have hF : (fX10_shifted x z y u) = (x + u) := by exact ((if_pos c2).trans ((if_pos c8).trans (if_pos c27)))
        subst hQe
        exact W.iret (v := (x + u)) hx hb hr (fun t ht hW => ⟨_, rfl, hF.symm, ht⟩) (fun q h => absurd h List.not_mem_nil) dX10_shifted_37
      · refine lv_iconst (v := 0) hx hb dX10_shifted_30 (by decide) ?_
        refine lv_goto (tgt := 37) hx hb dX10_shifted_31 (by decide) ?_
        have hF : (fX10_shifted x z y u) = 0 := by exact ((if_pos c2).trans ((if_pos c8).trans (if_neg c27)))
        subst hQe
        exact W.iret (v := 0) hx hb hr (fun t ht hW => ⟨_, rfl, hF.symm, ht⟩) (fun q h => absurd h List.not_mem_nil) dX10_shifted_37
    · refine lv_iload_n hx hb dX10_shifted_11 rfl (lv_at hl 0 rfl) ?_
      refine lv_iload_n hx hb dX10_shifted_12 rfl (lv_at hl 2 rfl) ?_
      refine lv_iload_n hx hb dX10_shifted_13 rfl (lv_at hl 3 rfl) ?_
      refine lv_isub hx hb dX10_shifted_14 ?_
      refine lv_icmp_ge (tgt := 20) hx hb dX10_shifted_15 (by decide) (fun c15 => ?_) (fun c15 => ?_)
      · refine lv_iload_n hx hb dX10_shifted_20 rfl (lv_at hl 0 rfl) ?_
        refine lv_iload_n hx hb dX10_shifted_21 rfl (lv_at hl 3 rfl) ?_
        refine lv_iadd hx hb dX10_shifted_22 ?_
        refine lv_iload_n hx hb dX10_shifted_23 rfl (lv_at hl 1 rfl) ?_
        have hPc := hP.sub (ws' := []) [] rfl
        have hDc := hD.sub (ws' := []) [] (by decide) rfl
        have hKc := hK.sub (tys' := []) [] rfl
        refine rd_i (va_runS (As := [.int z]) (rest := [.int (x + u)]) ⟨hx, hb, hml, hown, hts⟩ (kX10_lines l D s.heap.size z ) (va_cwS 1 hts gX10_shifted_X10_lines rfl rfl rfl (by decide +kernel) ⟨Nat.le_of_ble_eq_true rfl, Nat.le_of_ble_eq_true rfl⟩) ⟨Pw_blind, fun U hU hW => Pw_at hKc hPc hDc hN hU hW⟩ rfl rfl hl.1 rfl (lv_room (Nat.le_of_ble_eq_true rfl)) dX10_shifted_24 ⟨Nat.le_of_ble_eq_true rfl, Nat.le_of_ble_eq_true rfl⟩) ?_
        refine lv_icmp_le (tgt := 34) hx hb dX10_shifted_27 (by decide) (fun c27 => ?_) (fun c27 => ?_)
        · refine lv_iload_n hx hb dX10_shifted_34 rfl (lv_at hl 0 rfl) ?_
          refine lv_iload_n hx hb dX10_shifted_35 rfl (lv_at hl 3 rfl) ?_
          refine lv_iadd hx hb dX10_shifted_36 ?_
          have hF : (fX10_shifted x z y u) = (x + u) := by exact ((if_pos c2).trans ((if_neg c8).trans ((if_pos c15).trans (if_pos c27))))
          subst hQe
          exact W.iret (v := (x + u)) hx hb hr (fun t ht hW => ⟨_, rfl, hF.symm, ht⟩) (fun q h => absurd h List.not_mem_nil) dX10_shifted_37
        · refine lv_iconst (v := 0) hx hb dX10_shifted_30 (by decide) ?_
          refine lv_goto (tgt := 37) hx hb dX10_shifted_31 (by decide) ?_
          have hF : (fX10_shifted x z y u) = 0 := by exact ((if_pos c2).trans ((if_neg c8).trans ((if_pos c15).trans (if_neg c27))))
          subst hQe
          exact W.iret (v := 0) hx hb hr (fun t ht hW => ⟨_, rfl, hF.symm, ht⟩) (fun q h => absurd h List.not_mem_nil) dX10_shifted_37
      · refine lv_iconst (v := 0) hx hb dX10_shifted_18 (by decide) ?_
        have hF : (fX10_shifted x z y u) = 0 := by exact ((if_pos c2).trans ((if_neg c8).trans (if_neg c15)))
        subst hQe
        exact W.iret (v := 0) hx hb hr (fun t ht hW => ⟨_, rfl, hF.symm, ht⟩) (fun q h => absurd h List.not_mem_nil) dX10_shifted_19
  · refine lv_iload_n hx hb dX10_shifted_5 rfl (lv_at hl 0 rfl) ?_
    have hF : (fX10_shifted x z y u) = x := by exact (if_neg c2)
    subst hQe
    exact W.iret (v := x) hx hb hr (fun t ht hW => ⟨_, rfl, hF.symm, ht⟩) (fun q h => absurd h List.not_mem_nil) dX10_shifted_6

def fX10_firstLeft (x : Int32) (y : Int32) (z : Int32) (u : Int32) (v : Int32) : Int32 := if 0 < (fX10_shifted x z u v) then (fX10_shifted x z u v) else (if v ≤ 0 then (if y < (u - v) then 0 else u) else (fX10_shifted x z u v))
abbrev rmX10_firstLeft : Room := { frames := 2, cells := 0, slots := 0, locals := 43 }
abbrev qX10_firstLeft (D : va_G) (sz : Nat) (x : Int32) (y : Int32) (z : Int32) (u : Int32) (v : Int32) : Array Value → State → Outcome → State → Prop := vp_Si (fun r_9 => r_9 = (fX10_firstLeft x y z u v))
set_option maxHeartbeats 4000000 in
set_option maxRecDepth 100000 in
theorem kX10_firstLeft (l : Launch) (D : va_G) (sz : Nat) (x : Int32) (y : Int32) (z : Int32) (u : Int32) (v : Int32) : Met l yX10_firstLeft wsX10_firstLeft rmX10_firstLeft (va_Pc [.int x, .int y, .int z, .int u, .int v] (Pw D [] [] sz)) (qX10_firstLeft D sz x y z u v) 0 0 (fun _ => False) := by
  refine Met.ofW (cc := cX10_firstLeft) (maxL := 6) (ret := (some .int)) (by decide) rfl ?_
  intro p e s m args below meth c s₁ B hml hv
  obtain ⟨rfl, hsz, hP, hK, hD0, hN⟩ := hv
  have hx := B.exec
  have hb := B.bytes
  have hr := B.returns
  have hts := atoms_spec (ws := wsX10_firstLeft) B.pre
  have hown : s.vm.findClass RX10 = some m.cls := findClass_of_methodNamed B.named
  have hlocks := B.notSynchronized
  subst hsz
  obtain ⟨Q, hQe⟩ : ∃ Q, Q = MQ below (qX10_firstLeft D s.heap.size x y z u v) ([.int x, .int y, .int z, .int u, .int v] : List Value).toArray s 0 0 (fun _ => False) := ⟨_, rfl⟩
  rw [← hQe]
  have hD := hD0
  have hP : va_P D vwCl [] s.heap := hP
  have hl := lv_entry ([.int x, .int y, .int z, .int u, .int v]) (n := 6) (Nat.le_of_ble_eq_true rfl)
  rw [lg_entry_eq]
  generalize (lg_sl ([.int x, .int y, .int z, .int u, .int v]) ++ List.replicate (6 - (lg_sl ([.int x, .int y, .int z, .int u, .int v])).length) Slot.unset).toArray = ls at hl ⊢
  have hl : lv_has ls 6 [(0, .int x), (1, .int y), (2, .int z), (3, .int u), (4, .int v)] := hl
  refine lv_iload_n hx hb dX10_firstLeft_0 rfl (lv_at hl 0 rfl) ?_
  refine lv_iload_n hx hb dX10_firstLeft_1 rfl (lv_at hl 2 rfl) ?_
  refine lv_iload_n hx hb dX10_firstLeft_2 rfl (lv_at hl 3 rfl) ?_
  refine lv_iload hx hb dX10_firstLeft_3 (lv_at hl 4 rfl) ?_
  have hPc := hP.sub (ws' := []) [] rfl
  have hDc := hD.sub (ws' := []) [] (by decide) rfl
  have hKc := hK.sub (tys' := []) [] rfl
  refine rd_i (va_runS (As := [.int x, .int z, .int u, .int v]) (rest := []) ⟨hx, hb, hml, hown, hts⟩ (kX10_shifted l D s.heap.size x z u v ) (va_cwS 4 hts gX10_firstLeft_X10_shifted rfl rfl rfl (by decide +kernel) ⟨Nat.le_of_ble_eq_true rfl, Nat.le_of_ble_eq_true rfl⟩) ⟨Pw_blind, fun U hU hW => Pw_at hKc hPc hDc hN hU hW⟩ rfl rfl hl.1 rfl (lv_room (Nat.le_of_ble_eq_true rfl)) dX10_firstLeft_5 ⟨Nat.le_of_ble_eq_true rfl, Nat.le_of_ble_eq_true rfl⟩) ?_
  refine lv_istore (lv' := [(5, .int (fX10_shifted x z u v)), (0, .int x), (1, .int y), (2, .int z), (3, .int u), (4, .int v)]) hx hb dX10_firstLeft_8 hl (by decide) rfl (fun ls hl => ?_)
  refine lv_iload hx hb dX10_firstLeft_10 (lv_at hl 0 rfl) ?_
  refine lv_if_gt (tgt := 20) hx hb dX10_firstLeft_12 (by decide) (fun c12 => ?_) (fun c12 => ?_)
  · refine lv_iload hx hb dX10_firstLeft_20 (lv_at hl 0 rfl) ?_
    have hF : (fX10_firstLeft x y z u v) = (fX10_shifted x z u v) := by exact (if_pos c12)
    subst hQe
    exact W.iret (v := (fX10_shifted x z u v)) hx hb hr (fun t ht hW => ⟨_, rfl, hF.symm, ht⟩) (fun q h => absurd h List.not_mem_nil) dX10_firstLeft_22
  · refine lv_iload hx hb dX10_firstLeft_15 (lv_at hl 5 rfl) ?_
    refine lv_if_le (tgt := 23) hx hb dX10_firstLeft_17 (by decide) (fun c17 => ?_) (fun c17 => ?_)
    · refine lv_iload_n hx hb dX10_firstLeft_23 rfl (lv_at hl 4 rfl) ?_
      refine lv_iload hx hb dX10_firstLeft_24 (lv_at hl 5 rfl) ?_
      refine lv_isub hx hb dX10_firstLeft_26 ?_
      refine lv_iload_n hx hb dX10_firstLeft_27 rfl (lv_at hl 2 rfl) ?_
      refine lv_icmp_gt (tgt := 35) hx hb dX10_firstLeft_28 (by decide) (fun c28 => ?_) (fun c28 => ?_)
      · refine lv_iconst (v := 0) hx hb dX10_firstLeft_35 (by decide) ?_
        have hF : (fX10_firstLeft x y z u v) = 0 := by exact ((if_neg c12).trans ((if_pos c17).trans (if_pos c28)))
        subst hQe
        exact W.iret (v := 0) hx hb hr (fun t ht hW => ⟨_, rfl, hF.symm, ht⟩) (fun q h => absurd h List.not_mem_nil) dX10_firstLeft_36
      · refine lv_iload_n hx hb dX10_firstLeft_31 rfl (lv_at hl 4 rfl) ?_
        refine lv_goto (tgt := 36) hx hb dX10_firstLeft_32 (by decide) ?_
        have hF : (fX10_firstLeft x y z u v) = u := by exact ((if_neg c12).trans ((if_pos c17).trans (if_neg c28)))
        subst hQe
        exact W.iret (v := u) hx hb hr (fun t ht hW => ⟨_, rfl, hF.symm, ht⟩) (fun q h => absurd h List.not_mem_nil) dX10_firstLeft_36
    · refine lv_iload hx hb dX10_firstLeft_20 (lv_at hl 0 rfl) ?_
      have hF : (fX10_firstLeft x y z u v) = (fX10_shifted x z u v) := by exact ((if_neg c12).trans (if_neg c17))
      subst hQe
      exact W.iret (v := (fX10_shifted x z u v)) hx hb hr (fun t ht hW => ⟨_, rfl, hF.symm, ht⟩) (fun q h => absurd h List.not_mem_nil) dX10_firstLeft_22

def fX10_lastLeft (x : Int32) (y : Int32) (z : Int32) (u : Int32) (v : Int32) : Int32 := if (fX10_shifted y z u v) ≤ 0 then (if v ≤ 0 then (if u ≤ x then 0 else (u - 1)) else (fX10_lines z)) else (fX10_shifted y z u v)
abbrev rmX10_lastLeft : Room := { frames := 2, cells := 0, slots := 0, locals := 43 }
abbrev qX10_lastLeft (D : va_G) (sz : Nat) (x : Int32) (y : Int32) (z : Int32) (u : Int32) (v : Int32) : Array Value → State → Outcome → State → Prop := vp_Si (fun r_9 => r_9 = (fX10_lastLeft x y z u v))
set_option maxHeartbeats 4000000 in
set_option maxRecDepth 100000 in
theorem kX10_lastLeft (l : Launch) (D : va_G) (sz : Nat) (x : Int32) (y : Int32) (z : Int32) (u : Int32) (v : Int32) : Met l yX10_lastLeft wsX10_lastLeft rmX10_lastLeft (va_Pc [.int x, .int y, .int z, .int u, .int v] (Pw D [] [] sz)) (qX10_lastLeft D sz x y z u v) 0 0 (fun _ => False) := by
  refine Met.ofW (cc := cX10_lastLeft) (maxL := 6) (ret := (some .int)) (by decide) rfl ?_
  intro p e s m args below meth c s₁ B hml hv
  obtain ⟨rfl, hsz, hP, hK, hD0, hN⟩ := hv
  have hx := B.exec
  have hb := B.bytes
  have hr := B.returns
  have hts := atoms_spec (ws := wsX10_lastLeft) B.pre
  have hown : s.vm.findClass RX10 = some m.cls := findClass_of_methodNamed B.named
  have hlocks := B.notSynchronized
  subst hsz
  obtain ⟨Q, hQe⟩ : ∃ Q, Q = MQ below (qX10_lastLeft D s.heap.size x y z u v) ([.int x, .int y, .int z, .int u, .int v] : List Value).toArray s 0 0 (fun _ => False) := ⟨_, rfl⟩
  rw [← hQe]
  have hD := hD0
  have hP : va_P D vwCl [] s.heap := hP
  have hl := lv_entry ([.int x, .int y, .int z, .int u, .int v]) (n := 6) (Nat.le_of_ble_eq_true rfl)
  rw [lg_entry_eq]
  generalize (lg_sl ([.int x, .int y, .int z, .int u, .int v]) ++ List.replicate (6 - (lg_sl ([.int x, .int y, .int z, .int u, .int v])).length) Slot.unset).toArray = ls at hl ⊢
  have hl : lv_has ls 6 [(0, .int x), (1, .int y), (2, .int z), (3, .int u), (4, .int v)] := hl
  refine lv_iload_n hx hb dX10_lastLeft_0 rfl (lv_at hl 1 rfl) ?_
  refine lv_iload_n hx hb dX10_lastLeft_1 rfl (lv_at hl 2 rfl) ?_
  refine lv_iload_n hx hb dX10_lastLeft_2 rfl (lv_at hl 3 rfl) ?_
  refine lv_iload hx hb dX10_lastLeft_3 (lv_at hl 4 rfl) ?_
  have hPc := hP.sub (ws' := []) [] rfl
  have hDc := hD.sub (ws' := []) [] (by decide) rfl
  have hKc := hK.sub (tys' := []) [] rfl
  refine rd_i (va_runS (As := [.int y, .int z, .int u, .int v]) (rest := []) ⟨hx, hb, hml, hown, hts⟩ (kX10_shifted l D s.heap.size y z u v ) (va_cwS 4 hts gX10_lastLeft_X10_shifted rfl rfl rfl (by decide +kernel) ⟨Nat.le_of_ble_eq_true rfl, Nat.le_of_ble_eq_true rfl⟩) ⟨Pw_blind, fun U hU hW => Pw_at hKc hPc hDc hN hU hW⟩ rfl rfl hl.1 rfl (lv_room (Nat.le_of_ble_eq_true rfl)) dX10_lastLeft_5 ⟨Nat.le_of_ble_eq_true rfl, Nat.le_of_ble_eq_true rfl⟩) ?_
  refine lv_istore (lv' := [(5, .int (fX10_shifted y z u v)), (0, .int x), (1, .int y), (2, .int z), (3, .int u), (4, .int v)]) hx hb dX10_lastLeft_8 hl (by decide) rfl (fun ls hl => ?_)
  refine lv_iload hx hb dX10_lastLeft_10 (lv_at hl 0 rfl) ?_
  refine lv_if_le (tgt := 18) hx hb dX10_lastLeft_12 (by decide) (fun c12 => ?_) (fun c12 => ?_)
  · refine lv_iload hx hb dX10_lastLeft_18 (lv_at hl 5 rfl) ?_
    refine lv_if_le (tgt := 28) hx hb dX10_lastLeft_20 (by decide) (fun c20 => ?_) (fun c20 => ?_)
    · refine lv_iload_n hx hb dX10_lastLeft_28 rfl (lv_at hl 4 rfl) ?_
      refine lv_iload_n hx hb dX10_lastLeft_29 rfl (lv_at hl 1 rfl) ?_
      refine lv_icmp_le (tgt := 39) hx hb dX10_lastLeft_30 (by decide) (fun c30 => ?_) (fun c30 => ?_)
      · refine lv_iconst (v := 0) hx hb dX10_lastLeft_39 (by decide) ?_
        have hF : (fX10_lastLeft x y z u v) = 0 := by exact ((if_pos c12).trans ((if_pos c20).trans (if_pos c30)))
        subst hQe
        exact W.iret (v := 0) hx hb hr (fun t ht hW => ⟨_, rfl, hF.symm, ht⟩) (fun q h => absurd h List.not_mem_nil) dX10_lastLeft_40
      · refine lv_iload_n hx hb dX10_lastLeft_33 rfl (lv_at hl 4 rfl) ?_
        refine lv_iconst (v := 1) hx hb dX10_lastLeft_34 (by decide) ?_
        refine lv_isub hx hb dX10_lastLeft_35 ?_
        refine lv_goto (tgt := 40) hx hb dX10_lastLeft_36 (by decide) ?_
        have hF : (fX10_lastLeft x y z u v) = (u - 1) := by exact ((if_pos c12).trans ((if_pos c20).trans (if_neg c30)))
        subst hQe
        exact W.iret (v := (u - 1)) hx hb hr (fun t ht hW => ⟨_, rfl, hF.symm, ht⟩) (fun q h => absurd h List.not_mem_nil) dX10_lastLeft_40
    · refine lv_iload_n hx hb dX10_lastLeft_23 rfl (lv_at hl 3 rfl) ?_
      have hPc := hP.sub (ws' := []) [] rfl
      have hDc := hD.sub (ws' := []) [] (by decide) rfl
      have hKc := hK.sub (tys' := []) [] rfl
      refine rd_i (va_runS (As := [.int z]) (rest := []) ⟨hx, hb, hml, hown, hts⟩ (kX10_lines l D s.heap.size z ) (va_cwS 1 hts gX10_lastLeft_X10_lines rfl rfl rfl (by decide +kernel) ⟨Nat.le_of_ble_eq_true rfl, Nat.le_of_ble_eq_true rfl⟩) ⟨Pw_blind, fun U hU hW => Pw_at hKc hPc hDc hN hU hW⟩ rfl rfl hl.1 rfl (lv_room (Nat.le_of_ble_eq_true rfl)) dX10_lastLeft_24 ⟨Nat.le_of_ble_eq_true rfl, Nat.le_of_ble_eq_true rfl⟩) ?_
      have hF : (fX10_lastLeft x y z u v) = (fX10_lines z) := by exact ((if_pos c12).trans (if_neg c20))
      subst hQe
      exact W.iret (v := (fX10_lines z)) hx hb hr (fun t ht hW => ⟨_, rfl, hF.symm, ht⟩) (fun q h => absurd h List.not_mem_nil) dX10_lastLeft_27
  · refine lv_iload hx hb dX10_lastLeft_15 (lv_at hl 0 rfl) ?_
    have hF : (fX10_lastLeft x y z u v) = (fX10_shifted y z u v) := by exact (if_neg c12)
    subst hQe
    exact W.iret (v := (fX10_shifted y z u v)) hx hb hr (fun t ht hW => ⟨_, rfl, hF.symm, ht⟩) (fun q h => absurd h List.not_mem_nil) dX10_lastLeft_17

def fX10_isLine (x : Int32) (y : Int32) (z : Int32) (u : Int32) (v : Int32) : Int32 := if (fX10_within x 0 7) = 0 then 0 else (if (fX10_within y 0 7) = 0 then 0 else (if (fX10_within u 1 (fX10_lines z)) = 0 then 0 else (if (fX10_within v 1 16384) = 0 then 0 else 1)))
theorem zb_X10_isLine (x : Int32) (y : Int32) (z : Int32) (u : Int32) (v : Int32) : isB (fX10_isLine x y z u v) := by
  unfold fX10_isLine
  (try dsimp only)
  repeat' split
  all_goals first | exact Or.inl rfl | exact Or.inr rfl
abbrev rmX10_isLine : Room := { frames := 1, cells := 0, slots := 0, locals := 22 }
abbrev qX10_isLine (D : va_G) (sz : Nat) (x : Int32) (y : Int32) (z : Int32) (u : Int32) (v : Int32) : Array Value → State → Outcome → State → Prop := vp_Si (fun r_9 => r_9 = (fX10_isLine x y z u v))
set_option maxHeartbeats 4000000 in
set_option maxRecDepth 100000 in
theorem kX10_isLine (l : Launch) (D : va_G) (sz : Nat) (x : Int32) (y : Int32) (z : Int32) (u : Int32) (v : Int32) : Met l yX10_isLine wsX10_isLine rmX10_isLine (va_Pc [.int x, .int y, .int z, .int u, .int v] (Pw D [] [] sz)) (qX10_isLine D sz x y z u v) 0 0 (fun _ => False) := by
  refine Met.ofW (cc := cX10_isLine) (maxL := 5) (ret := (some .boolean)) (by decide) rfl ?_
  intro p e s m args below meth c s₁ B hml hv
  obtain ⟨rfl, hsz, hP, hK, hD0, hN⟩ := hv
  have hx := B.exec
  have hb := B.bytes
  have hr := B.returns
  have hts := atoms_spec (ws := wsX10_isLine) B.pre
  have hown : s.vm.findClass RX10 = some m.cls := findClass_of_methodNamed B.named
  have hlocks := B.notSynchronized
  subst hsz
  obtain ⟨Q, hQe⟩ : ∃ Q, Q = MQ below (qX10_isLine D s.heap.size x y z u v) ([.int x, .int y, .int z, .int u, .int v] : List Value).toArray s 0 0 (fun _ => False) := ⟨_, rfl⟩
  rw [← hQe]
  have hD := hD0
  have hP : va_P D vwCl [] s.heap := hP
  have hl := lv_entry ([.int x, .int y, .int z, .int u, .int v]) (n := 5) (Nat.le_of_ble_eq_true rfl)
  rw [lg_entry_eq]
  generalize (lg_sl ([.int x, .int y, .int z, .int u, .int v]) ++ List.replicate (5 - (lg_sl ([.int x, .int y, .int z, .int u, .int v])).length) Slot.unset).toArray = ls at hl ⊢
  have hl : lv_has ls 5 [(0, .int x), (1, .int y), (2, .int z), (3, .int u), (4, .int v)] := hl
  refine lv_iload_n hx hb dX10_isLine_0 rfl (lv_at hl 0 rfl) ?_
  refine lv_iconst (v := 0) hx hb dX10_isLine_1 (by decide) ?_
  refine lv_bipush (v := 7) hx hb dX10_isLine_2 (by decide) ?_
  have hPc := hP.sub (ws' := []) [] rfl
  have hDc := hD.sub (ws' := []) [] (by decide) rfl
  have hKc := hK.sub (tys' := []) [] rfl
  refine rd_i (va_runS (As := [.int x, .int 0, .int 7]) (rest := []) ⟨hx, hb, hml, hown, hts⟩ (kX10_within l D s.heap.size x 0 7 ) (va_cwS 3 hts gX10_isLine_X10_within rfl rfl rfl (by decide +kernel) ⟨Nat.le_of_ble_eq_true rfl, Nat.le_of_ble_eq_true rfl⟩) ⟨Pw_blind, fun U hU hW => Pw_at hKc hPc hDc hN hU hW⟩ rfl rfl hl.1 rfl (lv_room (Nat.le_of_ble_eq_true rfl)) dX10_isLine_4 ⟨Nat.le_of_ble_eq_true rfl, Nat.le_of_ble_eq_true rfl⟩) ?_
  refine lv_if_eq (tgt := 48) hx hb dX10_isLine_7 (by decide) (fun c7 => ?_) (fun c7 => ?_)
  · refine lv_iconst (v := 0) hx hb dX10_isLine_48 (by decide) ?_
    have hF : (fX10_isLine x y z u v) = 0 := by exact (if_pos c7)
    subst hQe
    exact W.zret (v := 0) hx hb hr rfl (fun t ht hW => ⟨_, rfl, hF.symm, ht⟩) (fun q h => absurd h List.not_mem_nil) dX10_isLine_49
  · refine lv_iload_n hx hb dX10_isLine_10 rfl (lv_at hl 1 rfl) ?_
    refine lv_iconst (v := 0) hx hb dX10_isLine_11 (by decide) ?_
    refine lv_bipush (v := 7) hx hb dX10_isLine_12 (by decide) ?_
    have hPc := hP.sub (ws' := []) [] rfl
    have hDc := hD.sub (ws' := []) [] (by decide) rfl
    have hKc := hK.sub (tys' := []) [] rfl
    refine rd_i (va_runS (As := [.int y, .int 0, .int 7]) (rest := []) ⟨hx, hb, hml, hown, hts⟩ (kX10_within l D s.heap.size y 0 7 ) (va_cwS 3 hts gX10_isLine_X10_within rfl rfl rfl (by decide +kernel) ⟨Nat.le_of_ble_eq_true rfl, Nat.le_of_ble_eq_true rfl⟩) ⟨Pw_blind, fun U hU hW => Pw_at hKc hPc hDc hN hU hW⟩ rfl rfl hl.1 rfl (lv_room (Nat.le_of_ble_eq_true rfl)) dX10_isLine_14 ⟨Nat.le_of_ble_eq_true rfl, Nat.le_of_ble_eq_true rfl⟩) ?_
    refine lv_if_eq (tgt := 48) hx hb dX10_isLine_17 (by decide) (fun c17 => ?_) (fun c17 => ?_)
    · refine lv_iconst (v := 0) hx hb dX10_isLine_48 (by decide) ?_
      have hF : (fX10_isLine x y z u v) = 0 := by exact ((if_neg c7).trans (if_pos c17))
      subst hQe
      exact W.zret (v := 0) hx hb hr rfl (fun t ht hW => ⟨_, rfl, hF.symm, ht⟩) (fun q h => absurd h List.not_mem_nil) dX10_isLine_49
    · refine lv_iload_n hx hb dX10_isLine_20 rfl (lv_at hl 3 rfl) ?_
      refine lv_iconst (v := 1) hx hb dX10_isLine_21 (by decide) ?_
      refine lv_iload_n hx hb dX10_isLine_22 rfl (lv_at hl 2 rfl) ?_
      have hPc := hP.sub (ws' := []) [] rfl
      have hDc := hD.sub (ws' := []) [] (by decide) rfl
      have hKc := hK.sub (tys' := []) [] rfl
      refine rd_i (va_runS (As := [.int z]) (rest := [.int 1, .int u]) ⟨hx, hb, hml, hown, hts⟩ (kX10_lines l D s.heap.size z ) (va_cwS 1 hts gX10_isLine_X10_lines rfl rfl rfl (by decide +kernel) ⟨Nat.le_of_ble_eq_true rfl, Nat.le_of_ble_eq_true rfl⟩) ⟨Pw_blind, fun U hU hW => Pw_at hKc hPc hDc hN hU hW⟩ rfl rfl hl.1 rfl (lv_room (Nat.le_of_ble_eq_true rfl)) dX10_isLine_23 ⟨Nat.le_of_ble_eq_true rfl, Nat.le_of_ble_eq_true rfl⟩) ?_
      have hPc := hP.sub (ws' := []) [] rfl
      have hDc := hD.sub (ws' := []) [] (by decide) rfl
      have hKc := hK.sub (tys' := []) [] rfl
      refine rd_i (va_runS (As := [.int u, .int 1, .int (fX10_lines z)]) (rest := []) ⟨hx, hb, hml, hown, hts⟩ (kX10_within l D s.heap.size u 1 (fX10_lines z) ) (va_cwS 3 hts gX10_isLine_X10_within rfl rfl rfl (by decide +kernel) ⟨Nat.le_of_ble_eq_true rfl, Nat.le_of_ble_eq_true rfl⟩) ⟨Pw_blind, fun U hU hW => Pw_at hKc hPc hDc hN hU hW⟩ rfl rfl hl.1 rfl (lv_room (Nat.le_of_ble_eq_true rfl)) dX10_isLine_26 ⟨Nat.le_of_ble_eq_true rfl, Nat.le_of_ble_eq_true rfl⟩) ?_
      refine lv_if_eq (tgt := 48) hx hb dX10_isLine_29 (by decide) (fun c29 => ?_) (fun c29 => ?_)
      · refine lv_iconst (v := 0) hx hb dX10_isLine_48 (by decide) ?_
        have hF : (fX10_isLine x y z u v) = 0 := by exact ((if_neg c7).trans ((if_neg c17).trans (if_pos c29)))
        subst hQe
        exact W.zret (v := 0) hx hb hr rfl (fun t ht hW => ⟨_, rfl, hF.symm, ht⟩) (fun q h => absurd h List.not_mem_nil) dX10_isLine_49
      · refine lv_iload hx hb dX10_isLine_32 (lv_at hl 4 rfl) ?_
        refine lv_iconst (v := 1) hx hb dX10_isLine_34 (by decide) ?_
        refine lv_sipush (v := 16384) hx hb dX10_isLine_35 (by decide) ?_
        have hPc := hP.sub (ws' := []) [] rfl
        have hDc := hD.sub (ws' := []) [] (by decide) rfl
        have hKc := hK.sub (tys' := []) [] rfl
        refine rd_i (va_runS (As := [.int v, .int 1, .int 16384]) (rest := []) ⟨hx, hb, hml, hown, hts⟩ (kX10_within l D s.heap.size v 1 16384 ) (va_cwS 3 hts gX10_isLine_X10_within rfl rfl rfl (by decide +kernel) ⟨Nat.le_of_ble_eq_true rfl, Nat.le_of_ble_eq_true rfl⟩) ⟨Pw_blind, fun U hU hW => Pw_at hKc hPc hDc hN hU hW⟩ rfl rfl hl.1 rfl (lv_room (Nat.le_of_ble_eq_true rfl)) dX10_isLine_38 ⟨Nat.le_of_ble_eq_true rfl, Nat.le_of_ble_eq_true rfl⟩) ?_
        refine lv_if_eq (tgt := 48) hx hb dX10_isLine_41 (by decide) (fun c41 => ?_) (fun c41 => ?_)
        · refine lv_iconst (v := 0) hx hb dX10_isLine_48 (by decide) ?_
          have hF : (fX10_isLine x y z u v) = 0 := by exact ((if_neg c7).trans ((if_neg c17).trans ((if_neg c29).trans (if_pos c41))))
          subst hQe
          exact W.zret (v := 0) hx hb hr rfl (fun t ht hW => ⟨_, rfl, hF.symm, ht⟩) (fun q h => absurd h List.not_mem_nil) dX10_isLine_49
        · refine lv_iconst (v := 1) hx hb dX10_isLine_44 (by decide) ?_
          refine lv_goto (tgt := 49) hx hb dX10_isLine_45 (by decide) ?_
          have hF : (fX10_isLine x y z u v) = 1 := by exact ((if_neg c7).trans ((if_neg c17).trans ((if_neg c29).trans (if_neg c41))))
          subst hQe
          exact W.zret (v := 1) hx hb hr rfl (fun t ht hW => ⟨_, rfl, hF.symm, ht⟩) (fun q h => absurd h List.not_mem_nil) dX10_isLine_49

def fX10_word (n : Int32) (f : Nat → Int32) (k : Int32) : Int32 × Int32 := if k < 0 then (0, 0) else (if n ≤ k then (0, 0) else (((f k.toNatClampNeg), 0)))
abbrev rmX10_word : Room := { frames := 0, cells := 0, slots := 0, locals := 0 }
abbrev qX10_word (D : va_G) (sz : Nat) (h0 : Nat) (h1 : Nat) (h2 : Nat) (cA : ClassId) (cB : ClassId) (cd : Int32) (n : Int32) (md : Int32) (ch : Int32) (sh : Int32) (tp : Int32) (lf : Int32) (bt : Int32) (rt : Int32) (f : Nat → Int32) (g : Nat → Int32) (k : Int32) : Array Value → State → Outcome → State → Prop := va_Qi (fun r_9 w_9 => ∃ _u : Unit, True ∧ r_9 = (fX10_word n f k).1 ∧ w_9 = [(h0, .inr (8, [.int (fX10_word n f k).2, .int n, .ref h1, .int md, .ref h2, .int ch, .int sh, .int tp, .int lf, .int bt, .int rt])), (h1, .inl (cA, 1000, .inl f)), (h2, .inl (cB, 1000, .inl g))]) (Bq D (va_A [(h0, .inr (8, [.int cd, .int n, .ref h1, .int md, .ref h2, .int ch, .int sh, .int tp, .int lf, .int bt, .int rt])), (h1, .inl (cA, 1000, .inl f)), (h2, .inl (cB, 1000, .inl g))] sz)) (va_A [(h0, .inr (8, [.int cd, .int n, .ref h1, .int md, .ref h2, .int ch, .int sh, .int tp, .int lf, .int bt, .int rt])), (h1, .inl (cA, 1000, .inl f)), (h2, .inl (cB, 1000, .inl g))] sz)
set_option maxHeartbeats 4000000 in
set_option maxRecDepth 100000 in
theorem kX10_word (l : Launch) (D : va_G) (sz : Nat) (h0 : Nat) (h1 : Nat) (h2 : Nat) (cA : ClassId) (cB : ClassId) (cd : Int32) (n : Int32) (md : Int32) (ch : Int32) (sh : Int32) (tp : Int32) (lf : Int32) (bt : Int32) (rt : Int32) (f : Nat → Int32) (g : Nat → Int32) (k : Int32) (hn : vp_in n 1001) : Met l yX10_word wsX10_word rmX10_word (va_Pc [.ref h0, .int k] (Pw D [(cA, .int), (cB, .int)] [(h0, .inr (8, [.int cd, .int n, .ref h1, .int md, .ref h2, .int ch, .int sh, .int tp, .int lf, .int bt, .int rt])), (h1, .inl (cA, 1000, .inl f)), (h2, .inl (cB, 1000, .inl g))] sz)) (qX10_word D sz h0 h1 h2 cA cB cd n md ch sh tp lf bt rt f g k) 0 0 (va_A [(h0, .inr (8, [.int cd, .int n, .ref h1, .int md, .ref h2, .int ch, .int sh, .int tp, .int lf, .int bt, .int rt])), (h1, .inl (cA, 1000, .inl f)), (h2, .inl (cB, 1000, .inl g))] sz) := by
  refine Met.ofW (cc := cX10_word) (maxL := 2) (ret := (some .int)) (by decide) rfl ?_
  intro p e s m args below meth c s₁ B hml hv
  obtain ⟨rfl, hsz, hP, hK, hD0, hN⟩ := hv
  have hx := B.exec
  have hb := B.bytes
  have hr := B.returns
  have hts := atoms_spec (ws := wsX10_word) B.pre
  have hown : s.vm.findClass RX10 = some m.cls := findClass_of_methodNamed B.named
  have hlocks := B.notSynchronized
  subst hsz
  obtain ⟨Q, hQe⟩ : ∃ Q, Q = MQ below (qX10_word D s.heap.size h0 h1 h2 cA cB cd n md ch sh tp lf bt rt f g k) ([.ref h0, .int k] : List Value).toArray s 0 0 (va_A [(h0, .inr (8, [.int cd, .int n, .ref h1, .int md, .ref h2, .int ch, .int sh, .int tp, .int lf, .int bt, .int rt])), (h1, .inl (cA, 1000, .inl f)), (h2, .inl (cB, 1000, .inl g))] s.heap.size) := ⟨_, rfl⟩
  rw [← hQe]
  obtain ⟨A, hAe⟩ : ∃ A, A = va_A [(h0, .inr (8, [.int cd, .int n, .ref h1, .int md, .ref h2, .int ch, .int sh, .int tp, .int lf, .int bt, .int rt])), (h1, .inl (cA, 1000, .inl f)), (h2, .inl (cB, 1000, .inl g))] s.heap.size := ⟨_, rfl⟩
  have hD : va_D A [(h0, .inr (8, [.int cd, .int n, .ref h1, .int md, .ref h2, .int ch, .int sh, .int tp, .int lf, .int bt, .int rt])), (h1, .inl (cA, 1000, .inl f)), (h2, .inl (cB, 1000, .inl g))] := by rw [hAe]; exact hD0.self
  have hA : ∀ q : Nat, s.heap.size ≤ q → A q := by rw [hAe]; exact mo_A
  have hS : va_S A s.heap s.heap [] := va_S.rf
  obtain ⟨H, hHe⟩ : ∃ H, H = s.heap := ⟨_, rfl⟩
  obtain ⟨locs, hLe⟩ : ∃ L : List Loc, L = [] := ⟨_, rfl⟩
  have hP : va_P D vwCl [(h0, .inr (8, [.int cd, .int n, .ref h1, .int md, .ref h2, .int ch, .int sh, .int tp, .int lf, .int bt, .int rt])), (h1, .inl (cA, 1000, .inl f)), (h2, .inl (cB, 1000, .inl g))] H := by rw [hHe]; exact hP
  have hS : va_S A s.heap H locs := by rw [hHe, hLe]; exact hS
  have hl := lv_entry ([.ref h0, .int k]) (n := 2) (Nat.le_of_ble_eq_true rfl)
  rw [lg_entry_eq]
  generalize (lg_sl ([.ref h0, .int k]) ++ List.replicate (2 - (lg_sl ([.ref h0, .int k])).length) Slot.unset).toArray = ls at hl ⊢
  have hl : lv_has ls 2 [(0, .ref h0), (1, .int k)] := hl
  refine hStart hHe hLe ?_
  clear hHe hLe
  have w_X10 : ∀ w ∈ wsX100, w ∈ wsX10_word := by decide +kernel
  have f_29 := hts (.fieldLink RX10 29 "ReferenceMoverModel" "code" "I") (by decide +kernel)
  have f_32 := hts (.fieldLink RX10 32 "ReferenceMoverModel" "size" "I") (by decide +kernel)
  have f_7 := hts (.fieldLink RX10 7 "ReferenceMoverModel" "words" "[I") (by decide +kernel)
  refine lv_aload_n hx hb dX10_word_0 rfl (lv_at hl 0 rfl) ?_
  refine lv_iconst (v := 0) hx hb dX10_word_1 (by decide) ?_
  refine va_put (D := D) (ci := 8) (v := .int 0) (ty := .int) (C := RX10) (T := TX10) (N := 11) hx hb hts w_X10 tyX10 tyX10_ok nmX10 hown hK hP hD hS 0 rfl rfl 0 (by decide) f_29 (fun _ h9 => h9) rfl (by decide +kernel) rfl rfl (Nat.le_of_ble_eq_true rfl) dX10_word_2 (fun H locs hP hD hS => ?_)
  have hP : va_P D vwCl [(h0, .inr (8, [.int 0, .int n, .ref h1, .int md, .ref h2, .int ch, .int sh, .int tp, .int lf, .int bt, .int rt])), (h1, .inl (cA, 1000, .inl f)), (h2, .inl (cB, 1000, .inl g))] H := hP
  have hD : va_D A [(h0, .inr (8, [.int 0, .int n, .ref h1, .int md, .ref h2, .int ch, .int sh, .int tp, .int lf, .int bt, .int rt])), (h1, .inl (cA, 1000, .inl f)), (h2, .inl (cB, 1000, .inl g))] := hD
  refine lv_iload_n hx hb dX10_word_5 rfl (lv_at hl 1 rfl) ?_
  refine lv_if_lt (tgt := 26) hx hb dX10_word_6 (by decide) (fun c6 => ?_) (fun c6 => ?_)
  · refine lv_iconst (v := 0) hx hb dX10_word_26 (by decide) ?_
    have hF : (fX10_word n f k) = (0, 0) := by exact (if_pos c6)
    subst hAe
    subst hQe
    exact W.iret (v := 0) hx hb hr (fun t ht hW => ⟨⟨_, _, rfl, ⟨(), trivial, by rw [hF], by rw [hF]⟩, by rw [ht]; exact hP, hD⟩, hS.F ht⟩) hS.2.2 dX10_word_27
  · refine lv_iload_n hx hb dX10_word_9 rfl (lv_at hl 1 rfl) ?_
    refine lv_aload_n hx hb dX10_word_10 rfl (lv_at hl 0 rfl) ?_
    refine va_get (D := D) (ci := 8) (v := .int n) (C := RX10) (T := TX10) (N := 11) hx hb hts w_X10 hown hK hP 0 rfl rfl 1 (by decide) f_32 (fun _ h9 => h9) rfl dX10_word_11 ?_
    refine lv_icmp_ge (tgt := 26) hx hb dX10_word_14 (by decide) (fun c14 => ?_) (fun c14 => ?_)
    · refine lv_iconst (v := 0) hx hb dX10_word_26 (by decide) ?_
      have hF : (fX10_word n f k) = (0, 0) := by exact ((if_neg c6).trans (if_pos c14))
      subst hAe
      subst hQe
      exact W.iret (v := 0) hx hb hr (fun t ht hW => ⟨⟨_, _, rfl, ⟨(), trivial, by rw [hF], by rw [hF]⟩, by rw [ht]; exact hP, hD⟩, hS.F ht⟩) hS.2.2 dX10_word_27
    · refine lv_aload_n hx hb dX10_word_17 rfl (lv_at hl 0 rfl) ?_
      refine va_get (D := D) (ci := 8) (v := .ref h1) (C := RX10) (T := TX10) (N := 11) hx hb hts w_X10 hown hK hP 0 rfl rfl 2 (by decide) f_7 (fun _ h9 => h9) rfl dX10_word_18 ?_
      refine lv_iload_n hx hb dX10_word_21 rfl (lv_at hl 1 rfl) ?_
      refine va_iald hx hb hK hP 1 0 rfl rfl (in_lt c6 c14 hn) dX10_word_22 ?_
      refine lv_goto (tgt := 27) hx hb dX10_word_23 (by decide) ?_
      have hF : (fX10_word n f k) = ((f k.toNatClampNeg), 0) := by exact ((if_neg c6).trans (if_neg c14))
      subst hAe
      subst hQe
      exact W.iret (v := (f k.toNatClampNeg)) hx hb hr (fun t ht hW => ⟨⟨_, _, rfl, ⟨(), trivial, by rw [hF], by rw [hF]⟩, by rw [ht]; exact hP, hD⟩, hS.F ht⟩) hS.2.2 dX10_word_27

abbrev rmX10_thrown : Room := { frames := 0, cells := 0, slots := 0, locals := 0 }
abbrev qX10_thrown (D : va_G) (sz : Nat) (h0 : Nat) (h1 : Nat) (h2 : Nat) (cA : ClassId) (cB : ClassId) (cd : Int32) (n : Int32) (md : Int32) (ch : Int32) (sh : Int32) (tp : Int32) (lf : Int32) (bt : Int32) (rt : Int32) (f : Nat → Int32) (g : Nat → Int32) : Array Value → State → Outcome → State → Prop := vp_Si (fun r_9 => r_9 = cd)
set_option maxHeartbeats 4000000 in
set_option maxRecDepth 100000 in
theorem kX10_thrown (l : Launch) (D : va_G) (sz : Nat) (h0 : Nat) (h1 : Nat) (h2 : Nat) (cA : ClassId) (cB : ClassId) (cd : Int32) (n : Int32) (md : Int32) (ch : Int32) (sh : Int32) (tp : Int32) (lf : Int32) (bt : Int32) (rt : Int32) (f : Nat → Int32) (g : Nat → Int32) : Met l yX10_thrown wsX10_thrown rmX10_thrown (va_Pc [.ref h0] (Pw D [(cA, .int), (cB, .int)] [(h0, .inr (8, [.int cd, .int n, .ref h1, .int md, .ref h2, .int ch, .int sh, .int tp, .int lf, .int bt, .int rt])), (h1, .inl (cA, 1000, .inl f)), (h2, .inl (cB, 1000, .inl g))] sz)) (qX10_thrown D sz h0 h1 h2 cA cB cd n md ch sh tp lf bt rt f g) 0 0 (fun _ => False) := by
  refine Met.ofW (cc := cX10_thrown) (maxL := 1) (ret := (some .int)) (by decide) rfl ?_
  intro p e s m args below meth c s₁ B hml hv
  obtain ⟨rfl, hsz, hP, hK, hD0, hN⟩ := hv
  have hx := B.exec
  have hb := B.bytes
  have hr := B.returns
  have hts := atoms_spec (ws := wsX10_thrown) B.pre
  have hown : s.vm.findClass RX10 = some m.cls := findClass_of_methodNamed B.named
  have hlocks := B.notSynchronized
  subst hsz
  obtain ⟨Q, hQe⟩ : ∃ Q, Q = MQ below (qX10_thrown D s.heap.size h0 h1 h2 cA cB cd n md ch sh tp lf bt rt f g) ([.ref h0] : List Value).toArray s 0 0 (fun _ => False) := ⟨_, rfl⟩
  rw [← hQe]
  have hD := hD0
  have hP : va_P D vwCl [(h0, .inr (8, [.int cd, .int n, .ref h1, .int md, .ref h2, .int ch, .int sh, .int tp, .int lf, .int bt, .int rt])), (h1, .inl (cA, 1000, .inl f)), (h2, .inl (cB, 1000, .inl g))] s.heap := hP
  have hl := lv_entry ([.ref h0]) (n := 1) (Nat.le_of_ble_eq_true rfl)
  rw [lg_entry_eq]
  generalize (lg_sl ([.ref h0]) ++ List.replicate (1 - (lg_sl ([.ref h0])).length) Slot.unset).toArray = ls at hl ⊢
  have hl : lv_has ls 1 [(0, .ref h0)] := hl
  have w_X10 : ∀ w ∈ wsX100, w ∈ wsX10_thrown := by decide +kernel
  have f_29 := hts (.fieldLink RX10 29 "ReferenceMoverModel" "code" "I") (by decide +kernel)
  refine lv_aload_n hx hb dX10_thrown_0 rfl (lv_at hl 0 rfl) ?_
  refine va_get (D := D) (ci := 8) (v := .int cd) (C := RX10) (T := TX10) (N := 11) hx hb hts w_X10 hown hK hP 0 rfl rfl 0 (by decide) f_29 (fun _ h9 => h9) rfl dX10_thrown_1 ?_
  subst hQe
  exact W.iret (v := cd) hx hb hr (fun t ht hW => ⟨_, rfl, rfl, ht⟩) (fun q h => absurd h List.not_mem_nil) dX10_thrown_4

abbrev rmX10_clear : Room := { frames := 0, cells := 0, slots := 0, locals := 0 }
abbrev qX10_clear (D : va_G) (sz : Nat) (h0 : Nat) (h1 : Nat) (h2 : Nat) (cA : ClassId) (cB : ClassId) (cd : Int32) (n : Int32) (md : Int32) (ch : Int32) (sh : Int32) (tp : Int32) (lf : Int32) (bt : Int32) (rt : Int32) (f : Nat → Int32) (g : Nat → Int32) : Array Value → State → Outcome → State → Prop := va_Qv (fun w_9 => ∃ _u : Unit, True ∧ w_9 = [(h0, .inr (8, [.int 0, .int 0, .ref h1, .int md, .ref h2, .int ch, .int sh, .int tp, .int lf, .int bt, .int rt])), (h1, .inl (cA, 1000, .inl f)), (h2, .inl (cB, 1000, .inl g))]) (Bq D (va_A [(h0, .inr (8, [.int cd, .int n, .ref h1, .int md, .ref h2, .int ch, .int sh, .int tp, .int lf, .int bt, .int rt])), (h1, .inl (cA, 1000, .inl f)), (h2, .inl (cB, 1000, .inl g))] sz)) (va_A [(h0, .inr (8, [.int cd, .int n, .ref h1, .int md, .ref h2, .int ch, .int sh, .int tp, .int lf, .int bt, .int rt])), (h1, .inl (cA, 1000, .inl f)), (h2, .inl (cB, 1000, .inl g))] sz)
set_option maxHeartbeats 4000000 in
set_option maxRecDepth 100000 in
theorem kX10_clear (l : Launch) (D : va_G) (sz : Nat) (h0 : Nat) (h1 : Nat) (h2 : Nat) (cA : ClassId) (cB : ClassId) (cd : Int32) (n : Int32) (md : Int32) (ch : Int32) (sh : Int32) (tp : Int32) (lf : Int32) (bt : Int32) (rt : Int32) (f : Nat → Int32) (g : Nat → Int32) : Met l yX10_clear wsX10_clear rmX10_clear (va_Pc [.ref h0] (Pw D [(cA, .int), (cB, .int)] [(h0, .inr (8, [.int cd, .int n, .ref h1, .int md, .ref h2, .int ch, .int sh, .int tp, .int lf, .int bt, .int rt])), (h1, .inl (cA, 1000, .inl f)), (h2, .inl (cB, 1000, .inl g))] sz)) (qX10_clear D sz h0 h1 h2 cA cB cd n md ch sh tp lf bt rt f g) 0 0 (va_A [(h0, .inr (8, [.int cd, .int n, .ref h1, .int md, .ref h2, .int ch, .int sh, .int tp, .int lf, .int bt, .int rt])), (h1, .inl (cA, 1000, .inl f)), (h2, .inl (cB, 1000, .inl g))] sz) := by
  refine Met.ofW (cc := cX10_clear) (maxL := 1) (ret := none) (by decide) rfl ?_
  intro p e s m args below meth c s₁ B hml hv
  obtain ⟨rfl, hsz, hP, hK, hD0, hN⟩ := hv
  have hx := B.exec
  have hb := B.bytes
  have hr := B.returns
  have hts := atoms_spec (ws := wsX10_clear) B.pre
  have hown : s.vm.findClass RX10 = some m.cls := findClass_of_methodNamed B.named
  have hlocks := B.notSynchronized
  subst hsz
  obtain ⟨Q, hQe⟩ : ∃ Q, Q = MQ below (qX10_clear D s.heap.size h0 h1 h2 cA cB cd n md ch sh tp lf bt rt f g) ([.ref h0] : List Value).toArray s 0 0 (va_A [(h0, .inr (8, [.int cd, .int n, .ref h1, .int md, .ref h2, .int ch, .int sh, .int tp, .int lf, .int bt, .int rt])), (h1, .inl (cA, 1000, .inl f)), (h2, .inl (cB, 1000, .inl g))] s.heap.size) := ⟨_, rfl⟩
  rw [← hQe]
  obtain ⟨A, hAe⟩ : ∃ A, A = va_A [(h0, .inr (8, [.int cd, .int n, .ref h1, .int md, .ref h2, .int ch, .int sh, .int tp, .int lf, .int bt, .int rt])), (h1, .inl (cA, 1000, .inl f)), (h2, .inl (cB, 1000, .inl g))] s.heap.size := ⟨_, rfl⟩
  have hD : va_D A [(h0, .inr (8, [.int cd, .int n, .ref h1, .int md, .ref h2, .int ch, .int sh, .int tp, .int lf, .int bt, .int rt])), (h1, .inl (cA, 1000, .inl f)), (h2, .inl (cB, 1000, .inl g))] := by rw [hAe]; exact hD0.self
  have hA : ∀ q : Nat, s.heap.size ≤ q → A q := by rw [hAe]; exact mo_A
  have hS : va_S A s.heap s.heap [] := va_S.rf
  obtain ⟨H, hHe⟩ : ∃ H, H = s.heap := ⟨_, rfl⟩
  obtain ⟨locs, hLe⟩ : ∃ L : List Loc, L = [] := ⟨_, rfl⟩
  have hP : va_P D vwCl [(h0, .inr (8, [.int cd, .int n, .ref h1, .int md, .ref h2, .int ch, .int sh, .int tp, .int lf, .int bt, .int rt])), (h1, .inl (cA, 1000, .inl f)), (h2, .inl (cB, 1000, .inl g))] H := by rw [hHe]; exact hP
  have hS : va_S A s.heap H locs := by rw [hHe, hLe]; exact hS
  have hl := lv_entry ([.ref h0]) (n := 1) (Nat.le_of_ble_eq_true rfl)
  rw [lg_entry_eq]
  generalize (lg_sl ([.ref h0]) ++ List.replicate (1 - (lg_sl ([.ref h0])).length) Slot.unset).toArray = ls at hl ⊢
  have hl : lv_has ls 1 [(0, .ref h0)] := hl
  refine hStart hHe hLe ?_
  clear hHe hLe
  have w_X10 : ∀ w ∈ wsX100, w ∈ wsX10_clear := by decide +kernel
  have f_29 := hts (.fieldLink RX10 29 "ReferenceMoverModel" "code" "I") (by decide +kernel)
  have f_32 := hts (.fieldLink RX10 32 "ReferenceMoverModel" "size" "I") (by decide +kernel)
  refine lv_aload_n hx hb dX10_clear_0 rfl (lv_at hl 0 rfl) ?_
  refine lv_iconst (v := 0) hx hb dX10_clear_1 (by decide) ?_
  refine va_put (D := D) (ci := 8) (v := .int 0) (ty := .int) (C := RX10) (T := TX10) (N := 11) hx hb hts w_X10 tyX10 tyX10_ok nmX10 hown hK hP hD hS 0 rfl rfl 0 (by decide) f_29 (fun _ h9 => h9) rfl (by decide +kernel) rfl rfl (Nat.le_of_ble_eq_true rfl) dX10_clear_2 (fun H locs hP hD hS => ?_)
  have hP : va_P D vwCl [(h0, .inr (8, [.int 0, .int n, .ref h1, .int md, .ref h2, .int ch, .int sh, .int tp, .int lf, .int bt, .int rt])), (h1, .inl (cA, 1000, .inl f)), (h2, .inl (cB, 1000, .inl g))] H := hP
  have hD : va_D A [(h0, .inr (8, [.int 0, .int n, .ref h1, .int md, .ref h2, .int ch, .int sh, .int tp, .int lf, .int bt, .int rt])), (h1, .inl (cA, 1000, .inl f)), (h2, .inl (cB, 1000, .inl g))] := hD
  refine lv_aload_n hx hb dX10_clear_5 rfl (lv_at hl 0 rfl) ?_
  refine lv_iconst (v := 0) hx hb dX10_clear_6 (by decide) ?_
  refine va_put (D := D) (ci := 8) (v := .int 0) (ty := .int) (C := RX10) (T := TX10) (N := 11) hx hb hts w_X10 tyX10 tyX10_ok nmX10 hown hK hP hD hS 0 rfl rfl 1 (by decide) f_32 (fun _ h9 => h9) rfl (by decide +kernel) rfl rfl (Nat.le_of_ble_eq_true rfl) dX10_clear_7 (fun H locs hP hD hS => ?_)
  have hP : va_P D vwCl [(h0, .inr (8, [.int 0, .int 0, .ref h1, .int md, .ref h2, .int ch, .int sh, .int tp, .int lf, .int bt, .int rt])), (h1, .inl (cA, 1000, .inl f)), (h2, .inl (cB, 1000, .inl g))] H := hP
  have hD : va_D A [(h0, .inr (8, [.int 0, .int 0, .ref h1, .int md, .ref h2, .int ch, .int sh, .int tp, .int lf, .int bt, .int rt])), (h1, .inl (cA, 1000, .inl f)), (h2, .inl (cB, 1000, .inl g))] := hD
  subst hAe
  subst hQe
  exact W.vret hx hb hr (fun t ht hW => ⟨⟨_, rfl, ⟨(), trivial, rfl⟩, by rw [ht]; exact hP, hD⟩, hS.F ht⟩) hS.2.2 dX10_clear_10

abbrev rmX10_size : Room := { frames := 0, cells := 0, slots := 0, locals := 0 }
abbrev qX10_size (D : va_G) (sz : Nat) (h0 : Nat) (h1 : Nat) (h2 : Nat) (cA : ClassId) (cB : ClassId) (cd : Int32) (n : Int32) (md : Int32) (ch : Int32) (sh : Int32) (tp : Int32) (lf : Int32) (bt : Int32) (rt : Int32) (f : Nat → Int32) (g : Nat → Int32) : Array Value → State → Outcome → State → Prop := va_Qi (fun r_9 w_9 => ∃ _u : Unit, True ∧ r_9 = n ∧ w_9 = [(h0, .inr (8, [.int 0, .int n, .ref h1, .int md, .ref h2, .int ch, .int sh, .int tp, .int lf, .int bt, .int rt])), (h1, .inl (cA, 1000, .inl f)), (h2, .inl (cB, 1000, .inl g))]) (Bq D (va_A [(h0, .inr (8, [.int cd, .int n, .ref h1, .int md, .ref h2, .int ch, .int sh, .int tp, .int lf, .int bt, .int rt])), (h1, .inl (cA, 1000, .inl f)), (h2, .inl (cB, 1000, .inl g))] sz)) (va_A [(h0, .inr (8, [.int cd, .int n, .ref h1, .int md, .ref h2, .int ch, .int sh, .int tp, .int lf, .int bt, .int rt])), (h1, .inl (cA, 1000, .inl f)), (h2, .inl (cB, 1000, .inl g))] sz)
set_option maxHeartbeats 4000000 in
set_option maxRecDepth 100000 in
theorem kX10_size (l : Launch) (D : va_G) (sz : Nat) (h0 : Nat) (h1 : Nat) (h2 : Nat) (cA : ClassId) (cB : ClassId) (cd : Int32) (n : Int32) (md : Int32) (ch : Int32) (sh : Int32) (tp : Int32) (lf : Int32) (bt : Int32) (rt : Int32) (f : Nat → Int32) (g : Nat → Int32) : Met l yX10_size wsX10_size rmX10_size (va_Pc [.ref h0] (Pw D [(cA, .int), (cB, .int)] [(h0, .inr (8, [.int cd, .int n, .ref h1, .int md, .ref h2, .int ch, .int sh, .int tp, .int lf, .int bt, .int rt])), (h1, .inl (cA, 1000, .inl f)), (h2, .inl (cB, 1000, .inl g))] sz)) (qX10_size D sz h0 h1 h2 cA cB cd n md ch sh tp lf bt rt f g) 0 0 (va_A [(h0, .inr (8, [.int cd, .int n, .ref h1, .int md, .ref h2, .int ch, .int sh, .int tp, .int lf, .int bt, .int rt])), (h1, .inl (cA, 1000, .inl f)), (h2, .inl (cB, 1000, .inl g))] sz) := by
  refine Met.ofW (cc := cX10_size) (maxL := 1) (ret := (some .int)) (by decide) rfl ?_
  intro p e s m args below meth c s₁ B hml hv
  obtain ⟨rfl, hsz, hP, hK, hD0, hN⟩ := hv
  have hx := B.exec
  have hb := B.bytes
  have hr := B.returns
  have hts := atoms_spec (ws := wsX10_size) B.pre
  have hown : s.vm.findClass RX10 = some m.cls := findClass_of_methodNamed B.named
  have hlocks := B.notSynchronized
  subst hsz
  obtain ⟨Q, hQe⟩ : ∃ Q, Q = MQ below (qX10_size D s.heap.size h0 h1 h2 cA cB cd n md ch sh tp lf bt rt f g) ([.ref h0] : List Value).toArray s 0 0 (va_A [(h0, .inr (8, [.int cd, .int n, .ref h1, .int md, .ref h2, .int ch, .int sh, .int tp, .int lf, .int bt, .int rt])), (h1, .inl (cA, 1000, .inl f)), (h2, .inl (cB, 1000, .inl g))] s.heap.size) := ⟨_, rfl⟩
  rw [← hQe]
  obtain ⟨A, hAe⟩ : ∃ A, A = va_A [(h0, .inr (8, [.int cd, .int n, .ref h1, .int md, .ref h2, .int ch, .int sh, .int tp, .int lf, .int bt, .int rt])), (h1, .inl (cA, 1000, .inl f)), (h2, .inl (cB, 1000, .inl g))] s.heap.size := ⟨_, rfl⟩
  have hD : va_D A [(h0, .inr (8, [.int cd, .int n, .ref h1, .int md, .ref h2, .int ch, .int sh, .int tp, .int lf, .int bt, .int rt])), (h1, .inl (cA, 1000, .inl f)), (h2, .inl (cB, 1000, .inl g))] := by rw [hAe]; exact hD0.self
  have hA : ∀ q : Nat, s.heap.size ≤ q → A q := by rw [hAe]; exact mo_A
  have hS : va_S A s.heap s.heap [] := va_S.rf
  obtain ⟨H, hHe⟩ : ∃ H, H = s.heap := ⟨_, rfl⟩
  obtain ⟨locs, hLe⟩ : ∃ L : List Loc, L = [] := ⟨_, rfl⟩
  have hP : va_P D vwCl [(h0, .inr (8, [.int cd, .int n, .ref h1, .int md, .ref h2, .int ch, .int sh, .int tp, .int lf, .int bt, .int rt])), (h1, .inl (cA, 1000, .inl f)), (h2, .inl (cB, 1000, .inl g))] H := by rw [hHe]; exact hP
  have hS : va_S A s.heap H locs := by rw [hHe, hLe]; exact hS
  have hl := lv_entry ([.ref h0]) (n := 1) (Nat.le_of_ble_eq_true rfl)
  rw [lg_entry_eq]
  generalize (lg_sl ([.ref h0]) ++ List.replicate (1 - (lg_sl ([.ref h0])).length) Slot.unset).toArray = ls at hl ⊢
  have hl : lv_has ls 1 [(0, .ref h0)] := hl
  refine hStart hHe hLe ?_
  clear hHe hLe
  have w_X10 : ∀ w ∈ wsX100, w ∈ wsX10_size := by decide +kernel
  have f_29 := hts (.fieldLink RX10 29 "ReferenceMoverModel" "code" "I") (by decide +kernel)
  have f_32 := hts (.fieldLink RX10 32 "ReferenceMoverModel" "size" "I") (by decide +kernel)
  refine lv_aload_n hx hb dX10_size_0 rfl (lv_at hl 0 rfl) ?_
  refine lv_iconst (v := 0) hx hb dX10_size_1 (by decide) ?_
  refine va_put (D := D) (ci := 8) (v := .int 0) (ty := .int) (C := RX10) (T := TX10) (N := 11) hx hb hts w_X10 tyX10 tyX10_ok nmX10 hown hK hP hD hS 0 rfl rfl 0 (by decide) f_29 (fun _ h9 => h9) rfl (by decide +kernel) rfl rfl (Nat.le_of_ble_eq_true rfl) dX10_size_2 (fun H locs hP hD hS => ?_)
  have hP : va_P D vwCl [(h0, .inr (8, [.int 0, .int n, .ref h1, .int md, .ref h2, .int ch, .int sh, .int tp, .int lf, .int bt, .int rt])), (h1, .inl (cA, 1000, .inl f)), (h2, .inl (cB, 1000, .inl g))] H := hP
  have hD : va_D A [(h0, .inr (8, [.int 0, .int n, .ref h1, .int md, .ref h2, .int ch, .int sh, .int tp, .int lf, .int bt, .int rt])), (h1, .inl (cA, 1000, .inl f)), (h2, .inl (cB, 1000, .inl g))] := hD
  refine lv_aload_n hx hb dX10_size_5 rfl (lv_at hl 0 rfl) ?_
  refine va_get (D := D) (ci := 8) (v := .int n) (C := RX10) (T := TX10) (N := 11) hx hb hts w_X10 hown hK hP 0 rfl rfl 1 (by decide) f_32 (fun _ h9 => h9) rfl dX10_size_6 ?_
  subst hAe
  subst hQe
  exact W.iret (v := n) hx hb hr (fun t ht hW => ⟨⟨_, _, rfl, ⟨(), trivial, rfl, rfl⟩, by rw [ht]; exact hP, hD⟩, hS.F ht⟩) hS.2.2 dX10_size_9

abbrev rmX10_begin : Room := { frames := 0, cells := 0, slots := 0, locals := 0 }
abbrev qX10_begin (D : va_G) (sz : Nat) (h0 : Nat) (h1 : Nat) (h2 : Nat) (cA : ClassId) (cB : ClassId) (cd : Int32) (n : Int32) (md : Int32) (ch : Int32) (sh : Int32) (tp : Int32) (lf : Int32) (bt : Int32) (rt : Int32) (f : Nat → Int32) (g : Nat → Int32) : Array Value → State → Outcome → State → Prop := va_Qv (fun w_9 => ∃ _u : Unit, True ∧ w_9 = [(h0, .inr (8, [.int cd, .int n, .ref h1, .int 0, .ref h2, .int 0, .int sh, .int tp, .int lf, .int bt, .int rt])), (h1, .inl (cA, 1000, .inl f)), (h2, .inl (cB, 1000, .inl g))]) (Bq D (va_A [(h0, .inr (8, [.int cd, .int n, .ref h1, .int md, .ref h2, .int ch, .int sh, .int tp, .int lf, .int bt, .int rt])), (h1, .inl (cA, 1000, .inl f)), (h2, .inl (cB, 1000, .inl g))] sz)) (va_A [(h0, .inr (8, [.int cd, .int n, .ref h1, .int md, .ref h2, .int ch, .int sh, .int tp, .int lf, .int bt, .int rt])), (h1, .inl (cA, 1000, .inl f)), (h2, .inl (cB, 1000, .inl g))] sz)
set_option maxHeartbeats 4000000 in
set_option maxRecDepth 100000 in
theorem kX10_begin (l : Launch) (D : va_G) (sz : Nat) (h0 : Nat) (h1 : Nat) (h2 : Nat) (cA : ClassId) (cB : ClassId) (cd : Int32) (n : Int32) (md : Int32) (ch : Int32) (sh : Int32) (tp : Int32) (lf : Int32) (bt : Int32) (rt : Int32) (f : Nat → Int32) (g : Nat → Int32) : Met l yX10_begin wsX10_begin rmX10_begin (va_Pc [.ref h0] (Pw D [(cA, .int), (cB, .int)] [(h0, .inr (8, [.int cd, .int n, .ref h1, .int md, .ref h2, .int ch, .int sh, .int tp, .int lf, .int bt, .int rt])), (h1, .inl (cA, 1000, .inl f)), (h2, .inl (cB, 1000, .inl g))] sz)) (qX10_begin D sz h0 h1 h2 cA cB cd n md ch sh tp lf bt rt f g) 0 0 (va_A [(h0, .inr (8, [.int cd, .int n, .ref h1, .int md, .ref h2, .int ch, .int sh, .int tp, .int lf, .int bt, .int rt])), (h1, .inl (cA, 1000, .inl f)), (h2, .inl (cB, 1000, .inl g))] sz) := by
  refine Met.ofW (cc := cX10_begin) (maxL := 1) (ret := none) (by decide) rfl ?_
  intro p e s m args below meth c s₁ B hml hv
  obtain ⟨rfl, hsz, hP, hK, hD0, hN⟩ := hv
  have hx := B.exec
  have hb := B.bytes
  have hr := B.returns
  have hts := atoms_spec (ws := wsX10_begin) B.pre
  have hown : s.vm.findClass RX10 = some m.cls := findClass_of_methodNamed B.named
  have hlocks := B.notSynchronized
  subst hsz
  obtain ⟨Q, hQe⟩ : ∃ Q, Q = MQ below (qX10_begin D s.heap.size h0 h1 h2 cA cB cd n md ch sh tp lf bt rt f g) ([.ref h0] : List Value).toArray s 0 0 (va_A [(h0, .inr (8, [.int cd, .int n, .ref h1, .int md, .ref h2, .int ch, .int sh, .int tp, .int lf, .int bt, .int rt])), (h1, .inl (cA, 1000, .inl f)), (h2, .inl (cB, 1000, .inl g))] s.heap.size) := ⟨_, rfl⟩
  rw [← hQe]
  obtain ⟨A, hAe⟩ : ∃ A, A = va_A [(h0, .inr (8, [.int cd, .int n, .ref h1, .int md, .ref h2, .int ch, .int sh, .int tp, .int lf, .int bt, .int rt])), (h1, .inl (cA, 1000, .inl f)), (h2, .inl (cB, 1000, .inl g))] s.heap.size := ⟨_, rfl⟩
  have hD : va_D A [(h0, .inr (8, [.int cd, .int n, .ref h1, .int md, .ref h2, .int ch, .int sh, .int tp, .int lf, .int bt, .int rt])), (h1, .inl (cA, 1000, .inl f)), (h2, .inl (cB, 1000, .inl g))] := by rw [hAe]; exact hD0.self
  have hA : ∀ q : Nat, s.heap.size ≤ q → A q := by rw [hAe]; exact mo_A
  have hS : va_S A s.heap s.heap [] := va_S.rf
  obtain ⟨H, hHe⟩ : ∃ H, H = s.heap := ⟨_, rfl⟩
  obtain ⟨locs, hLe⟩ : ∃ L : List Loc, L = [] := ⟨_, rfl⟩
  have hP : va_P D vwCl [(h0, .inr (8, [.int cd, .int n, .ref h1, .int md, .ref h2, .int ch, .int sh, .int tp, .int lf, .int bt, .int rt])), (h1, .inl (cA, 1000, .inl f)), (h2, .inl (cB, 1000, .inl g))] H := by rw [hHe]; exact hP
  have hS : va_S A s.heap H locs := by rw [hHe, hLe]; exact hS
  have hl := lv_entry ([.ref h0]) (n := 1) (Nat.le_of_ble_eq_true rfl)
  rw [lg_entry_eq]
  generalize (lg_sl ([.ref h0]) ++ List.replicate (1 - (lg_sl ([.ref h0])).length) Slot.unset).toArray = ls at hl ⊢
  have hl : lv_has ls 1 [(0, .ref h0)] := hl
  refine hStart hHe hLe ?_
  clear hHe hLe
  have w_X10 : ∀ w ∈ wsX100, w ∈ wsX10_begin := by decide +kernel
  have f_48 := hts (.fieldLink RX10 48 "ReferenceMoverModel" "made" "I") (by decide +kernel)
  have f_54 := hts (.fieldLink RX10 54 "ReferenceMoverModel" "changed" "I") (by decide +kernel)
  refine lv_aload_n hx hb dX10_begin_0 rfl (lv_at hl 0 rfl) ?_
  refine lv_iconst (v := 0) hx hb dX10_begin_1 (by decide) ?_
  refine va_put (D := D) (ci := 8) (v := .int 0) (ty := .int) (C := RX10) (T := TX10) (N := 11) hx hb hts w_X10 tyX10 tyX10_ok nmX10 hown hK hP hD hS 0 rfl rfl 3 (by decide) f_48 (fun _ h9 => h9) rfl (by decide +kernel) rfl rfl (Nat.le_of_ble_eq_true rfl) dX10_begin_2 (fun H locs hP hD hS => ?_)
  have hP : va_P D vwCl [(h0, .inr (8, [.int cd, .int n, .ref h1, .int 0, .ref h2, .int ch, .int sh, .int tp, .int lf, .int bt, .int rt])), (h1, .inl (cA, 1000, .inl f)), (h2, .inl (cB, 1000, .inl g))] H := hP
  have hD : va_D A [(h0, .inr (8, [.int cd, .int n, .ref h1, .int 0, .ref h2, .int ch, .int sh, .int tp, .int lf, .int bt, .int rt])), (h1, .inl (cA, 1000, .inl f)), (h2, .inl (cB, 1000, .inl g))] := hD
  refine lv_aload_n hx hb dX10_begin_5 rfl (lv_at hl 0 rfl) ?_
  refine lv_iconst (v := 0) hx hb dX10_begin_6 (by decide) ?_
  refine va_put (D := D) (ci := 8) (v := .int 0) (ty := .int) (C := RX10) (T := TX10) (N := 11) hx hb hts w_X10 tyX10 tyX10_ok nmX10 hown hK hP hD hS 0 rfl rfl 5 (by decide) f_54 (fun _ h9 => h9) rfl (by decide +kernel) rfl rfl (Nat.le_of_ble_eq_true rfl) dX10_begin_7 (fun H locs hP hD hS => ?_)
  have hP : va_P D vwCl [(h0, .inr (8, [.int cd, .int n, .ref h1, .int 0, .ref h2, .int 0, .int sh, .int tp, .int lf, .int bt, .int rt])), (h1, .inl (cA, 1000, .inl f)), (h2, .inl (cB, 1000, .inl g))] H := hP
  have hD : va_D A [(h0, .inr (8, [.int cd, .int n, .ref h1, .int 0, .ref h2, .int 0, .int sh, .int tp, .int lf, .int bt, .int rt])), (h1, .inl (cA, 1000, .inl f)), (h2, .inl (cB, 1000, .inl g))] := hD
  subst hAe
  subst hQe
  exact W.vret hx hb hr (fun t ht hW => ⟨⟨_, rfl, ⟨(), trivial, rfl⟩, by rw [ht]; exact hP, hD⟩, hS.F ht⟩) hS.2.2 dX10_begin_10

abbrev rmX10_put : Room := { frames := 0, cells := 0, slots := 0, locals := 0 }
abbrev qX10_put (D : va_G) (sz : Nat) (h0 : Nat) (h1 : Nat) (h2 : Nat) (cA : ClassId) (cB : ClassId) (cd : Int32) (n : Int32) (md : Int32) (ch : Int32) (sh : Int32) (tp : Int32) (lf : Int32) (bt : Int32) (rt : Int32) (f : Nat → Int32) (g : Nat → Int32) (x : Int32) : Array Value → State → Outcome → State → Prop := va_Qv (fun w_9 => ∃ _u : Unit, True ∧ w_9 = [(h0, .inr (8, [.int cd, .int (n + 1), .ref h1, .int md, .ref h2, .int ch, .int sh, .int tp, .int lf, .int bt, .int rt])), (h1, .inl (cA, 1000, .inl (upd f n.toNatClampNeg x))), (h2, .inl (cB, 1000, .inl g))]) (Bq D (va_A [(h0, .inr (8, [.int cd, .int n, .ref h1, .int md, .ref h2, .int ch, .int sh, .int tp, .int lf, .int bt, .int rt])), (h1, .inl (cA, 1000, .inl f)), (h2, .inl (cB, 1000, .inl g))] sz)) (va_A [(h0, .inr (8, [.int cd, .int n, .ref h1, .int md, .ref h2, .int ch, .int sh, .int tp, .int lf, .int bt, .int rt])), (h1, .inl (cA, 1000, .inl f)), (h2, .inl (cB, 1000, .inl g))] sz)
set_option maxHeartbeats 4000000 in
set_option maxRecDepth 100000 in
theorem kX10_put (l : Launch) (D : va_G) (sz : Nat) (h0 : Nat) (h1 : Nat) (h2 : Nat) (cA : ClassId) (cB : ClassId) (cd : Int32) (n : Int32) (md : Int32) (ch : Int32) (sh : Int32) (tp : Int32) (lf : Int32) (bt : Int32) (rt : Int32) (f : Nat → Int32) (g : Nat → Int32) (x : Int32) (hi : vp_in n 1000) : Met l yX10_put wsX10_put rmX10_put (va_Pc [.ref h0, .int x] (Pw D [(cA, .int), (cB, .int)] [(h0, .inr (8, [.int cd, .int n, .ref h1, .int md, .ref h2, .int ch, .int sh, .int tp, .int lf, .int bt, .int rt])), (h1, .inl (cA, 1000, .inl f)), (h2, .inl (cB, 1000, .inl g))] sz)) (qX10_put D sz h0 h1 h2 cA cB cd n md ch sh tp lf bt rt f g x) 0 0 (va_A [(h0, .inr (8, [.int cd, .int n, .ref h1, .int md, .ref h2, .int ch, .int sh, .int tp, .int lf, .int bt, .int rt])), (h1, .inl (cA, 1000, .inl f)), (h2, .inl (cB, 1000, .inl g))] sz) := by
  refine Met.ofW (cc := cX10_put) (maxL := 2) (ret := none) (by decide) rfl ?_
  intro p e s m args below meth c s₁ B hml hv
  obtain ⟨rfl, hsz, hP, hK, hD0, hN⟩ := hv
  have hx := B.exec
  have hb := B.bytes
  have hr := B.returns
  have hts := atoms_spec (ws := wsX10_put) B.pre
  have hown : s.vm.findClass RX10 = some m.cls := findClass_of_methodNamed B.named
  have hlocks := B.notSynchronized
  subst hsz
  obtain ⟨Q, hQe⟩ : ∃ Q, Q = MQ below (qX10_put D s.heap.size h0 h1 h2 cA cB cd n md ch sh tp lf bt rt f g x) ([.ref h0, .int x] : List Value).toArray s 0 0 (va_A [(h0, .inr (8, [.int cd, .int n, .ref h1, .int md, .ref h2, .int ch, .int sh, .int tp, .int lf, .int bt, .int rt])), (h1, .inl (cA, 1000, .inl f)), (h2, .inl (cB, 1000, .inl g))] s.heap.size) := ⟨_, rfl⟩
  rw [← hQe]
  obtain ⟨A, hAe⟩ : ∃ A, A = va_A [(h0, .inr (8, [.int cd, .int n, .ref h1, .int md, .ref h2, .int ch, .int sh, .int tp, .int lf, .int bt, .int rt])), (h1, .inl (cA, 1000, .inl f)), (h2, .inl (cB, 1000, .inl g))] s.heap.size := ⟨_, rfl⟩
  have hD : va_D A [(h0, .inr (8, [.int cd, .int n, .ref h1, .int md, .ref h2, .int ch, .int sh, .int tp, .int lf, .int bt, .int rt])), (h1, .inl (cA, 1000, .inl f)), (h2, .inl (cB, 1000, .inl g))] := by rw [hAe]; exact hD0.self
  have hA : ∀ q : Nat, s.heap.size ≤ q → A q := by rw [hAe]; exact mo_A
  have hS : va_S A s.heap s.heap [] := va_S.rf
  obtain ⟨H, hHe⟩ : ∃ H, H = s.heap := ⟨_, rfl⟩
  obtain ⟨locs, hLe⟩ : ∃ L : List Loc, L = [] := ⟨_, rfl⟩
  have hP : va_P D vwCl [(h0, .inr (8, [.int cd, .int n, .ref h1, .int md, .ref h2, .int ch, .int sh, .int tp, .int lf, .int bt, .int rt])), (h1, .inl (cA, 1000, .inl f)), (h2, .inl (cB, 1000, .inl g))] H := by rw [hHe]; exact hP
  have hS : va_S A s.heap H locs := by rw [hHe, hLe]; exact hS
  have hl := lv_entry ([.ref h0, .int x]) (n := 2) (Nat.le_of_ble_eq_true rfl)
  rw [lg_entry_eq]
  generalize (lg_sl ([.ref h0, .int x]) ++ List.replicate (2 - (lg_sl ([.ref h0, .int x])).length) Slot.unset).toArray = ls at hl ⊢
  have hl : lv_has ls 2 [(0, .ref h0), (1, .int x)] := hl
  refine hStart hHe hLe ?_
  clear hHe hLe
  have w_X10 : ∀ w ∈ wsX100, w ∈ wsX10_put := by decide +kernel
  have f_7 := hts (.fieldLink RX10 7 "ReferenceMoverModel" "words" "[I") (by decide +kernel)
  have f_32 := hts (.fieldLink RX10 32 "ReferenceMoverModel" "size" "I") (by decide +kernel)
  refine lv_aload_n hx hb dX10_put_0 rfl (lv_at hl 0 rfl) ?_
  refine va_get (D := D) (ci := 8) (v := .ref h1) (C := RX10) (T := TX10) (N := 11) hx hb hts w_X10 hown hK hP 0 rfl rfl 2 (by decide) f_7 (fun _ h9 => h9) rfl dX10_put_1 ?_
  refine lv_aload_n hx hb dX10_put_4 rfl (lv_at hl 0 rfl) ?_
  refine va_get (D := D) (ci := 8) (v := .int n) (C := RX10) (T := TX10) (N := 11) hx hb hts w_X10 hown hK hP 0 rfl rfl 1 (by decide) f_32 (fun _ h9 => h9) rfl dX10_put_5 ?_
  refine lv_iload_n hx hb dX10_put_8 rfl (lv_at hl 1 rfl) ?_
  refine va_iast hx hb hK hP hD hS 1 0 rfl rfl hi dX10_put_9 (fun H locs hP hD hS => ?_)
  have hP : va_P D vwCl [(h0, .inr (8, [.int cd, .int n, .ref h1, .int md, .ref h2, .int ch, .int sh, .int tp, .int lf, .int bt, .int rt])), (h1, .inl (cA, 1000, .inl (upd f n.toNatClampNeg x))), (h2, .inl (cB, 1000, .inl g))] H := hP
  have hD : va_D A [(h0, .inr (8, [.int cd, .int n, .ref h1, .int md, .ref h2, .int ch, .int sh, .int tp, .int lf, .int bt, .int rt])), (h1, .inl (cA, 1000, .inl (upd f n.toNatClampNeg x))), (h2, .inl (cB, 1000, .inl g))] := hD
  refine lv_aload_n hx hb dX10_put_10 rfl (lv_at hl 0 rfl) ?_
  refine lv_dup hx hb dX10_put_11 rfl ?_
  refine va_get (D := D) (ci := 8) (v := .int n) (C := RX10) (T := TX10) (N := 11) hx hb hts w_X10 hown hK hP 0 rfl rfl 1 (by decide) f_32 (fun _ h9 => h9) rfl dX10_put_12 ?_
  refine lv_iconst (v := 1) hx hb dX10_put_15 (by decide) ?_
  refine lv_iadd hx hb dX10_put_16 ?_
  refine va_put (D := D) (ci := 8) (v := .int (n + 1)) (ty := .int) (C := RX10) (T := TX10) (N := 11) hx hb hts w_X10 tyX10 tyX10_ok nmX10 hown hK hP hD hS 0 rfl rfl 1 (by decide) f_32 (fun _ h9 => h9) rfl (by decide +kernel) rfl rfl (Nat.le_of_ble_eq_true rfl) dX10_put_17 (fun H locs hP hD hS => ?_)
  have hP : va_P D vwCl [(h0, .inr (8, [.int cd, .int (n + 1), .ref h1, .int md, .ref h2, .int ch, .int sh, .int tp, .int lf, .int bt, .int rt])), (h1, .inl (cA, 1000, .inl (upd f n.toNatClampNeg x))), (h2, .inl (cB, 1000, .inl g))] H := hP
  have hD : va_D A [(h0, .inr (8, [.int cd, .int (n + 1), .ref h1, .int md, .ref h2, .int ch, .int sh, .int tp, .int lf, .int bt, .int rt])), (h1, .inl (cA, 1000, .inl (upd f n.toNatClampNeg x))), (h2, .inl (cB, 1000, .inl g))] := hD
  subst hAe
  subst hQe
  exact W.vret hx hb hr (fun t ht hW => ⟨⟨_, rfl, ⟨(), trivial, rfl⟩, by rw [ht]; exact hP, hD⟩, hS.F ht⟩) hS.2.2 dX10_put_20

def fX10_other (n : Int32) (f : Nat → Int32) (x : Int32) : Int32 × Int32 × Int32 × (Nat → Int32) := if n = 1000 then (0, 0, n, f) else (if x < 0 then ((1, 0, (n + 1), (upd f n.toNatClampNeg x))) else (if (x - x / 16 * 16) = 4 then (0, 0, n, f) else (if (x - x / 16 * 16) = 5 then (0, 0, n, f) else ((1, 0, (n + 1), (upd f n.toNatClampNeg x))))))
theorem zb_X10_other (n : Int32) (f : Nat → Int32) (x : Int32) : isB (fX10_other n f x).1 := by
  unfold fX10_other
  (try dsimp only)
  repeat' split
  all_goals first | exact Or.inl rfl | exact Or.inr rfl
abbrev rmX10_other : Room := { frames := 1, cells := 0, slots := 0, locals := 21 }
abbrev qX10_other (D : va_G) (sz : Nat) (h0 : Nat) (h1 : Nat) (h2 : Nat) (cA : ClassId) (cB : ClassId) (cd : Int32) (n : Int32) (md : Int32) (ch : Int32) (sh : Int32) (tp : Int32) (lf : Int32) (bt : Int32) (rt : Int32) (f : Nat → Int32) (g : Nat → Int32) (x : Int32) : Array Value → State → Outcome → State → Prop := va_Qi (fun r_9 w_9 => ∃ _u : Unit, True ∧ r_9 = (fX10_other n f x).1 ∧ w_9 = [(h0, .inr (8, [.int (fX10_other n f x).2.1, .int (fX10_other n f x).2.2.1, .ref h1, .int md, .ref h2, .int ch, .int sh, .int tp, .int lf, .int bt, .int rt])), (h1, .inl (cA, 1000, .inl (fX10_other n f x).2.2.2)), (h2, .inl (cB, 1000, .inl g))]) (Bq D (va_A [(h0, .inr (8, [.int cd, .int n, .ref h1, .int md, .ref h2, .int ch, .int sh, .int tp, .int lf, .int bt, .int rt])), (h1, .inl (cA, 1000, .inl f)), (h2, .inl (cB, 1000, .inl g))] sz)) (va_A [(h0, .inr (8, [.int cd, .int n, .ref h1, .int md, .ref h2, .int ch, .int sh, .int tp, .int lf, .int bt, .int rt])), (h1, .inl (cA, 1000, .inl f)), (h2, .inl (cB, 1000, .inl g))] sz)
set_option maxHeartbeats 4000000 in
set_option maxRecDepth 100000 in
theorem kX10_other (l : Launch) (D : va_G) (sz : Nat) (h0 : Nat) (h1 : Nat) (h2 : Nat) (cA : ClassId) (cB : ClassId) (cd : Int32) (n : Int32) (md : Int32) (ch : Int32) (sh : Int32) (tp : Int32) (lf : Int32) (bt : Int32) (rt : Int32) (f : Nat → Int32) (g : Nat → Int32) (x : Int32) (hn : vp_in n 1001) : Met l yX10_other wsX10_other rmX10_other (va_Pc [.ref h0, .int x] (Pw D [(cA, .int), (cB, .int)] [(h0, .inr (8, [.int cd, .int n, .ref h1, .int md, .ref h2, .int ch, .int sh, .int tp, .int lf, .int bt, .int rt])), (h1, .inl (cA, 1000, .inl f)), (h2, .inl (cB, 1000, .inl g))] sz)) (qX10_other D sz h0 h1 h2 cA cB cd n md ch sh tp lf bt rt f g x) 0 0 (va_A [(h0, .inr (8, [.int cd, .int n, .ref h1, .int md, .ref h2, .int ch, .int sh, .int tp, .int lf, .int bt, .int rt])), (h1, .inl (cA, 1000, .inl f)), (h2, .inl (cB, 1000, .inl g))] sz) := by
  refine Met.ofW (cc := cX10_other) (maxL := 2) (ret := (some .boolean)) (by decide) rfl ?_
  intro p e s m args below meth c s₁ B hml hv
  obtain ⟨rfl, hsz, hP, hK, hD0, hN⟩ := hv
  have hx := B.exec
  have hb := B.bytes
  have hr := B.returns
  have hts := atoms_spec (ws := wsX10_other) B.pre
  have hown : s.vm.findClass RX10 = some m.cls := findClass_of_methodNamed B.named
  have hlocks := B.notSynchronized
  subst hsz
  obtain ⟨Q, hQe⟩ : ∃ Q, Q = MQ below (qX10_other D s.heap.size h0 h1 h2 cA cB cd n md ch sh tp lf bt rt f g x) ([.ref h0, .int x] : List Value).toArray s 0 0 (va_A [(h0, .inr (8, [.int cd, .int n, .ref h1, .int md, .ref h2, .int ch, .int sh, .int tp, .int lf, .int bt, .int rt])), (h1, .inl (cA, 1000, .inl f)), (h2, .inl (cB, 1000, .inl g))] s.heap.size) := ⟨_, rfl⟩
  rw [← hQe]
  obtain ⟨A, hAe⟩ : ∃ A, A = va_A [(h0, .inr (8, [.int cd, .int n, .ref h1, .int md, .ref h2, .int ch, .int sh, .int tp, .int lf, .int bt, .int rt])), (h1, .inl (cA, 1000, .inl f)), (h2, .inl (cB, 1000, .inl g))] s.heap.size := ⟨_, rfl⟩
  have hD : va_D A [(h0, .inr (8, [.int cd, .int n, .ref h1, .int md, .ref h2, .int ch, .int sh, .int tp, .int lf, .int bt, .int rt])), (h1, .inl (cA, 1000, .inl f)), (h2, .inl (cB, 1000, .inl g))] := by rw [hAe]; exact hD0.self
  have hA : ∀ q : Nat, s.heap.size ≤ q → A q := by rw [hAe]; exact mo_A
  have hS : va_S A s.heap s.heap [] := va_S.rf
  obtain ⟨H, hHe⟩ : ∃ H, H = s.heap := ⟨_, rfl⟩
  obtain ⟨locs, hLe⟩ : ∃ L : List Loc, L = [] := ⟨_, rfl⟩
  have hP : va_P D vwCl [(h0, .inr (8, [.int cd, .int n, .ref h1, .int md, .ref h2, .int ch, .int sh, .int tp, .int lf, .int bt, .int rt])), (h1, .inl (cA, 1000, .inl f)), (h2, .inl (cB, 1000, .inl g))] H := by rw [hHe]; exact hP
  have hS : va_S A s.heap H locs := by rw [hHe, hLe]; exact hS
  have hl := lv_entry ([.ref h0, .int x]) (n := 2) (Nat.le_of_ble_eq_true rfl)
  rw [lg_entry_eq]
  generalize (lg_sl ([.ref h0, .int x]) ++ List.replicate (2 - (lg_sl ([.ref h0, .int x])).length) Slot.unset).toArray = ls at hl ⊢
  have hl : lv_has ls 2 [(0, .ref h0), (1, .int x)] := hl
  refine hStart hHe hLe ?_
  clear hHe hLe
  have w_X10 : ∀ w ∈ wsX100, w ∈ wsX10_other := by decide +kernel
  have f_29 := hts (.fieldLink RX10 29 "ReferenceMoverModel" "code" "I") (by decide +kernel)
  have f_32 := hts (.fieldLink RX10 32 "ReferenceMoverModel" "size" "I") (by decide +kernel)
  refine lv_aload_n hx hb dX10_other_0 rfl (lv_at hl 0 rfl) ?_
  refine lv_iconst (v := 0) hx hb dX10_other_1 (by decide) ?_
  refine va_put (D := D) (ci := 8) (v := .int 0) (ty := .int) (C := RX10) (T := TX10) (N := 11) hx hb hts w_X10 tyX10 tyX10_ok nmX10 hown hK hP hD hS 0 rfl rfl 0 (by decide) f_29 (fun _ h9 => h9) rfl (by decide +kernel) rfl rfl (Nat.le_of_ble_eq_true rfl) dX10_other_2 (fun H locs hP hD hS => ?_)
  have hP : va_P D vwCl [(h0, .inr (8, [.int 0, .int n, .ref h1, .int md, .ref h2, .int ch, .int sh, .int tp, .int lf, .int bt, .int rt])), (h1, .inl (cA, 1000, .inl f)), (h2, .inl (cB, 1000, .inl g))] H := hP
  have hD : va_D A [(h0, .inr (8, [.int 0, .int n, .ref h1, .int md, .ref h2, .int ch, .int sh, .int tp, .int lf, .int bt, .int rt])), (h1, .inl (cA, 1000, .inl f)), (h2, .inl (cB, 1000, .inl g))] := hD
  refine lv_aload_n hx hb dX10_other_5 rfl (lv_at hl 0 rfl) ?_
  refine va_get (D := D) (ci := 8) (v := .int n) (C := RX10) (T := TX10) (N := 11) hx hb hts w_X10 hown hK hP 0 rfl rfl 1 (by decide) f_32 (fun _ h9 => h9) rfl dX10_other_6 ?_
  refine lv_sipush (v := 1000) hx hb dX10_other_9 (by decide) ?_
  refine lv_icmp_eq (tgt := 35) hx hb dX10_other_12 (by decide) (fun c12 => ?_) (fun c12 => ?_)
  · refine lv_iconst (v := 0) hx hb dX10_other_35 (by decide) ?_
    have hF : (fX10_other n f x) = (0, 0, n, f) := by exact (if_pos c12)
    subst hAe
    subst hQe
    exact W.zret (v := 0) hx hb hr rfl (fun t ht hW => ⟨⟨_, _, rfl, ⟨(), trivial, by rw [hF], by rw [hF]⟩, by rw [ht]; exact hP, hD⟩, hS.F ht⟩) hS.2.2 dX10_other_36
  · have hn2 : vp_in n 1000 := in_ne hn c12
    refine lv_iload_n hx hb dX10_other_15 rfl (lv_at hl 1 rfl) ?_
    refine lv_if_lt (tgt := 37) hx hb dX10_other_16 (by decide) (fun c16 => ?_) (fun c16 => ?_)
    · refine lv_aload_n hx hb dX10_other_37 rfl (lv_at hl 0 rfl) ?_
      refine lv_iload_n hx hb dX10_other_38 rfl (lv_at hl 1 rfl) ?_
      have hPc := hP.sub (ws' := [(h0, .inr (8, [.int 0, .int n, .ref h1, .int md, .ref h2, .int ch, .int sh, .int tp, .int lf, .int bt, .int rt])), (h1, .inl (cA, 1000, .inl f)), (h2, .inl (cB, 1000, .inl g))]) [0, 1, 2] rfl
      have hDc := hD.sub (ws' := [(h0, .inr (8, [.int 0, .int n, .ref h1, .int md, .ref h2, .int ch, .int sh, .int tp, .int lf, .int bt, .int rt])), (h1, .inl (cA, 1000, .inl f)), (h2, .inl (cB, 1000, .inl g))]) [0, 1, 2] (by decide) rfl
      have hKc := hK.sub (tys' := [(cA, .int), (cB, .int)]) [0, 1] rfl
      refine wk_v (β := Unit) (ok := fun _ => True) (wc := [(h0, .inr (8, [.int 0, .int n, .ref h1, .int md, .ref h2, .int ch, .int sh, .int tp, .int lf, .int bt, .int rt])), (h1, .inl (cA, 1000, .inl f)), (h2, .inl (cB, 1000, .inl g))]) (wr := []) (w1 := fun _ => [(h0, .inr (8, [.int 0, .int (n + 1), .ref h1, .int md, .ref h2, .int ch, .int sh, .int tp, .int lf, .int bt, .int rt])), (h1, .inl (cA, 1000, .inl (upd f n.toNatClampNeg x))), (h2, .inl (cB, 1000, .inl g))]) (ws2 := fun _ => [(h0, .inr (8, [.int 0, .int (n + 1), .ref h1, .int md, .ref h2, .int ch, .int sh, .int tp, .int lf, .int bt, .int rt])), (h1, .inl (cA, 1000, .inl (upd f n.toNatClampNeg x))), (h2, .inl (cB, 1000, .inl g))]) (va_runV (As := [.int x]) (rest := []) ⟨hx, hb, hml, hown, hts⟩ (kX10_put l D H.size h0 h1 h2 cA cB 0 n md ch sh tp lf bt rt f g x hn2) (cwV 1 hts gX10_other_X10_put rfl rfl rfl (by decide +kernel) ⟨Nat.le_of_ble_eq_true rfl, Nat.le_of_ble_eq_true rfl⟩) ⟨Pw_blind, (va_recv hKc hPc (ci := 8) (q0 := 0) rfl rfl), fun U hU hW => Pw_at hKc hPc hDc hN hU hW⟩ rfl rfl hl.1 rfl (lv_room (Nat.le_of_ble_eq_true rfl)) dX10_other_39 ⟨Nat.le_of_ble_eq_true rfl, Nat.le_of_ble_eq_true rfl⟩) hP hD hS hA [0, 1, 2] [] [0, 1, 2] rfl rfl (by decide) (by decide) (fun _ => rfl) (by decide) (fun _ _ H locs hP hD hS => ?_)
      have hP : va_P D vwCl [(h0, .inr (8, [.int 0, .int (n + 1), .ref h1, .int md, .ref h2, .int ch, .int sh, .int tp, .int lf, .int bt, .int rt])), (h1, .inl (cA, 1000, .inl (upd f n.toNatClampNeg x))), (h2, .inl (cB, 1000, .inl g))] H := hP
      have hD : va_D A [(h0, .inr (8, [.int 0, .int (n + 1), .ref h1, .int md, .ref h2, .int ch, .int sh, .int tp, .int lf, .int bt, .int rt])), (h1, .inl (cA, 1000, .inl (upd f n.toNatClampNeg x))), (h2, .inl (cB, 1000, .inl g))] := hD
      refine lv_iconst (v := 1) hx hb dX10_other_42 (by decide) ?_
      have hF : (fX10_other n f x) = (1, 0, (n + 1), (upd f n.toNatClampNeg x)) := by exact ((if_neg c12).trans (if_pos c16))
      subst hAe
      subst hQe
      exact W.zret (v := 1) hx hb hr rfl (fun t ht hW => ⟨⟨_, _, rfl, ⟨(), trivial, by rw [hF], by rw [hF]⟩, by rw [ht]; exact hP, hD⟩, hS.F ht⟩) hS.2.2 dX10_other_43
    · refine lv_iload_n hx hb dX10_other_19 rfl (lv_at hl 1 rfl) ?_
      refine lv_bipush (v := 16) hx hb dX10_other_20 (by decide) ?_
      refine lv_irem hx hb dX10_other_22 (by decide) ?_
      refine lv_iconst (v := 4) hx hb dX10_other_23 (by decide) ?_
      refine lv_icmp_eq (tgt := 35) hx hb dX10_other_24 (by decide) (fun c24 => ?_) (fun c24 => ?_)
      · refine lv_iconst (v := 0) hx hb dX10_other_35 (by decide) ?_
        have hF : (fX10_other n f x) = (0, 0, n, f) := by exact ((if_neg c12).trans ((if_neg c16).trans (if_pos c24)))
        subst hAe
        subst hQe
        exact W.zret (v := 0) hx hb hr rfl (fun t ht hW => ⟨⟨_, _, rfl, ⟨(), trivial, by rw [hF], by rw [hF]⟩, by rw [ht]; exact hP, hD⟩, hS.F ht⟩) hS.2.2 dX10_other_36
      · refine lv_iload_n hx hb dX10_other_27 rfl (lv_at hl 1 rfl) ?_
        refine lv_bipush (v := 16) hx hb dX10_other_28 (by decide) ?_
        refine lv_irem hx hb dX10_other_30 (by decide) ?_
        refine lv_iconst (v := 5) hx hb dX10_other_31 (by decide) ?_
        refine lv_icmp_ne (tgt := 37) hx hb dX10_other_32 (by decide) (fun c32 => ?_) (fun c32 => ?_)
        · refine lv_aload_n hx hb dX10_other_37 rfl (lv_at hl 0 rfl) ?_
          refine lv_iload_n hx hb dX10_other_38 rfl (lv_at hl 1 rfl) ?_
          have hPc := hP.sub (ws' := [(h0, .inr (8, [.int 0, .int n, .ref h1, .int md, .ref h2, .int ch, .int sh, .int tp, .int lf, .int bt, .int rt])), (h1, .inl (cA, 1000, .inl f)), (h2, .inl (cB, 1000, .inl g))]) [0, 1, 2] rfl
          have hDc := hD.sub (ws' := [(h0, .inr (8, [.int 0, .int n, .ref h1, .int md, .ref h2, .int ch, .int sh, .int tp, .int lf, .int bt, .int rt])), (h1, .inl (cA, 1000, .inl f)), (h2, .inl (cB, 1000, .inl g))]) [0, 1, 2] (by decide) rfl
          have hKc := hK.sub (tys' := [(cA, .int), (cB, .int)]) [0, 1] rfl
          refine wk_v (β := Unit) (ok := fun _ => True) (wc := [(h0, .inr (8, [.int 0, .int n, .ref h1, .int md, .ref h2, .int ch, .int sh, .int tp, .int lf, .int bt, .int rt])), (h1, .inl (cA, 1000, .inl f)), (h2, .inl (cB, 1000, .inl g))]) (wr := []) (w1 := fun _ => [(h0, .inr (8, [.int 0, .int (n + 1), .ref h1, .int md, .ref h2, .int ch, .int sh, .int tp, .int lf, .int bt, .int rt])), (h1, .inl (cA, 1000, .inl (upd f n.toNatClampNeg x))), (h2, .inl (cB, 1000, .inl g))]) (ws2 := fun _ => [(h0, .inr (8, [.int 0, .int (n + 1), .ref h1, .int md, .ref h2, .int ch, .int sh, .int tp, .int lf, .int bt, .int rt])), (h1, .inl (cA, 1000, .inl (upd f n.toNatClampNeg x))), (h2, .inl (cB, 1000, .inl g))]) (va_runV (As := [.int x]) (rest := []) ⟨hx, hb, hml, hown, hts⟩ (kX10_put l D H.size h0 h1 h2 cA cB 0 n md ch sh tp lf bt rt f g x hn2) (cwV 1 hts gX10_other_X10_put rfl rfl rfl (by decide +kernel) ⟨Nat.le_of_ble_eq_true rfl, Nat.le_of_ble_eq_true rfl⟩) ⟨Pw_blind, (va_recv hKc hPc (ci := 8) (q0 := 0) rfl rfl), fun U hU hW => Pw_at hKc hPc hDc hN hU hW⟩ rfl rfl hl.1 rfl (lv_room (Nat.le_of_ble_eq_true rfl)) dX10_other_39 ⟨Nat.le_of_ble_eq_true rfl, Nat.le_of_ble_eq_true rfl⟩) hP hD hS hA [0, 1, 2] [] [0, 1, 2] rfl rfl (by decide) (by decide) (fun _ => rfl) (by decide) (fun _ _ H locs hP hD hS => ?_)
          have hP : va_P D vwCl [(h0, .inr (8, [.int 0, .int (n + 1), .ref h1, .int md, .ref h2, .int ch, .int sh, .int tp, .int lf, .int bt, .int rt])), (h1, .inl (cA, 1000, .inl (upd f n.toNatClampNeg x))), (h2, .inl (cB, 1000, .inl g))] H := hP
          have hD : va_D A [(h0, .inr (8, [.int 0, .int (n + 1), .ref h1, .int md, .ref h2, .int ch, .int sh, .int tp, .int lf, .int bt, .int rt])), (h1, .inl (cA, 1000, .inl (upd f n.toNatClampNeg x))), (h2, .inl (cB, 1000, .inl g))] := hD
          refine lv_iconst (v := 1) hx hb dX10_other_42 (by decide) ?_
          have hF : (fX10_other n f x) = (1, 0, (n + 1), (upd f n.toNatClampNeg x)) := by exact ((if_neg c12).trans ((if_neg c16).trans ((if_neg c24).trans (if_neg c32))))
          subst hAe
          subst hQe
          exact W.zret (v := 1) hx hb hr rfl (fun t ht hW => ⟨⟨_, _, rfl, ⟨(), trivial, by rw [hF], by rw [hF]⟩, by rw [ht]; exact hP, hD⟩, hS.F ht⟩) hS.2.2 dX10_other_43
        · refine lv_iconst (v := 0) hx hb dX10_other_35 (by decide) ?_
          have hF : (fX10_other n f x) = (0, 0, n, f) := by exact ((if_neg c12).trans ((if_neg c16).trans ((if_neg c24).trans (if_pos c32))))
          subst hAe
          subst hQe
          exact W.zret (v := 0) hx hb hr rfl (fun t ht hW => ⟨⟨_, _, rfl, ⟨(), trivial, by rw [hF], by rw [hF]⟩, by rw [ht]; exact hP, hD⟩, hS.F ht⟩) hS.2.2 dX10_other_36

def fX10_place (n : Int32) (f : Nat → Int32) (p1 : Int32) (p2 : Int32) (p3 : Int32) (p4 : Int32) : Int32 × Int32 × Int32 × (Nat → Int32) := if (fX10_within p1 0 3) = 0 then (0, 0, n, f) else (if (fX10_within p2 (-1) 7) = 0 then (0, 0, n, f) else (if (fX10_isCell p3 p4) = 0 then (0, 0, n, f) else (if n ≤ 996 then ((1, 0, ((((n + 1) + 1) + 1) + 1), (upd (upd (upd (upd f n.toNatClampNeg (4 + (16 * p1))) (n + 1).toNatClampNeg p2) ((n + 1) + 1).toNatClampNeg p3) (((n + 1) + 1) + 1).toNatClampNeg p4))) else (0, 0, n, f))))
theorem zb_X10_place (n : Int32) (f : Nat → Int32) (p1 : Int32) (p2 : Int32) (p3 : Int32) (p4 : Int32) : isB (fX10_place n f p1 p2 p3 p4).1 := by
  unfold fX10_place
  (try dsimp only)
  repeat' split
  all_goals first | exact Or.inl rfl | exact Or.inr rfl
abbrev rmX10_place : Room := { frames := 2, cells := 0, slots := 0, locals := 43 }
abbrev qX10_place (D : va_G) (sz : Nat) (h0 : Nat) (h1 : Nat) (h2 : Nat) (cA : ClassId) (cB : ClassId) (cd : Int32) (n : Int32) (md : Int32) (ch : Int32) (sh : Int32) (tp : Int32) (lf : Int32) (bt : Int32) (rt : Int32) (f : Nat → Int32) (g : Nat → Int32) (p1 : Int32) (p2 : Int32) (p3 : Int32) (p4 : Int32) : Array Value → State → Outcome → State → Prop := va_Qi (fun r_9 w_9 => ∃ _u : Unit, True ∧ r_9 = (fX10_place n f p1 p2 p3 p4).1 ∧ w_9 = [(h0, .inr (8, [.int (fX10_place n f p1 p2 p3 p4).2.1, .int (fX10_place n f p1 p2 p3 p4).2.2.1, .ref h1, .int md, .ref h2, .int ch, .int sh, .int tp, .int lf, .int bt, .int rt])), (h1, .inl (cA, 1000, .inl (fX10_place n f p1 p2 p3 p4).2.2.2)), (h2, .inl (cB, 1000, .inl g))]) (Bq D (va_A [(h0, .inr (8, [.int cd, .int n, .ref h1, .int md, .ref h2, .int ch, .int sh, .int tp, .int lf, .int bt, .int rt])), (h1, .inl (cA, 1000, .inl f)), (h2, .inl (cB, 1000, .inl g))] sz)) (va_A [(h0, .inr (8, [.int cd, .int n, .ref h1, .int md, .ref h2, .int ch, .int sh, .int tp, .int lf, .int bt, .int rt])), (h1, .inl (cA, 1000, .inl f)), (h2, .inl (cB, 1000, .inl g))] sz)
set_option maxHeartbeats 4000000 in
set_option maxRecDepth 100000 in
theorem kX10_place (l : Launch) (D : va_G) (sz : Nat) (h0 : Nat) (h1 : Nat) (h2 : Nat) (cA : ClassId) (cB : ClassId) (cd : Int32) (n : Int32) (md : Int32) (ch : Int32) (sh : Int32) (tp : Int32) (lf : Int32) (bt : Int32) (rt : Int32) (f : Nat → Int32) (g : Nat → Int32) (p1 : Int32) (p2 : Int32) (p3 : Int32) (p4 : Int32) (hn : vp_in n 1001) : Met l yX10_place wsX10_place rmX10_place (va_Pc [.ref h0, .int p1, .int p2, .int p3, .int p4] (Pw D [(cA, .int), (cB, .int)] [(h0, .inr (8, [.int cd, .int n, .ref h1, .int md, .ref h2, .int ch, .int sh, .int tp, .int lf, .int bt, .int rt])), (h1, .inl (cA, 1000, .inl f)), (h2, .inl (cB, 1000, .inl g))] sz)) (qX10_place D sz h0 h1 h2 cA cB cd n md ch sh tp lf bt rt f g p1 p2 p3 p4) 0 0 (va_A [(h0, .inr (8, [.int cd, .int n, .ref h1, .int md, .ref h2, .int ch, .int sh, .int tp, .int lf, .int bt, .int rt])), (h1, .inl (cA, 1000, .inl f)), (h2, .inl (cB, 1000, .inl g))] sz) := by
  refine Met.ofW (cc := cX10_place) (maxL := 5) (ret := (some .boolean)) (by decide) rfl ?_
  intro p e s m args below meth c s₁ B hml hv
  obtain ⟨rfl, hsz, hP, hK, hD0, hN⟩ := hv
  have hx := B.exec
  have hb := B.bytes
  have hr := B.returns
  have hts := atoms_spec (ws := wsX10_place) B.pre
  have hown : s.vm.findClass RX10 = some m.cls := findClass_of_methodNamed B.named
  have hlocks := B.notSynchronized
  subst hsz
  obtain ⟨Q, hQe⟩ : ∃ Q, Q = MQ below (qX10_place D s.heap.size h0 h1 h2 cA cB cd n md ch sh tp lf bt rt f g p1 p2 p3 p4) ([.ref h0, .int p1, .int p2, .int p3, .int p4] : List Value).toArray s 0 0 (va_A [(h0, .inr (8, [.int cd, .int n, .ref h1, .int md, .ref h2, .int ch, .int sh, .int tp, .int lf, .int bt, .int rt])), (h1, .inl (cA, 1000, .inl f)), (h2, .inl (cB, 1000, .inl g))] s.heap.size) := ⟨_, rfl⟩
  rw [← hQe]
  obtain ⟨A, hAe⟩ : ∃ A, A = va_A [(h0, .inr (8, [.int cd, .int n, .ref h1, .int md, .ref h2, .int ch, .int sh, .int tp, .int lf, .int bt, .int rt])), (h1, .inl (cA, 1000, .inl f)), (h2, .inl (cB, 1000, .inl g))] s.heap.size := ⟨_, rfl⟩
  have hD : va_D A [(h0, .inr (8, [.int cd, .int n, .ref h1, .int md, .ref h2, .int ch, .int sh, .int tp, .int lf, .int bt, .int rt])), (h1, .inl (cA, 1000, .inl f)), (h2, .inl (cB, 1000, .inl g))] := by rw [hAe]; exact hD0.self
  have hA : ∀ q : Nat, s.heap.size ≤ q → A q := by rw [hAe]; exact mo_A
  have hS : va_S A s.heap s.heap [] := va_S.rf
  obtain ⟨H, hHe⟩ : ∃ H, H = s.heap := ⟨_, rfl⟩
  obtain ⟨locs, hLe⟩ : ∃ L : List Loc, L = [] := ⟨_, rfl⟩
  have hP : va_P D vwCl [(h0, .inr (8, [.int cd, .int n, .ref h1, .int md, .ref h2, .int ch, .int sh, .int tp, .int lf, .int bt, .int rt])), (h1, .inl (cA, 1000, .inl f)), (h2, .inl (cB, 1000, .inl g))] H := by rw [hHe]; exact hP
  have hS : va_S A s.heap H locs := by rw [hHe, hLe]; exact hS
  have hl := lv_entry ([.ref h0, .int p1, .int p2, .int p3, .int p4]) (n := 5) (Nat.le_of_ble_eq_true rfl)
  rw [lg_entry_eq]
  generalize (lg_sl ([.ref h0, .int p1, .int p2, .int p3, .int p4]) ++ List.replicate (5 - (lg_sl ([.ref h0, .int p1, .int p2, .int p3, .int p4])).length) Slot.unset).toArray = ls at hl ⊢
  have hl : lv_has ls 5 [(0, .ref h0), (1, .int p1), (2, .int p2), (3, .int p3), (4, .int p4)] := hl
  refine hStart hHe hLe ?_
  clear hHe hLe
  have w_X10 : ∀ w ∈ wsX100, w ∈ wsX10_place := by decide +kernel
  have f_29 := hts (.fieldLink RX10 29 "ReferenceMoverModel" "code" "I") (by decide +kernel)
  have f_32 := hts (.fieldLink RX10 32 "ReferenceMoverModel" "size" "I") (by decide +kernel)
  refine lv_aload_n hx hb dX10_place_0 rfl (lv_at hl 0 rfl) ?_
  refine lv_iconst (v := 0) hx hb dX10_place_1 (by decide) ?_
  refine va_put (D := D) (ci := 8) (v := .int 0) (ty := .int) (C := RX10) (T := TX10) (N := 11) hx hb hts w_X10 tyX10 tyX10_ok nmX10 hown hK hP hD hS 0 rfl rfl 0 (by decide) f_29 (fun _ h9 => h9) rfl (by decide +kernel) rfl rfl (Nat.le_of_ble_eq_true rfl) dX10_place_2 (fun H locs hP hD hS => ?_)
  have hP : va_P D vwCl [(h0, .inr (8, [.int 0, .int n, .ref h1, .int md, .ref h2, .int ch, .int sh, .int tp, .int lf, .int bt, .int rt])), (h1, .inl (cA, 1000, .inl f)), (h2, .inl (cB, 1000, .inl g))] H := hP
  have hD : va_D A [(h0, .inr (8, [.int 0, .int n, .ref h1, .int md, .ref h2, .int ch, .int sh, .int tp, .int lf, .int bt, .int rt])), (h1, .inl (cA, 1000, .inl f)), (h2, .inl (cB, 1000, .inl g))] := hD
  refine lv_iload_n hx hb dX10_place_5 rfl (lv_at hl 1 rfl) ?_
  refine lv_iconst (v := 0) hx hb dX10_place_6 (by decide) ?_
  refine lv_iconst (v := 3) hx hb dX10_place_7 (by decide) ?_
  have hPc := hP.sub (ws' := []) [] rfl
  have hDc := hD.sub (ws' := []) [] (by decide) rfl
  have hKc := hK.sub (tys' := []) [] rfl
  refine rd_i (va_runS (As := [.int p1, .int 0, .int 3]) (rest := []) ⟨hx, hb, hml, hown, hts⟩ (kX10_within l D H.size p1 0 3 ) (va_cwS 3 hts gX10_place_X10_within rfl rfl rfl (by decide +kernel) ⟨Nat.le_of_ble_eq_true rfl, Nat.le_of_ble_eq_true rfl⟩) ⟨Pw_blind, fun U hU hW => Pw_at hKc hPc hDc hN hU hW⟩ rfl rfl hl.1 rfl (lv_room (Nat.le_of_ble_eq_true rfl)) dX10_place_8 ⟨Nat.le_of_ble_eq_true rfl, Nat.le_of_ble_eq_true rfl⟩) ?_
  refine lv_if_eq (tgt := 43) hx hb dX10_place_11 (by decide) (fun c11 => ?_) (fun c11 => ?_)
  · refine lv_iconst (v := 0) hx hb dX10_place_43 (by decide) ?_
    have hF : (fX10_place n f p1 p2 p3 p4) = (0, 0, n, f) := by exact (if_pos c11)
    subst hAe
    subst hQe
    exact W.zret (v := 0) hx hb hr rfl (fun t ht hW => ⟨⟨_, _, rfl, ⟨(), trivial, by rw [hF], by rw [hF]⟩, by rw [ht]; exact hP, hD⟩, hS.F ht⟩) hS.2.2 dX10_place_44
  · refine lv_iload_n hx hb dX10_place_14 rfl (lv_at hl 2 rfl) ?_
    refine lv_iconst (v := (-1)) hx hb dX10_place_15 (by decide) ?_
    refine lv_bipush (v := 7) hx hb dX10_place_16 (by decide) ?_
    have hPc := hP.sub (ws' := []) [] rfl
    have hDc := hD.sub (ws' := []) [] (by decide) rfl
    have hKc := hK.sub (tys' := []) [] rfl
    refine rd_i (va_runS (As := [.int p2, .int (-1), .int 7]) (rest := []) ⟨hx, hb, hml, hown, hts⟩ (kX10_within l D H.size p2 (-1) 7 ) (va_cwS 3 hts gX10_place_X10_within rfl rfl rfl (by decide +kernel) ⟨Nat.le_of_ble_eq_true rfl, Nat.le_of_ble_eq_true rfl⟩) ⟨Pw_blind, fun U hU hW => Pw_at hKc hPc hDc hN hU hW⟩ rfl rfl hl.1 rfl (lv_room (Nat.le_of_ble_eq_true rfl)) dX10_place_18 ⟨Nat.le_of_ble_eq_true rfl, Nat.le_of_ble_eq_true rfl⟩) ?_
    refine lv_if_eq (tgt := 43) hx hb dX10_place_21 (by decide) (fun c21 => ?_) (fun c21 => ?_)
    · refine lv_iconst (v := 0) hx hb dX10_place_43 (by decide) ?_
      have hF : (fX10_place n f p1 p2 p3 p4) = (0, 0, n, f) := by exact ((if_neg c11).trans (if_pos c21))
      subst hAe
      subst hQe
      exact W.zret (v := 0) hx hb hr rfl (fun t ht hW => ⟨⟨_, _, rfl, ⟨(), trivial, by rw [hF], by rw [hF]⟩, by rw [ht]; exact hP, hD⟩, hS.F ht⟩) hS.2.2 dX10_place_44
    · refine lv_iload_n hx hb dX10_place_24 rfl (lv_at hl 3 rfl) ?_
      refine lv_iload hx hb dX10_place_25 (lv_at hl 4 rfl) ?_
      have hPc := hP.sub (ws' := []) [] rfl
      have hDc := hD.sub (ws' := []) [] (by decide) rfl
      have hKc := hK.sub (tys' := []) [] rfl
      refine rd_i (va_runS (As := [.int p3, .int p4]) (rest := []) ⟨hx, hb, hml, hown, hts⟩ (kX10_isCell l D H.size p3 p4 ) (va_cwS 2 hts gX10_place_X10_isCell rfl rfl rfl (by decide +kernel) ⟨Nat.le_of_ble_eq_true rfl, Nat.le_of_ble_eq_true rfl⟩) ⟨Pw_blind, fun U hU hW => Pw_at hKc hPc hDc hN hU hW⟩ rfl rfl hl.1 rfl (lv_room (Nat.le_of_ble_eq_true rfl)) dX10_place_27 ⟨Nat.le_of_ble_eq_true rfl, Nat.le_of_ble_eq_true rfl⟩) ?_
      refine lv_if_eq (tgt := 43) hx hb dX10_place_30 (by decide) (fun c30 => ?_) (fun c30 => ?_)
      · refine lv_iconst (v := 0) hx hb dX10_place_43 (by decide) ?_
        have hF : (fX10_place n f p1 p2 p3 p4) = (0, 0, n, f) := by exact ((if_neg c11).trans ((if_neg c21).trans (if_pos c30)))
        subst hAe
        subst hQe
        exact W.zret (v := 0) hx hb hr rfl (fun t ht hW => ⟨⟨_, _, rfl, ⟨(), trivial, by rw [hF], by rw [hF]⟩, by rw [ht]; exact hP, hD⟩, hS.F ht⟩) hS.2.2 dX10_place_44
      · refine lv_aload_n hx hb dX10_place_33 rfl (lv_at hl 0 rfl) ?_
        refine va_get (D := D) (ci := 8) (v := .int n) (C := RX10) (T := TX10) (N := 11) hx hb hts w_X10 hown hK hP 0 rfl rfl 1 (by decide) f_32 (fun _ h9 => h9) rfl dX10_place_34 ?_
        refine lv_sipush (v := 996) hx hb dX10_place_37 (by decide) ?_
        refine lv_icmp_le (tgt := 45) hx hb dX10_place_40 (by decide) (fun c40 => ?_) (fun c40 => ?_)
        · have hn2 : vp_in n 997 := in_le hn c40 (by decide)
          refine lv_aload_n hx hb dX10_place_45 rfl (lv_at hl 0 rfl) ?_
          refine lv_iconst (v := 4) hx hb dX10_place_46 (by decide) ?_
          refine lv_bipush (v := 16) hx hb dX10_place_47 (by decide) ?_
          refine lv_iload_n hx hb dX10_place_49 rfl (lv_at hl 1 rfl) ?_
          refine lv_imul hx hb dX10_place_50 ?_
          refine lv_iadd hx hb dX10_place_51 ?_
          have hPc := hP.sub (ws' := [(h0, .inr (8, [.int 0, .int n, .ref h1, .int md, .ref h2, .int ch, .int sh, .int tp, .int lf, .int bt, .int rt])), (h1, .inl (cA, 1000, .inl f)), (h2, .inl (cB, 1000, .inl g))]) [0, 1, 2] rfl
          have hDc := hD.sub (ws' := [(h0, .inr (8, [.int 0, .int n, .ref h1, .int md, .ref h2, .int ch, .int sh, .int tp, .int lf, .int bt, .int rt])), (h1, .inl (cA, 1000, .inl f)), (h2, .inl (cB, 1000, .inl g))]) [0, 1, 2] (by decide) rfl
          have hKc := hK.sub (tys' := [(cA, .int), (cB, .int)]) [0, 1] rfl
          refine wk_v (β := Unit) (ok := fun _ => True) (wc := [(h0, .inr (8, [.int 0, .int n, .ref h1, .int md, .ref h2, .int ch, .int sh, .int tp, .int lf, .int bt, .int rt])), (h1, .inl (cA, 1000, .inl f)), (h2, .inl (cB, 1000, .inl g))]) (wr := []) (w1 := fun _ => [(h0, .inr (8, [.int 0, .int (n + 1), .ref h1, .int md, .ref h2, .int ch, .int sh, .int tp, .int lf, .int bt, .int rt])), (h1, .inl (cA, 1000, .inl (upd f n.toNatClampNeg (4 + (16 * p1))))), (h2, .inl (cB, 1000, .inl g))]) (ws2 := fun _ => [(h0, .inr (8, [.int 0, .int (n + 1), .ref h1, .int md, .ref h2, .int ch, .int sh, .int tp, .int lf, .int bt, .int rt])), (h1, .inl (cA, 1000, .inl (upd f n.toNatClampNeg (4 + (16 * p1))))), (h2, .inl (cB, 1000, .inl g))]) (va_runV (As := [.int (4 + (16 * p1))]) (rest := []) ⟨hx, hb, hml, hown, hts⟩ (kX10_put l D H.size h0 h1 h2 cA cB 0 n md ch sh tp lf bt rt f g (4 + (16 * p1)) (in_w hn2 (by decide))) (cwV 1 hts gX10_place_X10_put rfl rfl rfl (by decide +kernel) ⟨Nat.le_of_ble_eq_true rfl, Nat.le_of_ble_eq_true rfl⟩) ⟨Pw_blind, (va_recv hKc hPc (ci := 8) (q0 := 0) rfl rfl), fun U hU hW => Pw_at hKc hPc hDc hN hU hW⟩ rfl rfl hl.1 rfl (lv_room (Nat.le_of_ble_eq_true rfl)) dX10_place_52 ⟨Nat.le_of_ble_eq_true rfl, Nat.le_of_ble_eq_true rfl⟩) hP hD hS hA [0, 1, 2] [] [0, 1, 2] rfl rfl (by decide) (by decide) (fun _ => rfl) (by decide) (fun _ _ H locs hP hD hS => ?_)
          have hP : va_P D vwCl [(h0, .inr (8, [.int 0, .int (n + 1), .ref h1, .int md, .ref h2, .int ch, .int sh, .int tp, .int lf, .int bt, .int rt])), (h1, .inl (cA, 1000, .inl (upd f n.toNatClampNeg (4 + (16 * p1))))), (h2, .inl (cB, 1000, .inl g))] H := hP
          have hD : va_D A [(h0, .inr (8, [.int 0, .int (n + 1), .ref h1, .int md, .ref h2, .int ch, .int sh, .int tp, .int lf, .int bt, .int rt])), (h1, .inl (cA, 1000, .inl (upd f n.toNatClampNeg (4 + (16 * p1))))), (h2, .inl (cB, 1000, .inl g))] := hD
          refine lv_aload_n hx hb dX10_place_55 rfl (lv_at hl 0 rfl) ?_
          refine lv_iload_n hx hb dX10_place_56 rfl (lv_at hl 2 rfl) ?_
          have hPc := hP.sub (ws' := [(h0, .inr (8, [.int 0, .int (n + 1), .ref h1, .int md, .ref h2, .int ch, .int sh, .int tp, .int lf, .int bt, .int rt])), (h1, .inl (cA, 1000, .inl (upd f n.toNatClampNeg (4 + (16 * p1))))), (h2, .inl (cB, 1000, .inl g))]) [0, 1, 2] rfl
          have hDc := hD.sub (ws' := [(h0, .inr (8, [.int 0, .int (n + 1), .ref h1, .int md, .ref h2, .int ch, .int sh, .int tp, .int lf, .int bt, .int rt])), (h1, .inl (cA, 1000, .inl (upd f n.toNatClampNeg (4 + (16 * p1))))), (h2, .inl (cB, 1000, .inl g))]) [0, 1, 2] (by decide) rfl
          have hKc := hK.sub (tys' := [(cA, .int), (cB, .int)]) [0, 1] rfl
          refine wk_v (β := Unit) (ok := fun _ => True) (wc := [(h0, .inr (8, [.int 0, .int (n + 1), .ref h1, .int md, .ref h2, .int ch, .int sh, .int tp, .int lf, .int bt, .int rt])), (h1, .inl (cA, 1000, .inl (upd f n.toNatClampNeg (4 + (16 * p1))))), (h2, .inl (cB, 1000, .inl g))]) (wr := []) (w1 := fun _ => [(h0, .inr (8, [.int 0, .int ((n + 1) + 1), .ref h1, .int md, .ref h2, .int ch, .int sh, .int tp, .int lf, .int bt, .int rt])), (h1, .inl (cA, 1000, .inl (upd (upd f n.toNatClampNeg (4 + (16 * p1))) (n + 1).toNatClampNeg p2))), (h2, .inl (cB, 1000, .inl g))]) (ws2 := fun _ => [(h0, .inr (8, [.int 0, .int ((n + 1) + 1), .ref h1, .int md, .ref h2, .int ch, .int sh, .int tp, .int lf, .int bt, .int rt])), (h1, .inl (cA, 1000, .inl (upd (upd f n.toNatClampNeg (4 + (16 * p1))) (n + 1).toNatClampNeg p2))), (h2, .inl (cB, 1000, .inl g))]) (va_runV (As := [.int p2]) (rest := []) ⟨hx, hb, hml, hown, hts⟩ (kX10_put l D H.size h0 h1 h2 cA cB 0 (n + 1) md ch sh tp lf bt rt (upd f n.toNatClampNeg (4 + (16 * p1))) g p2 (in_add (c := 1) (n := 1000) hn2 (by decide) (by decide) (by decide))) (cwV 1 hts gX10_place_X10_put rfl rfl rfl (by decide +kernel) ⟨Nat.le_of_ble_eq_true rfl, Nat.le_of_ble_eq_true rfl⟩) ⟨Pw_blind, (va_recv hKc hPc (ci := 8) (q0 := 0) rfl rfl), fun U hU hW => Pw_at hKc hPc hDc hN hU hW⟩ rfl rfl hl.1 rfl (lv_room (Nat.le_of_ble_eq_true rfl)) dX10_place_57 ⟨Nat.le_of_ble_eq_true rfl, Nat.le_of_ble_eq_true rfl⟩) hP hD hS hA [0, 1, 2] [] [0, 1, 2] rfl rfl (by decide) (by decide) (fun _ => rfl) (by decide) (fun _ _ H locs hP hD hS => ?_)
          have hP : va_P D vwCl [(h0, .inr (8, [.int 0, .int ((n + 1) + 1), .ref h1, .int md, .ref h2, .int ch, .int sh, .int tp, .int lf, .int bt, .int rt])), (h1, .inl (cA, 1000, .inl (upd (upd f n.toNatClampNeg (4 + (16 * p1))) (n + 1).toNatClampNeg p2))), (h2, .inl (cB, 1000, .inl g))] H := hP
          have hD : va_D A [(h0, .inr (8, [.int 0, .int ((n + 1) + 1), .ref h1, .int md, .ref h2, .int ch, .int sh, .int tp, .int lf, .int bt, .int rt])), (h1, .inl (cA, 1000, .inl (upd (upd f n.toNatClampNeg (4 + (16 * p1))) (n + 1).toNatClampNeg p2))), (h2, .inl (cB, 1000, .inl g))] := hD
          refine lv_aload_n hx hb dX10_place_60 rfl (lv_at hl 0 rfl) ?_
          refine lv_iload_n hx hb dX10_place_61 rfl (lv_at hl 3 rfl) ?_
          have hPc := hP.sub (ws' := [(h0, .inr (8, [.int 0, .int ((n + 1) + 1), .ref h1, .int md, .ref h2, .int ch, .int sh, .int tp, .int lf, .int bt, .int rt])), (h1, .inl (cA, 1000, .inl (upd (upd f n.toNatClampNeg (4 + (16 * p1))) (n + 1).toNatClampNeg p2))), (h2, .inl (cB, 1000, .inl g))]) [0, 1, 2] rfl
          have hDc := hD.sub (ws' := [(h0, .inr (8, [.int 0, .int ((n + 1) + 1), .ref h1, .int md, .ref h2, .int ch, .int sh, .int tp, .int lf, .int bt, .int rt])), (h1, .inl (cA, 1000, .inl (upd (upd f n.toNatClampNeg (4 + (16 * p1))) (n + 1).toNatClampNeg p2))), (h2, .inl (cB, 1000, .inl g))]) [0, 1, 2] (by decide) rfl
          have hKc := hK.sub (tys' := [(cA, .int), (cB, .int)]) [0, 1] rfl
          refine wk_v (β := Unit) (ok := fun _ => True) (wc := [(h0, .inr (8, [.int 0, .int ((n + 1) + 1), .ref h1, .int md, .ref h2, .int ch, .int sh, .int tp, .int lf, .int bt, .int rt])), (h1, .inl (cA, 1000, .inl (upd (upd f n.toNatClampNeg (4 + (16 * p1))) (n + 1).toNatClampNeg p2))), (h2, .inl (cB, 1000, .inl g))]) (wr := []) (w1 := fun _ => [(h0, .inr (8, [.int 0, .int (((n + 1) + 1) + 1), .ref h1, .int md, .ref h2, .int ch, .int sh, .int tp, .int lf, .int bt, .int rt])), (h1, .inl (cA, 1000, .inl (upd (upd (upd f n.toNatClampNeg (4 + (16 * p1))) (n + 1).toNatClampNeg p2) ((n + 1) + 1).toNatClampNeg p3))), (h2, .inl (cB, 1000, .inl g))]) (ws2 := fun _ => [(h0, .inr (8, [.int 0, .int (((n + 1) + 1) + 1), .ref h1, .int md, .ref h2, .int ch, .int sh, .int tp, .int lf, .int bt, .int rt])), (h1, .inl (cA, 1000, .inl (upd (upd (upd f n.toNatClampNeg (4 + (16 * p1))) (n + 1).toNatClampNeg p2) ((n + 1) + 1).toNatClampNeg p3))), (h2, .inl (cB, 1000, .inl g))]) (va_runV (As := [.int p3]) (rest := []) ⟨hx, hb, hml, hown, hts⟩ (kX10_put l D H.size h0 h1 h2 cA cB 0 ((n + 1) + 1) md ch sh tp lf bt rt (upd (upd f n.toNatClampNeg (4 + (16 * p1))) (n + 1).toNatClampNeg p2) g p3 (in_add (c := 1) (n := 1000) (in_add (c := 1) (n := 998) hn2 (by decide) (by decide) (by decide)) (by decide) (by decide) (by decide))) (cwV 1 hts gX10_place_X10_put rfl rfl rfl (by decide +kernel) ⟨Nat.le_of_ble_eq_true rfl, Nat.le_of_ble_eq_true rfl⟩) ⟨Pw_blind, (va_recv hKc hPc (ci := 8) (q0 := 0) rfl rfl), fun U hU hW => Pw_at hKc hPc hDc hN hU hW⟩ rfl rfl hl.1 rfl (lv_room (Nat.le_of_ble_eq_true rfl)) dX10_place_62 ⟨Nat.le_of_ble_eq_true rfl, Nat.le_of_ble_eq_true rfl⟩) hP hD hS hA [0, 1, 2] [] [0, 1, 2] rfl rfl (by decide) (by decide) (fun _ => rfl) (by decide) (fun _ _ H locs hP hD hS => ?_)
          have hP : va_P D vwCl [(h0, .inr (8, [.int 0, .int (((n + 1) + 1) + 1), .ref h1, .int md, .ref h2, .int ch, .int sh, .int tp, .int lf, .int bt, .int rt])), (h1, .inl (cA, 1000, .inl (upd (upd (upd f n.toNatClampNeg (4 + (16 * p1))) (n + 1).toNatClampNeg p2) ((n + 1) + 1).toNatClampNeg p3))), (h2, .inl (cB, 1000, .inl g))] H := hP
          have hD : va_D A [(h0, .inr (8, [.int 0, .int (((n + 1) + 1) + 1), .ref h1, .int md, .ref h2, .int ch, .int sh, .int tp, .int lf, .int bt, .int rt])), (h1, .inl (cA, 1000, .inl (upd (upd (upd f n.toNatClampNeg (4 + (16 * p1))) (n + 1).toNatClampNeg p2) ((n + 1) + 1).toNatClampNeg p3))), (h2, .inl (cB, 1000, .inl g))] := hD
          refine lv_aload_n hx hb dX10_place_65 rfl (lv_at hl 0 rfl) ?_
          refine lv_iload hx hb dX10_place_66 (lv_at hl 4 rfl) ?_
          have hPc := hP.sub (ws' := [(h0, .inr (8, [.int 0, .int (((n + 1) + 1) + 1), .ref h1, .int md, .ref h2, .int ch, .int sh, .int tp, .int lf, .int bt, .int rt])), (h1, .inl (cA, 1000, .inl (upd (upd (upd f n.toNatClampNeg (4 + (16 * p1))) (n + 1).toNatClampNeg p2) ((n + 1) + 1).toNatClampNeg p3))), (h2, .inl (cB, 1000, .inl g))]) [0, 1, 2] rfl
          have hDc := hD.sub (ws' := [(h0, .inr (8, [.int 0, .int (((n + 1) + 1) + 1), .ref h1, .int md, .ref h2, .int ch, .int sh, .int tp, .int lf, .int bt, .int rt])), (h1, .inl (cA, 1000, .inl (upd (upd (upd f n.toNatClampNeg (4 + (16 * p1))) (n + 1).toNatClampNeg p2) ((n + 1) + 1).toNatClampNeg p3))), (h2, .inl (cB, 1000, .inl g))]) [0, 1, 2] (by decide) rfl
          have hKc := hK.sub (tys' := [(cA, .int), (cB, .int)]) [0, 1] rfl
          refine wk_v (β := Unit) (ok := fun _ => True) (wc := [(h0, .inr (8, [.int 0, .int (((n + 1) + 1) + 1), .ref h1, .int md, .ref h2, .int ch, .int sh, .int tp, .int lf, .int bt, .int rt])), (h1, .inl (cA, 1000, .inl (upd (upd (upd f n.toNatClampNeg (4 + (16 * p1))) (n + 1).toNatClampNeg p2) ((n + 1) + 1).toNatClampNeg p3))), (h2, .inl (cB, 1000, .inl g))]) (wr := []) (w1 := fun _ => [(h0, .inr (8, [.int 0, .int ((((n + 1) + 1) + 1) + 1), .ref h1, .int md, .ref h2, .int ch, .int sh, .int tp, .int lf, .int bt, .int rt])), (h1, .inl (cA, 1000, .inl (upd (upd (upd (upd f n.toNatClampNeg (4 + (16 * p1))) (n + 1).toNatClampNeg p2) ((n + 1) + 1).toNatClampNeg p3) (((n + 1) + 1) + 1).toNatClampNeg p4))), (h2, .inl (cB, 1000, .inl g))]) (ws2 := fun _ => [(h0, .inr (8, [.int 0, .int ((((n + 1) + 1) + 1) + 1), .ref h1, .int md, .ref h2, .int ch, .int sh, .int tp, .int lf, .int bt, .int rt])), (h1, .inl (cA, 1000, .inl (upd (upd (upd (upd f n.toNatClampNeg (4 + (16 * p1))) (n + 1).toNatClampNeg p2) ((n + 1) + 1).toNatClampNeg p3) (((n + 1) + 1) + 1).toNatClampNeg p4))), (h2, .inl (cB, 1000, .inl g))]) (va_runV (As := [.int p4]) (rest := []) ⟨hx, hb, hml, hown, hts⟩ (kX10_put l D H.size h0 h1 h2 cA cB 0 (((n + 1) + 1) + 1) md ch sh tp lf bt rt (upd (upd (upd f n.toNatClampNeg (4 + (16 * p1))) (n + 1).toNatClampNeg p2) ((n + 1) + 1).toNatClampNeg p3) g p4 (in_add (c := 1) (n := 1000) (in_add (c := 1) (n := 999) (in_add (c := 1) (n := 998) hn2 (by decide) (by decide) (by decide)) (by decide) (by decide) (by decide)) (by decide) (by decide) (by decide))) (cwV 1 hts gX10_place_X10_put rfl rfl rfl (by decide +kernel) ⟨Nat.le_of_ble_eq_true rfl, Nat.le_of_ble_eq_true rfl⟩) ⟨Pw_blind, (va_recv hKc hPc (ci := 8) (q0 := 0) rfl rfl), fun U hU hW => Pw_at hKc hPc hDc hN hU hW⟩ rfl rfl hl.1 rfl (lv_room (Nat.le_of_ble_eq_true rfl)) dX10_place_68 ⟨Nat.le_of_ble_eq_true rfl, Nat.le_of_ble_eq_true rfl⟩) hP hD hS hA [0, 1, 2] [] [0, 1, 2] rfl rfl (by decide) (by decide) (fun _ => rfl) (by decide) (fun _ _ H locs hP hD hS => ?_)
          have hP : va_P D vwCl [(h0, .inr (8, [.int 0, .int ((((n + 1) + 1) + 1) + 1), .ref h1, .int md, .ref h2, .int ch, .int sh, .int tp, .int lf, .int bt, .int rt])), (h1, .inl (cA, 1000, .inl (upd (upd (upd (upd f n.toNatClampNeg (4 + (16 * p1))) (n + 1).toNatClampNeg p2) ((n + 1) + 1).toNatClampNeg p3) (((n + 1) + 1) + 1).toNatClampNeg p4))), (h2, .inl (cB, 1000, .inl g))] H := hP
          have hD : va_D A [(h0, .inr (8, [.int 0, .int ((((n + 1) + 1) + 1) + 1), .ref h1, .int md, .ref h2, .int ch, .int sh, .int tp, .int lf, .int bt, .int rt])), (h1, .inl (cA, 1000, .inl (upd (upd (upd (upd f n.toNatClampNeg (4 + (16 * p1))) (n + 1).toNatClampNeg p2) ((n + 1) + 1).toNatClampNeg p3) (((n + 1) + 1) + 1).toNatClampNeg p4))), (h2, .inl (cB, 1000, .inl g))] := hD
          refine lv_iconst (v := 1) hx hb dX10_place_71 (by decide) ?_
          have hF : (fX10_place n f p1 p2 p3 p4) = (1, 0, ((((n + 1) + 1) + 1) + 1), (upd (upd (upd (upd f n.toNatClampNeg (4 + (16 * p1))) (n + 1).toNatClampNeg p2) ((n + 1) + 1).toNatClampNeg p3) (((n + 1) + 1) + 1).toNatClampNeg p4)) := by exact ((if_neg c11).trans ((if_neg c21).trans ((if_neg c30).trans (if_pos c40))))
          subst hAe
          subst hQe
          exact W.zret (v := 1) hx hb hr rfl (fun t ht hW => ⟨⟨_, _, rfl, ⟨(), trivial, by rw [hF], by rw [hF]⟩, by rw [ht]; exact hP, hD⟩, hS.F ht⟩) hS.2.2 dX10_place_72
        · refine lv_iconst (v := 0) hx hb dX10_place_43 (by decide) ?_
          have hF : (fX10_place n f p1 p2 p3 p4) = (0, 0, n, f) := by exact ((if_neg c11).trans ((if_neg c21).trans ((if_neg c30).trans (if_neg c40))))
          subst hAe
          subst hQe
          exact W.zret (v := 0) hx hb hr rfl (fun t ht hW => ⟨⟨_, _, rfl, ⟨(), trivial, by rw [hF], by rw [hF]⟩, by rw [ht]; exact hP, hD⟩, hS.F ht⟩) hS.2.2 dX10_place_44

def fX10_range (n : Int32) (f : Nat → Int32) (p1 : Int32) (p2 : Int32) (p3 : Int32) (p4 : Int32) (p5 : Int32) (p6 : Int32) : Int32 × Int32 × Int32 × (Nat → Int32) := let v_1 : Int32 := (if (p1 &&& 16) = 16 then (if p3 = 1 then (if p5 = 1048576 then 0 else 1) else 1) else 0); let v_2 : Int32 := (if (p1 &&& 32) = 32 then (if p4 = 1 then (if p6 = 16384 then 0 else 1) else 1) else 0); if (fX10_within p1 0 47) = 0 then (0, 0, n, f) else (if v_1 = 0 then (if v_2 = 0 then (if (fX10_within p2 (-1) 7) = 0 then (0, 0, n, f) else (if (fX10_isCell p3 p4) = 0 then (0, 0, n, f) else (if (fX10_isCell p5 p6) = 0 then (0, 0, n, f) else (if p5 < p3 then (0, 0, n, f) else (if p6 < p4 then (0, 0, n, f) else (if n ≤ 994 then ((1, 0, ((((((n + 1) + 1) + 1) + 1) + 1) + 1), (upd (upd (upd (upd (upd (upd f n.toNatClampNeg (5 + (16 * p1))) (n + 1).toNatClampNeg p2) ((n + 1) + 1).toNatClampNeg p3) (((n + 1) + 1) + 1).toNatClampNeg p4) ((((n + 1) + 1) + 1) + 1).toNatClampNeg p5) (((((n + 1) + 1) + 1) + 1) + 1).toNatClampNeg p6))) else (0, 0, n, f))))))) else (0, 0, n, f)) else (0, 0, n, f))
theorem zb_X10_range (n : Int32) (f : Nat → Int32) (p1 : Int32) (p2 : Int32) (p3 : Int32) (p4 : Int32) (p5 : Int32) (p6 : Int32) : isB (fX10_range n f p1 p2 p3 p4 p5 p6).1 := by
  unfold fX10_range
  (try dsimp only)
  repeat' split
  all_goals first | exact Or.inl rfl | exact Or.inr rfl
abbrev rmX10_range : Room := { frames := 2, cells := 0, slots := 0, locals := 43 }
abbrev qX10_range (D : va_G) (sz : Nat) (h0 : Nat) (h1 : Nat) (h2 : Nat) (cA : ClassId) (cB : ClassId) (cd : Int32) (n : Int32) (md : Int32) (ch : Int32) (sh : Int32) (tp : Int32) (lf : Int32) (bt : Int32) (rt : Int32) (f : Nat → Int32) (g : Nat → Int32) (p1 : Int32) (p2 : Int32) (p3 : Int32) (p4 : Int32) (p5 : Int32) (p6 : Int32) : Array Value → State → Outcome → State → Prop := va_Qi (fun r_9 w_9 => ∃ _u : Unit, True ∧ r_9 = (fX10_range n f p1 p2 p3 p4 p5 p6).1 ∧ w_9 = [(h0, .inr (8, [.int (fX10_range n f p1 p2 p3 p4 p5 p6).2.1, .int (fX10_range n f p1 p2 p3 p4 p5 p6).2.2.1, .ref h1, .int md, .ref h2, .int ch, .int sh, .int tp, .int lf, .int bt, .int rt])), (h1, .inl (cA, 1000, .inl (fX10_range n f p1 p2 p3 p4 p5 p6).2.2.2)), (h2, .inl (cB, 1000, .inl g))]) (Bq D (va_A [(h0, .inr (8, [.int cd, .int n, .ref h1, .int md, .ref h2, .int ch, .int sh, .int tp, .int lf, .int bt, .int rt])), (h1, .inl (cA, 1000, .inl f)), (h2, .inl (cB, 1000, .inl g))] sz)) (va_A [(h0, .inr (8, [.int cd, .int n, .ref h1, .int md, .ref h2, .int ch, .int sh, .int tp, .int lf, .int bt, .int rt])), (h1, .inl (cA, 1000, .inl f)), (h2, .inl (cB, 1000, .inl g))] sz)
set_option maxHeartbeats 4000000 in
set_option maxRecDepth 100000 in
theorem kX10_range (l : Launch) (D : va_G) (sz : Nat) (h0 : Nat) (h1 : Nat) (h2 : Nat) (cA : ClassId) (cB : ClassId) (cd : Int32) (n : Int32) (md : Int32) (ch : Int32) (sh : Int32) (tp : Int32) (lf : Int32) (bt : Int32) (rt : Int32) (f : Nat → Int32) (g : Nat → Int32) (p1 : Int32) (p2 : Int32) (p3 : Int32) (p4 : Int32) (p5 : Int32) (p6 : Int32) (hn : vp_in n 1001) : Met l yX10_range wsX10_range rmX10_range (va_Pc [.ref h0, .int p1, .int p2, .int p3, .int p4, .int p5, .int p6] (Pw D [(cA, .int), (cB, .int)] [(h0, .inr (8, [.int cd, .int n, .ref h1, .int md, .ref h2, .int ch, .int sh, .int tp, .int lf, .int bt, .int rt])), (h1, .inl (cA, 1000, .inl f)), (h2, .inl (cB, 1000, .inl g))] sz)) (qX10_range D sz h0 h1 h2 cA cB cd n md ch sh tp lf bt rt f g p1 p2 p3 p4 p5 p6) 0 0 (va_A [(h0, .inr (8, [.int cd, .int n, .ref h1, .int md, .ref h2, .int ch, .int sh, .int tp, .int lf, .int bt, .int rt])), (h1, .inl (cA, 1000, .inl f)), (h2, .inl (cB, 1000, .inl g))] sz) := by
  refine Met.ofW (cc := cX10_range) (maxL := 9) (ret := (some .boolean)) (by decide) rfl ?_
  intro p e s m args below meth c s₁ B hml hv
  obtain ⟨rfl, hsz, hP, hK, hD0, hN⟩ := hv
  have hx := B.exec
  have hb := B.bytes
  have hr := B.returns
  have hts := atoms_spec (ws := wsX10_range) B.pre
  have hown : s.vm.findClass RX10 = some m.cls := findClass_of_methodNamed B.named
  have hlocks := B.notSynchronized
  subst hsz
  obtain ⟨Q, hQe⟩ : ∃ Q, Q = MQ below (qX10_range D s.heap.size h0 h1 h2 cA cB cd n md ch sh tp lf bt rt f g p1 p2 p3 p4 p5 p6) ([.ref h0, .int p1, .int p2, .int p3, .int p4, .int p5, .int p6] : List Value).toArray s 0 0 (va_A [(h0, .inr (8, [.int cd, .int n, .ref h1, .int md, .ref h2, .int ch, .int sh, .int tp, .int lf, .int bt, .int rt])), (h1, .inl (cA, 1000, .inl f)), (h2, .inl (cB, 1000, .inl g))] s.heap.size) := ⟨_, rfl⟩
  rw [← hQe]
  obtain ⟨A, hAe⟩ : ∃ A, A = va_A [(h0, .inr (8, [.int cd, .int n, .ref h1, .int md, .ref h2, .int ch, .int sh, .int tp, .int lf, .int bt, .int rt])), (h1, .inl (cA, 1000, .inl f)), (h2, .inl (cB, 1000, .inl g))] s.heap.size := ⟨_, rfl⟩
  have hD : va_D A [(h0, .inr (8, [.int cd, .int n, .ref h1, .int md, .ref h2, .int ch, .int sh, .int tp, .int lf, .int bt, .int rt])), (h1, .inl (cA, 1000, .inl f)), (h2, .inl (cB, 1000, .inl g))] := by rw [hAe]; exact hD0.self
  have hA : ∀ q : Nat, s.heap.size ≤ q → A q := by rw [hAe]; exact mo_A
  have hS : va_S A s.heap s.heap [] := va_S.rf
  obtain ⟨H, hHe⟩ : ∃ H, H = s.heap := ⟨_, rfl⟩
  obtain ⟨locs, hLe⟩ : ∃ L : List Loc, L = [] := ⟨_, rfl⟩
  have hP : va_P D vwCl [(h0, .inr (8, [.int cd, .int n, .ref h1, .int md, .ref h2, .int ch, .int sh, .int tp, .int lf, .int bt, .int rt])), (h1, .inl (cA, 1000, .inl f)), (h2, .inl (cB, 1000, .inl g))] H := by rw [hHe]; exact hP
  have hS : va_S A s.heap H locs := by rw [hHe, hLe]; exact hS
  have hl := lv_entry ([.ref h0, .int p1, .int p2, .int p3, .int p4, .int p5, .int p6]) (n := 9) (Nat.le_of_ble_eq_true rfl)
  rw [lg_entry_eq]
  generalize (lg_sl ([.ref h0, .int p1, .int p2, .int p3, .int p4, .int p5, .int p6]) ++ List.replicate (9 - (lg_sl ([.ref h0, .int p1, .int p2, .int p3, .int p4, .int p5, .int p6])).length) Slot.unset).toArray = ls at hl ⊢
  have hl : lv_has ls 9 [(0, .ref h0), (1, .int p1), (2, .int p2), (3, .int p3), (4, .int p4), (5, .int p5), (6, .int p6)] := hl
  refine hStart hHe hLe ?_
  clear hHe hLe
  have w_X10 : ∀ w ∈ wsX100, w ∈ wsX10_range := by decide +kernel
  have f_29 := hts (.fieldLink RX10 29 "ReferenceMoverModel" "code" "I") (by decide +kernel)
  have k_39 := hts (.constant RX10 39 (1048576)) (by decide +kernel)
  have f_32 := hts (.fieldLink RX10 32 "ReferenceMoverModel" "size" "I") (by decide +kernel)
  refine lv_aload_n hx hb dX10_range_0 rfl (lv_at hl 0 rfl) ?_
  refine lv_iconst (v := 0) hx hb dX10_range_1 (by decide) ?_
  refine va_put (D := D) (ci := 8) (v := .int 0) (ty := .int) (C := RX10) (T := TX10) (N := 11) hx hb hts w_X10 tyX10 tyX10_ok nmX10 hown hK hP hD hS 0 rfl rfl 0 (by decide) f_29 (fun _ h9 => h9) rfl (by decide +kernel) rfl rfl (Nat.le_of_ble_eq_true rfl) dX10_range_2 (fun H locs hP hD hS => ?_)
  have hP : va_P D vwCl [(h0, .inr (8, [.int 0, .int n, .ref h1, .int md, .ref h2, .int ch, .int sh, .int tp, .int lf, .int bt, .int rt])), (h1, .inl (cA, 1000, .inl f)), (h2, .inl (cB, 1000, .inl g))] H := hP
  have hD : va_D A [(h0, .inr (8, [.int 0, .int n, .ref h1, .int md, .ref h2, .int ch, .int sh, .int tp, .int lf, .int bt, .int rt])), (h1, .inl (cA, 1000, .inl f)), (h2, .inl (cB, 1000, .inl g))] := hD
  refine lv_iload_n hx hb dX10_range_5 rfl (lv_at hl 1 rfl) ?_
  refine lv_bipush (v := 16) hx hb dX10_range_6 (by decide) ?_
  refine lv_iand hx hb dX10_range_8 ?_
  refine lv_bipush (v := 16) hx hb dX10_range_9 (by decide) ?_
  have K31_1 : ∀ (v_1 : Int32), v_1 = (if (p1 &&& 16) = 16 then (if p3 = 1 then (if p5 = 1048576 then 0 else 1) else 1) else 0) → ∀ ls : Array Slot, lv_has ls 9 [(0, .ref h0), (1, .int p1), (2, .int p2), (3, .int p3), (4, .int p4), (5, .int p5), (6, .int p6)] → W p l e (headSpec wsX10_range rmX10_range).room s m ([.ref h0, .int p1, .int p2, .int p3, .int p4, .int p5, .int p6] : List Value).toArray below meth c H locs 0 0 Q (F0 m 31 ls [.int v_1]) := by
    intro v_1 ev_1 ls hl
    refine lv_istore (lv' := [(7, .int v_1), (0, .ref h0), (1, .int p1), (2, .int p2), (3, .int p3), (4, .int p4), (5, .int p5), (6, .int p6)]) hx hb dX10_range_31 hl (by decide) rfl (fun ls hl => ?_)
    refine lv_iload_n hx hb dX10_range_33 rfl (lv_at hl 2 rfl) ?_
    refine lv_bipush (v := 32) hx hb dX10_range_34 (by decide) ?_
    refine lv_iand hx hb dX10_range_36 ?_
    refine lv_bipush (v := 32) hx hb dX10_range_37 (by decide) ?_
    have K61_2 : ∀ (v_2 : Int32), v_2 = (if (p1 &&& 32) = 32 then (if p4 = 1 then (if p6 = 16384 then 0 else 1) else 1) else 0) → ∀ ls : Array Slot, lv_has ls 9 [(0, .ref h0), (1, .int p1), (2, .int p2), (3, .int p3), (4, .int p4), (5, .int p5), (6, .int p6), (7, .int v_1)] → W p l e (headSpec wsX10_range rmX10_range).room s m ([.ref h0, .int p1, .int p2, .int p3, .int p4, .int p5, .int p6] : List Value).toArray below meth c H locs 0 0 Q (F0 m 61 ls [.int v_2]) := by
      intro v_2 ev_2 ls hl
      refine lv_istore (lv' := [(8, .int v_2), (0, .ref h0), (1, .int p1), (2, .int p2), (3, .int p3), (4, .int p4), (5, .int p5), (6, .int p6), (7, .int v_1)]) hx hb dX10_range_61 hl (by decide) rfl (fun ls hl => ?_)
      refine lv_iload_n hx hb dX10_range_63 rfl (lv_at hl 2 rfl) ?_
      refine lv_iconst (v := 0) hx hb dX10_range_64 (by decide) ?_
      refine lv_bipush (v := 47) hx hb dX10_range_65 (by decide) ?_
      have hPc := hP.sub (ws' := []) [] rfl
      have hDc := hD.sub (ws' := []) [] (by decide) rfl
      have hKc := hK.sub (tys' := []) [] rfl
      refine rd_i (va_runS (As := [.int p1, .int 0, .int 47]) (rest := []) ⟨hx, hb, hml, hown, hts⟩ (kX10_within l D H.size p1 0 47 ) (va_cwS 3 hts gX10_range_X10_within rfl rfl rfl (by decide +kernel) ⟨Nat.le_of_ble_eq_true rfl, Nat.le_of_ble_eq_true rfl⟩) ⟨Pw_blind, fun U hU hW => Pw_at hKc hPc hDc hN hU hW⟩ rfl rfl hl.1 rfl (lv_room (Nat.le_of_ble_eq_true rfl)) dX10_range_67 ⟨Nat.le_of_ble_eq_true rfl, Nat.le_of_ble_eq_true rfl⟩) ?_
      refine lv_if_eq (tgt := 135) hx hb dX10_range_70 (by decide) (fun c70 => ?_) (fun c70 => ?_)
      · refine lv_iconst (v := 0) hx hb dX10_range_135 (by decide) ?_
        have hF : (fX10_range n f p1 p2 p3 p4 p5 p6) = (0, 0, n, f) := by subst ev_2; subst ev_1; exact (if_pos c70)
        subst hAe
        subst hQe
        exact W.zret (v := 0) hx hb hr rfl (fun t ht hW => ⟨⟨_, _, rfl, ⟨(), trivial, by rw [hF], by rw [hF]⟩, by rw [ht]; exact hP, hD⟩, hS.F ht⟩) hS.2.2 dX10_range_136
      · refine lv_iload hx hb dX10_range_73 (lv_at hl 8 rfl) ?_
        refine lv_if_ne (tgt := 135) hx hb dX10_range_75 (by decide) (fun c75 => ?_) (fun c75 => ?_)
        · refine lv_iconst (v := 0) hx hb dX10_range_135 (by decide) ?_
          have hF : (fX10_range n f p1 p2 p3 p4 p5 p6) = (0, 0, n, f) := by subst ev_2; subst ev_1; exact ((if_neg c70).trans (if_neg c75))
          subst hAe
          subst hQe
          exact W.zret (v := 0) hx hb hr rfl (fun t ht hW => ⟨⟨_, _, rfl, ⟨(), trivial, by rw [hF], by rw [hF]⟩, by rw [ht]; exact hP, hD⟩, hS.F ht⟩) hS.2.2 dX10_range_136
        · refine lv_iload hx hb dX10_range_78 (lv_at hl 0 rfl) ?_
          refine lv_if_ne (tgt := 135) hx hb dX10_range_80 (by decide) (fun c80 => ?_) (fun c80 => ?_)
          · refine lv_iconst (v := 0) hx hb dX10_range_135 (by decide) ?_
            have hF : (fX10_range n f p1 p2 p3 p4 p5 p6) = (0, 0, n, f) := by subst ev_2; subst ev_1; exact ((if_neg c70).trans ((if_pos c75).trans (if_neg c80)))
            subst hAe
            subst hQe
            exact W.zret (v := 0) hx hb hr rfl (fun t ht hW => ⟨⟨_, _, rfl, ⟨(), trivial, by rw [hF], by rw [hF]⟩, by rw [ht]; exact hP, hD⟩, hS.F ht⟩) hS.2.2 dX10_range_136
          · refine lv_iload_n hx hb dX10_range_83 rfl (lv_at hl 3 rfl) ?_
            refine lv_iconst (v := (-1)) hx hb dX10_range_84 (by decide) ?_
            refine lv_bipush (v := 7) hx hb dX10_range_85 (by decide) ?_
            have hPc := hP.sub (ws' := []) [] rfl
            have hDc := hD.sub (ws' := []) [] (by decide) rfl
            have hKc := hK.sub (tys' := []) [] rfl
            refine rd_i (va_runS (As := [.int p2, .int (-1), .int 7]) (rest := []) ⟨hx, hb, hml, hown, hts⟩ (kX10_within l D H.size p2 (-1) 7 ) (va_cwS 3 hts gX10_range_X10_within rfl rfl rfl (by decide +kernel) ⟨Nat.le_of_ble_eq_true rfl, Nat.le_of_ble_eq_true rfl⟩) ⟨Pw_blind, fun U hU hW => Pw_at hKc hPc hDc hN hU hW⟩ rfl rfl hl.1 rfl (lv_room (Nat.le_of_ble_eq_true rfl)) dX10_range_87 ⟨Nat.le_of_ble_eq_true rfl, Nat.le_of_ble_eq_true rfl⟩) ?_
            refine lv_if_eq (tgt := 135) hx hb dX10_range_90 (by decide) (fun c90 => ?_) (fun c90 => ?_)
            · refine lv_iconst (v := 0) hx hb dX10_range_135 (by decide) ?_
              have hF : (fX10_range n f p1 p2 p3 p4 p5 p6) = (0, 0, n, f) := by subst ev_2; subst ev_1; exact ((if_neg c70).trans ((if_pos c75).trans ((if_pos c80).trans (if_pos c90))))
              subst hAe
              subst hQe
              exact W.zret (v := 0) hx hb hr rfl (fun t ht hW => ⟨⟨_, _, rfl, ⟨(), trivial, by rw [hF], by rw [hF]⟩, by rw [ht]; exact hP, hD⟩, hS.F ht⟩) hS.2.2 dX10_range_136
            · refine lv_iload_n hx hb dX10_range_93 rfl (lv_at hl 4 rfl) ?_
              refine lv_iload hx hb dX10_range_94 (lv_at hl 5 rfl) ?_
              have hPc := hP.sub (ws' := []) [] rfl
              have hDc := hD.sub (ws' := []) [] (by decide) rfl
              have hKc := hK.sub (tys' := []) [] rfl
              refine rd_i (va_runS (As := [.int p3, .int p4]) (rest := []) ⟨hx, hb, hml, hown, hts⟩ (kX10_isCell l D H.size p3 p4 ) (va_cwS 2 hts gX10_range_X10_isCell rfl rfl rfl (by decide +kernel) ⟨Nat.le_of_ble_eq_true rfl, Nat.le_of_ble_eq_true rfl⟩) ⟨Pw_blind, fun U hU hW => Pw_at hKc hPc hDc hN hU hW⟩ rfl rfl hl.1 rfl (lv_room (Nat.le_of_ble_eq_true rfl)) dX10_range_96 ⟨Nat.le_of_ble_eq_true rfl, Nat.le_of_ble_eq_true rfl⟩) ?_
              refine lv_if_eq (tgt := 135) hx hb dX10_range_99 (by decide) (fun c99 => ?_) (fun c99 => ?_)
              · refine lv_iconst (v := 0) hx hb dX10_range_135 (by decide) ?_
                have hF : (fX10_range n f p1 p2 p3 p4 p5 p6) = (0, 0, n, f) := by subst ev_2; subst ev_1; exact ((if_neg c70).trans ((if_pos c75).trans ((if_pos c80).trans ((if_neg c90).trans (if_pos c99)))))
                subst hAe
                subst hQe
                exact W.zret (v := 0) hx hb hr rfl (fun t ht hW => ⟨⟨_, _, rfl, ⟨(), trivial, by rw [hF], by rw [hF]⟩, by rw [ht]; exact hP, hD⟩, hS.F ht⟩) hS.2.2 dX10_range_136
              · refine lv_iload hx hb dX10_range_102 (lv_at hl 6 rfl) ?_
                refine lv_iload hx hb dX10_range_104 (lv_at hl 7 rfl) ?_
                have hPc := hP.sub (ws' := []) [] rfl
                have hDc := hD.sub (ws' := []) [] (by decide) rfl
                have hKc := hK.sub (tys' := []) [] rfl
                refine rd_i (va_runS (As := [.int p5, .int p6]) (rest := []) ⟨hx, hb, hml, hown, hts⟩ (kX10_isCell l D H.size p5 p6 ) (va_cwS 2 hts gX10_range_X10_isCell rfl rfl rfl (by decide +kernel) ⟨Nat.le_of_ble_eq_true rfl, Nat.le_of_ble_eq_true rfl⟩) ⟨Pw_blind, fun U hU hW => Pw_at hKc hPc hDc hN hU hW⟩ rfl rfl hl.1 rfl (lv_room (Nat.le_of_ble_eq_true rfl)) dX10_range_106 ⟨Nat.le_of_ble_eq_true rfl, Nat.le_of_ble_eq_true rfl⟩) ?_
                refine lv_if_eq (tgt := 135) hx hb dX10_range_109 (by decide) (fun c109 => ?_) (fun c109 => ?_)
                · refine lv_iconst (v := 0) hx hb dX10_range_135 (by decide) ?_
                  have hF : (fX10_range n f p1 p2 p3 p4 p5 p6) = (0, 0, n, f) := by subst ev_2; subst ev_1; exact ((if_neg c70).trans ((if_pos c75).trans ((if_pos c80).trans ((if_neg c90).trans ((if_neg c99).trans (if_pos c109))))))
                  subst hAe
                  subst hQe
                  exact W.zret (v := 0) hx hb hr rfl (fun t ht hW => ⟨⟨_, _, rfl, ⟨(), trivial, by rw [hF], by rw [hF]⟩, by rw [ht]; exact hP, hD⟩, hS.F ht⟩) hS.2.2 dX10_range_136
                · refine lv_iload hx hb dX10_range_112 (lv_at hl 6 rfl) ?_
                  refine lv_iload_n hx hb dX10_range_114 rfl (lv_at hl 4 rfl) ?_
                  refine lv_icmp_lt (tgt := 135) hx hb dX10_range_115 (by decide) (fun c115 => ?_) (fun c115 => ?_)
                  · refine lv_iconst (v := 0) hx hb dX10_range_135 (by decide) ?_
                    have hF : (fX10_range n f p1 p2 p3 p4 p5 p6) = (0, 0, n, f) := by subst ev_2; subst ev_1; exact ((if_neg c70).trans ((if_pos c75).trans ((if_pos c80).trans ((if_neg c90).trans ((if_neg c99).trans ((if_neg c109).trans (if_pos c115)))))))
                    subst hAe
                    subst hQe
                    exact W.zret (v := 0) hx hb hr rfl (fun t ht hW => ⟨⟨_, _, rfl, ⟨(), trivial, by rw [hF], by rw [hF]⟩, by rw [ht]; exact hP, hD⟩, hS.F ht⟩) hS.2.2 dX10_range_136
                  · refine lv_iload hx hb dX10_range_118 (lv_at hl 7 rfl) ?_
                    refine lv_iload hx hb dX10_range_120 (lv_at hl 5 rfl) ?_
                    refine lv_icmp_lt (tgt := 135) hx hb dX10_range_122 (by decide) (fun c122 => ?_) (fun c122 => ?_)
                    · refine lv_iconst (v := 0) hx hb dX10_range_135 (by decide) ?_
                      have hF : (fX10_range n f p1 p2 p3 p4 p5 p6) = (0, 0, n, f) := by subst ev_2; subst ev_1; exact ((if_neg c70).trans ((if_pos c75).trans ((if_pos c80).trans ((if_neg c90).trans ((if_neg c99).trans ((if_neg c109).trans ((if_neg c115).trans (if_pos c122))))))))
                      subst hAe
                      subst hQe
                      exact W.zret (v := 0) hx hb hr rfl (fun t ht hW => ⟨⟨_, _, rfl, ⟨(), trivial, by rw [hF], by rw [hF]⟩, by rw [ht]; exact hP, hD⟩, hS.F ht⟩) hS.2.2 dX10_range_136
                    · refine lv_aload_n hx hb dX10_range_125 rfl (lv_at hl 1 rfl) ?_
                      refine va_get (D := D) (ci := 8) (v := .int n) (C := RX10) (T := TX10) (N := 11) hx hb hts w_X10 hown hK hP 0 rfl rfl 1 (by decide) f_32 (fun _ h9 => h9) rfl dX10_range_126 ?_
                      refine lv_sipush (v := 994) hx hb dX10_range_129 (by decide) ?_
                      refine lv_icmp_le (tgt := 137) hx hb dX10_range_132 (by decide) (fun c132 => ?_) (fun c132 => ?_)
                      · have hn2 : vp_in n 995 := in_le hn c132 (by decide)
                        refine lv_aload_n hx hb dX10_range_137 rfl (lv_at hl 1 rfl) ?_
                        refine lv_iconst (v := 5) hx hb dX10_range_138 (by decide) ?_
                        refine lv_bipush (v := 16) hx hb dX10_range_139 (by decide) ?_
                        refine lv_iload_n hx hb dX10_range_141 rfl (lv_at hl 2 rfl) ?_
                        refine lv_imul hx hb dX10_range_142 ?_
                        refine lv_iadd hx hb dX10_range_143 ?_
                        have hPc := hP.sub (ws' := [(h0, .inr (8, [.int 0, .int n, .ref h1, .int md, .ref h2, .int ch, .int sh, .int tp, .int lf, .int bt, .int rt])), (h1, .inl (cA, 1000, .inl f)), (h2, .inl (cB, 1000, .inl g))]) [0, 1, 2] rfl
                        have hDc := hD.sub (ws' := [(h0, .inr (8, [.int 0, .int n, .ref h1, .int md, .ref h2, .int ch, .int sh, .int tp, .int lf, .int bt, .int rt])), (h1, .inl (cA, 1000, .inl f)), (h2, .inl (cB, 1000, .inl g))]) [0, 1, 2] (by decide) rfl
                        have hKc := hK.sub (tys' := [(cA, .int), (cB, .int)]) [0, 1] rfl
                        refine wk_v (β := Unit) (ok := fun _ => True) (wc := [(h0, .inr (8, [.int 0, .int n, .ref h1, .int md, .ref h2, .int ch, .int sh, .int tp, .int lf, .int bt, .int rt])), (h1, .inl (cA, 1000, .inl f)), (h2, .inl (cB, 1000, .inl g))]) (wr := []) (w1 := fun _ => [(h0, .inr (8, [.int 0, .int (n + 1), .ref h1, .int md, .ref h2, .int ch, .int sh, .int tp, .int lf, .int bt, .int rt])), (h1, .inl (cA, 1000, .inl (upd f n.toNatClampNeg (5 + (16 * p1))))), (h2, .inl (cB, 1000, .inl g))]) (ws2 := fun _ => [(h0, .inr (8, [.int 0, .int (n + 1), .ref h1, .int md, .ref h2, .int ch, .int sh, .int tp, .int lf, .int bt, .int rt])), (h1, .inl (cA, 1000, .inl (upd f n.toNatClampNeg (5 + (16 * p1))))), (h2, .inl (cB, 1000, .inl g))]) (va_runV (As := [.int (5 + (16 * p1))]) (rest := []) ⟨hx, hb, hml, hown, hts⟩ (kX10_put l D H.size h0 h1 h2 cA cB 0 n md ch sh tp lf bt rt f g (5 + (16 * p1)) (in_w hn2 (by decide))) (cwV 1 hts gX10_range_X10_put rfl rfl rfl (by decide +kernel) ⟨Nat.le_of_ble_eq_true rfl, Nat.le_of_ble_eq_true rfl⟩) ⟨Pw_blind, (va_recv hKc hPc (ci := 8) (q0 := 0) rfl rfl), fun U hU hW => Pw_at hKc hPc hDc hN hU hW⟩ rfl rfl hl.1 rfl (lv_room (Nat.le_of_ble_eq_true rfl)) dX10_range_144 ⟨Nat.le_of_ble_eq_true rfl, Nat.le_of_ble_eq_true rfl⟩) hP hD hS hA [0, 1, 2] [] [0, 1, 2] rfl rfl (by decide) (by decide) (fun _ => rfl) (by decide) (fun _ _ H locs hP hD hS => ?_)
                        have hP : va_P D vwCl [(h0, .inr (8, [.int 0, .int (n + 1), .ref h1, .int md, .ref h2, .int ch, .int sh, .int tp, .int lf, .int bt, .int rt])), (h1, .inl (cA, 1000, .inl (upd f n.toNatClampNeg (5 + (16 * p1))))), (h2, .inl (cB, 1000, .inl g))] H := hP
                        have hD : va_D A [(h0, .inr (8, [.int 0, .int (n + 1), .ref h1, .int md, .ref h2, .int ch, .int sh, .int tp, .int lf, .int bt, .int rt])), (h1, .inl (cA, 1000, .inl (upd f n.toNatClampNeg (5 + (16 * p1))))), (h2, .inl (cB, 1000, .inl g))] := hD
                        refine lv_aload_n hx hb dX10_range_147 rfl (lv_at hl 1 rfl) ?_
                        refine lv_iload_n hx hb dX10_range_148 rfl (lv_at hl 3 rfl) ?_
                        have hPc := hP.sub (ws' := [(h0, .inr (8, [.int 0, .int (n + 1), .ref h1, .int md, .ref h2, .int ch, .int sh, .int tp, .int lf, .int bt, .int rt])), (h1, .inl (cA, 1000, .inl (upd f n.toNatClampNeg (5 + (16 * p1))))), (h2, .inl (cB, 1000, .inl g))]) [0, 1, 2] rfl
                        have hDc := hD.sub (ws' := [(h0, .inr (8, [.int 0, .int (n + 1), .ref h1, .int md, .ref h2, .int ch, .int sh, .int tp, .int lf, .int bt, .int rt])), (h1, .inl (cA, 1000, .inl (upd f n.toNatClampNeg (5 + (16 * p1))))), (h2, .inl (cB, 1000, .inl g))]) [0, 1, 2] (by decide) rfl
                        have hKc := hK.sub (tys' := [(cA, .int), (cB, .int)]) [0, 1] rfl
                        refine wk_v (β := Unit) (ok := fun _ => True) (wc := [(h0, .inr (8, [.int 0, .int (n + 1), .ref h1, .int md, .ref h2, .int ch, .int sh, .int tp, .int lf, .int bt, .int rt])), (h1, .inl (cA, 1000, .inl (upd f n.toNatClampNeg (5 + (16 * p1))))), (h2, .inl (cB, 1000, .inl g))]) (wr := []) (w1 := fun _ => [(h0, .inr (8, [.int 0, .int ((n + 1) + 1), .ref h1, .int md, .ref h2, .int ch, .int sh, .int tp, .int lf, .int bt, .int rt])), (h1, .inl (cA, 1000, .inl (upd (upd f n.toNatClampNeg (5 + (16 * p1))) (n + 1).toNatClampNeg p2))), (h2, .inl (cB, 1000, .inl g))]) (ws2 := fun _ => [(h0, .inr (8, [.int 0, .int ((n + 1) + 1), .ref h1, .int md, .ref h2, .int ch, .int sh, .int tp, .int lf, .int bt, .int rt])), (h1, .inl (cA, 1000, .inl (upd (upd f n.toNatClampNeg (5 + (16 * p1))) (n + 1).toNatClampNeg p2))), (h2, .inl (cB, 1000, .inl g))]) (va_runV (As := [.int p2]) (rest := []) ⟨hx, hb, hml, hown, hts⟩ (kX10_put l D H.size h0 h1 h2 cA cB 0 (n + 1) md ch sh tp lf bt rt (upd f n.toNatClampNeg (5 + (16 * p1))) g p2 (in_add (c := 1) (n := 1000) hn2 (by decide) (by decide) (by decide))) (cwV 1 hts gX10_range_X10_put rfl rfl rfl (by decide +kernel) ⟨Nat.le_of_ble_eq_true rfl, Nat.le_of_ble_eq_true rfl⟩) ⟨Pw_blind, (va_recv hKc hPc (ci := 8) (q0 := 0) rfl rfl), fun U hU hW => Pw_at hKc hPc hDc hN hU hW⟩ rfl rfl hl.1 rfl (lv_room (Nat.le_of_ble_eq_true rfl)) dX10_range_149 ⟨Nat.le_of_ble_eq_true rfl, Nat.le_of_ble_eq_true rfl⟩) hP hD hS hA [0, 1, 2] [] [0, 1, 2] rfl rfl (by decide) (by decide) (fun _ => rfl) (by decide) (fun _ _ H locs hP hD hS => ?_)
                        have hP : va_P D vwCl [(h0, .inr (8, [.int 0, .int ((n + 1) + 1), .ref h1, .int md, .ref h2, .int ch, .int sh, .int tp, .int lf, .int bt, .int rt])), (h1, .inl (cA, 1000, .inl (upd (upd f n.toNatClampNeg (5 + (16 * p1))) (n + 1).toNatClampNeg p2))), (h2, .inl (cB, 1000, .inl g))] H := hP
                        have hD : va_D A [(h0, .inr (8, [.int 0, .int ((n + 1) + 1), .ref h1, .int md, .ref h2, .int ch, .int sh, .int tp, .int lf, .int bt, .int rt])), (h1, .inl (cA, 1000, .inl (upd (upd f n.toNatClampNeg (5 + (16 * p1))) (n + 1).toNatClampNeg p2))), (h2, .inl (cB, 1000, .inl g))] := hD
                        refine lv_aload_n hx hb dX10_range_152 rfl (lv_at hl 1 rfl) ?_
                        refine lv_iload_n hx hb dX10_range_153 rfl (lv_at hl 4 rfl) ?_
                        have hPc := hP.sub (ws' := [(h0, .inr (8, [.int 0, .int ((n + 1) + 1), .ref h1, .int md, .ref h2, .int ch, .int sh, .int tp, .int lf, .int bt, .int rt])), (h1, .inl (cA, 1000, .inl (upd (upd f n.toNatClampNeg (5 + (16 * p1))) (n + 1).toNatClampNeg p2))), (h2, .inl (cB, 1000, .inl g))]) [0, 1, 2] rfl
                        have hDc := hD.sub (ws' := [(h0, .inr (8, [.int 0, .int ((n + 1) + 1), .ref h1, .int md, .ref h2, .int ch, .int sh, .int tp, .int lf, .int bt, .int rt])), (h1, .inl (cA, 1000, .inl (upd (upd f n.toNatClampNeg (5 + (16 * p1))) (n + 1).toNatClampNeg p2))), (h2, .inl (cB, 1000, .inl g))]) [0, 1, 2] (by decide) rfl
                        have hKc := hK.sub (tys' := [(cA, .int), (cB, .int)]) [0, 1] rfl
                        refine wk_v (β := Unit) (ok := fun _ => True) (wc := [(h0, .inr (8, [.int 0, .int ((n + 1) + 1), .ref h1, .int md, .ref h2, .int ch, .int sh, .int tp, .int lf, .int bt, .int rt])), (h1, .inl (cA, 1000, .inl (upd (upd f n.toNatClampNeg (5 + (16 * p1))) (n + 1).toNatClampNeg p2))), (h2, .inl (cB, 1000, .inl g))]) (wr := []) (w1 := fun _ => [(h0, .inr (8, [.int 0, .int (((n + 1) + 1) + 1), .ref h1, .int md, .ref h2, .int ch, .int sh, .int tp, .int lf, .int bt, .int rt])), (h1, .inl (cA, 1000, .inl (upd (upd (upd f n.toNatClampNeg (5 + (16 * p1))) (n + 1).toNatClampNeg p2) ((n + 1) + 1).toNatClampNeg p3))), (h2, .inl (cB, 1000, .inl g))]) (ws2 := fun _ => [(h0, .inr (8, [.int 0, .int (((n + 1) + 1) + 1), .ref h1, .int md, .ref h2, .int ch, .int sh, .int tp, .int lf, .int bt, .int rt])), (h1, .inl (cA, 1000, .inl (upd (upd (upd f n.toNatClampNeg (5 + (16 * p1))) (n + 1).toNatClampNeg p2) ((n + 1) + 1).toNatClampNeg p3))), (h2, .inl (cB, 1000, .inl g))]) (va_runV (As := [.int p3]) (rest := []) ⟨hx, hb, hml, hown, hts⟩ (kX10_put l D H.size h0 h1 h2 cA cB 0 ((n + 1) + 1) md ch sh tp lf bt rt (upd (upd f n.toNatClampNeg (5 + (16 * p1))) (n + 1).toNatClampNeg p2) g p3 (in_add (c := 1) (n := 1000) (in_add (c := 1) (n := 996) hn2 (by decide) (by decide) (by decide)) (by decide) (by decide) (by decide))) (cwV 1 hts gX10_range_X10_put rfl rfl rfl (by decide +kernel) ⟨Nat.le_of_ble_eq_true rfl, Nat.le_of_ble_eq_true rfl⟩) ⟨Pw_blind, (va_recv hKc hPc (ci := 8) (q0 := 0) rfl rfl), fun U hU hW => Pw_at hKc hPc hDc hN hU hW⟩ rfl rfl hl.1 rfl (lv_room (Nat.le_of_ble_eq_true rfl)) dX10_range_154 ⟨Nat.le_of_ble_eq_true rfl, Nat.le_of_ble_eq_true rfl⟩) hP hD hS hA [0, 1, 2] [] [0, 1, 2] rfl rfl (by decide) (by decide) (fun _ => rfl) (by decide) (fun _ _ H locs hP hD hS => ?_)
                        have hP : va_P D vwCl [(h0, .inr (8, [.int 0, .int (((n + 1) + 1) + 1), .ref h1, .int md, .ref h2, .int ch, .int sh, .int tp, .int lf, .int bt, .int rt])), (h1, .inl (cA, 1000, .inl (upd (upd (upd f n.toNatClampNeg (5 + (16 * p1))) (n + 1).toNatClampNeg p2) ((n + 1) + 1).toNatClampNeg p3))), (h2, .inl (cB, 1000, .inl g))] H := hP
                        have hD : va_D A [(h0, .inr (8, [.int 0, .int (((n + 1) + 1) + 1), .ref h1, .int md, .ref h2, .int ch, .int sh, .int tp, .int lf, .int bt, .int rt])), (h1, .inl (cA, 1000, .inl (upd (upd (upd f n.toNatClampNeg (5 + (16 * p1))) (n + 1).toNatClampNeg p2) ((n + 1) + 1).toNatClampNeg p3))), (h2, .inl (cB, 1000, .inl g))] := hD
                        refine lv_aload_n hx hb dX10_range_157 rfl (lv_at hl 1 rfl) ?_
                        refine lv_iload hx hb dX10_range_158 (lv_at hl 5 rfl) ?_
                        have hPc := hP.sub (ws' := [(h0, .inr (8, [.int 0, .int (((n + 1) + 1) + 1), .ref h1, .int md, .ref h2, .int ch, .int sh, .int tp, .int lf, .int bt, .int rt])), (h1, .inl (cA, 1000, .inl (upd (upd (upd f n.toNatClampNeg (5 + (16 * p1))) (n + 1).toNatClampNeg p2) ((n + 1) + 1).toNatClampNeg p3))), (h2, .inl (cB, 1000, .inl g))]) [0, 1, 2] rfl
                        have hDc := hD.sub (ws' := [(h0, .inr (8, [.int 0, .int (((n + 1) + 1) + 1), .ref h1, .int md, .ref h2, .int ch, .int sh, .int tp, .int lf, .int bt, .int rt])), (h1, .inl (cA, 1000, .inl (upd (upd (upd f n.toNatClampNeg (5 + (16 * p1))) (n + 1).toNatClampNeg p2) ((n + 1) + 1).toNatClampNeg p3))), (h2, .inl (cB, 1000, .inl g))]) [0, 1, 2] (by decide) rfl
                        have hKc := hK.sub (tys' := [(cA, .int), (cB, .int)]) [0, 1] rfl
                        refine wk_v (β := Unit) (ok := fun _ => True) (wc := [(h0, .inr (8, [.int 0, .int (((n + 1) + 1) + 1), .ref h1, .int md, .ref h2, .int ch, .int sh, .int tp, .int lf, .int bt, .int rt])), (h1, .inl (cA, 1000, .inl (upd (upd (upd f n.toNatClampNeg (5 + (16 * p1))) (n + 1).toNatClampNeg p2) ((n + 1) + 1).toNatClampNeg p3))), (h2, .inl (cB, 1000, .inl g))]) (wr := []) (w1 := fun _ => [(h0, .inr (8, [.int 0, .int ((((n + 1) + 1) + 1) + 1), .ref h1, .int md, .ref h2, .int ch, .int sh, .int tp, .int lf, .int bt, .int rt])), (h1, .inl (cA, 1000, .inl (upd (upd (upd (upd f n.toNatClampNeg (5 + (16 * p1))) (n + 1).toNatClampNeg p2) ((n + 1) + 1).toNatClampNeg p3) (((n + 1) + 1) + 1).toNatClampNeg p4))), (h2, .inl (cB, 1000, .inl g))]) (ws2 := fun _ => [(h0, .inr (8, [.int 0, .int ((((n + 1) + 1) + 1) + 1), .ref h1, .int md, .ref h2, .int ch, .int sh, .int tp, .int lf, .int bt, .int rt])), (h1, .inl (cA, 1000, .inl (upd (upd (upd (upd f n.toNatClampNeg (5 + (16 * p1))) (n + 1).toNatClampNeg p2) ((n + 1) + 1).toNatClampNeg p3) (((n + 1) + 1) + 1).toNatClampNeg p4))), (h2, .inl (cB, 1000, .inl g))]) (va_runV (As := [.int p4]) (rest := []) ⟨hx, hb, hml, hown, hts⟩ (kX10_put l D H.size h0 h1 h2 cA cB 0 (((n + 1) + 1) + 1) md ch sh tp lf bt rt (upd (upd (upd f n.toNatClampNeg (5 + (16 * p1))) (n + 1).toNatClampNeg p2) ((n + 1) + 1).toNatClampNeg p3) g p4 (in_add (c := 1) (n := 1000) (in_add (c := 1) (n := 997) (in_add (c := 1) (n := 996) hn2 (by decide) (by decide) (by decide)) (by decide) (by decide) (by decide)) (by decide) (by decide) (by decide))) (cwV 1 hts gX10_range_X10_put rfl rfl rfl (by decide +kernel) ⟨Nat.le_of_ble_eq_true rfl, Nat.le_of_ble_eq_true rfl⟩) ⟨Pw_blind, (va_recv hKc hPc (ci := 8) (q0 := 0) rfl rfl), fun U hU hW => Pw_at hKc hPc hDc hN hU hW⟩ rfl rfl hl.1 rfl (lv_room (Nat.le_of_ble_eq_true rfl)) dX10_range_160 ⟨Nat.le_of_ble_eq_true rfl, Nat.le_of_ble_eq_true rfl⟩) hP hD hS hA [0, 1, 2] [] [0, 1, 2] rfl rfl (by decide) (by decide) (fun _ => rfl) (by decide) (fun _ _ H locs hP hD hS => ?_)
                        have hP : va_P D vwCl [(h0, .inr (8, [.int 0, .int ((((n + 1) + 1) + 1) + 1), .ref h1, .int md, .ref h2, .int ch, .int sh, .int tp, .int lf, .int bt, .int rt])), (h1, .inl (cA, 1000, .inl (upd (upd (upd (upd f n.toNatClampNeg (5 + (16 * p1))) (n + 1).toNatClampNeg p2) ((n + 1) + 1).toNatClampNeg p3) (((n + 1) + 1) + 1).toNatClampNeg p4))), (h2, .inl (cB, 1000, .inl g))] H := hP
                        have hD : va_D A [(h0, .inr (8, [.int 0, .int ((((n + 1) + 1) + 1) + 1), .ref h1, .int md, .ref h2, .int ch, .int sh, .int tp, .int lf, .int bt, .int rt])), (h1, .inl (cA, 1000, .inl (upd (upd (upd (upd f n.toNatClampNeg (5 + (16 * p1))) (n + 1).toNatClampNeg p2) ((n + 1) + 1).toNatClampNeg p3) (((n + 1) + 1) + 1).toNatClampNeg p4))), (h2, .inl (cB, 1000, .inl g))] := hD
                        refine lv_aload_n hx hb dX10_range_163 rfl (lv_at hl 1 rfl) ?_
                        refine lv_iload hx hb dX10_range_164 (lv_at hl 6 rfl) ?_
                        have hPc := hP.sub (ws' := [(h0, .inr (8, [.int 0, .int ((((n + 1) + 1) + 1) + 1), .ref h1, .int md, .ref h2, .int ch, .int sh, .int tp, .int lf, .int bt, .int rt])), (h1, .inl (cA, 1000, .inl (upd (upd (upd (upd f n.toNatClampNeg (5 + (16 * p1))) (n + 1).toNatClampNeg p2) ((n + 1) + 1).toNatClampNeg p3) (((n + 1) + 1) + 1).toNatClampNeg p4))), (h2, .inl (cB, 1000, .inl g))]) [0, 1, 2] rfl
                        have hDc := hD.sub (ws' := [(h0, .inr (8, [.int 0, .int ((((n + 1) + 1) + 1) + 1), .ref h1, .int md, .ref h2, .int ch, .int sh, .int tp, .int lf, .int bt, .int rt])), (h1, .inl (cA, 1000, .inl (upd (upd (upd (upd f n.toNatClampNeg (5 + (16 * p1))) (n + 1).toNatClampNeg p2) ((n + 1) + 1).toNatClampNeg p3) (((n + 1) + 1) + 1).toNatClampNeg p4))), (h2, .inl (cB, 1000, .inl g))]) [0, 1, 2] (by decide) rfl
                        have hKc := hK.sub (tys' := [(cA, .int), (cB, .int)]) [0, 1] rfl
                        refine wk_v (β := Unit) (ok := fun _ => True) (wc := [(h0, .inr (8, [.int 0, .int ((((n + 1) + 1) + 1) + 1), .ref h1, .int md, .ref h2, .int ch, .int sh, .int tp, .int lf, .int bt, .int rt])), (h1, .inl (cA, 1000, .inl (upd (upd (upd (upd f n.toNatClampNeg (5 + (16 * p1))) (n + 1).toNatClampNeg p2) ((n + 1) + 1).toNatClampNeg p3) (((n + 1) + 1) + 1).toNatClampNeg p4))), (h2, .inl (cB, 1000, .inl g))]) (wr := []) (w1 := fun _ => [(h0, .inr (8, [.int 0, .int (((((n + 1) + 1) + 1) + 1) + 1), .ref h1, .int md, .ref h2, .int ch, .int sh, .int tp, .int lf, .int bt, .int rt])), (h1, .inl (cA, 1000, .inl (upd (upd (upd (upd (upd f n.toNatClampNeg (5 + (16 * p1))) (n + 1).toNatClampNeg p2) ((n + 1) + 1).toNatClampNeg p3) (((n + 1) + 1) + 1).toNatClampNeg p4) ((((n + 1) + 1) + 1) + 1).toNatClampNeg p5))), (h2, .inl (cB, 1000, .inl g))]) (ws2 := fun _ => [(h0, .inr (8, [.int 0, .int (((((n + 1) + 1) + 1) + 1) + 1), .ref h1, .int md, .ref h2, .int ch, .int sh, .int tp, .int lf, .int bt, .int rt])), (h1, .inl (cA, 1000, .inl (upd (upd (upd (upd (upd f n.toNatClampNeg (5 + (16 * p1))) (n + 1).toNatClampNeg p2) ((n + 1) + 1).toNatClampNeg p3) (((n + 1) + 1) + 1).toNatClampNeg p4) ((((n + 1) + 1) + 1) + 1).toNatClampNeg p5))), (h2, .inl (cB, 1000, .inl g))]) (va_runV (As := [.int p5]) (rest := []) ⟨hx, hb, hml, hown, hts⟩ (kX10_put l D H.size h0 h1 h2 cA cB 0 ((((n + 1) + 1) + 1) + 1) md ch sh tp lf bt rt (upd (upd (upd (upd f n.toNatClampNeg (5 + (16 * p1))) (n + 1).toNatClampNeg p2) ((n + 1) + 1).toNatClampNeg p3) (((n + 1) + 1) + 1).toNatClampNeg p4) g p5 (in_add (c := 1) (n := 1000) (in_add (c := 1) (n := 998) (in_add (c := 1) (n := 997) (in_add (c := 1) (n := 996) hn2 (by decide) (by decide) (by decide)) (by decide) (by decide) (by decide)) (by decide) (by decide) (by decide)) (by decide) (by decide) (by decide))) (cwV 1 hts gX10_range_X10_put rfl rfl rfl (by decide +kernel) ⟨Nat.le_of_ble_eq_true rfl, Nat.le_of_ble_eq_true rfl⟩) ⟨Pw_blind, (va_recv hKc hPc (ci := 8) (q0 := 0) rfl rfl), fun U hU hW => Pw_at hKc hPc hDc hN hU hW⟩ rfl rfl hl.1 rfl (lv_room (Nat.le_of_ble_eq_true rfl)) dX10_range_166 ⟨Nat.le_of_ble_eq_true rfl, Nat.le_of_ble_eq_true rfl⟩) hP hD hS hA [0, 1, 2] [] [0, 1, 2] rfl rfl (by decide) (by decide) (fun _ => rfl) (by decide) (fun _ _ H locs hP hD hS => ?_)
                        have hP : va_P D vwCl [(h0, .inr (8, [.int 0, .int (((((n + 1) + 1) + 1) + 1) + 1), .ref h1, .int md, .ref h2, .int ch, .int sh, .int tp, .int lf, .int bt, .int rt])), (h1, .inl (cA, 1000, .inl (upd (upd (upd (upd (upd f n.toNatClampNeg (5 + (16 * p1))) (n + 1).toNatClampNeg p2) ((n + 1) + 1).toNatClampNeg p3) (((n + 1) + 1) + 1).toNatClampNeg p4) ((((n + 1) + 1) + 1) + 1).toNatClampNeg p5))), (h2, .inl (cB, 1000, .inl g))] H := hP
                        have hD : va_D A [(h0, .inr (8, [.int 0, .int (((((n + 1) + 1) + 1) + 1) + 1), .ref h1, .int md, .ref h2, .int ch, .int sh, .int tp, .int lf, .int bt, .int rt])), (h1, .inl (cA, 1000, .inl (upd (upd (upd (upd (upd f n.toNatClampNeg (5 + (16 * p1))) (n + 1).toNatClampNeg p2) ((n + 1) + 1).toNatClampNeg p3) (((n + 1) + 1) + 1).toNatClampNeg p4) ((((n + 1) + 1) + 1) + 1).toNatClampNeg p5))), (h2, .inl (cB, 1000, .inl g))] := hD
                        refine lv_aload_n hx hb dX10_range_169 rfl (lv_at hl 1 rfl) ?_
                        refine lv_iload hx hb dX10_range_170 (lv_at hl 7 rfl) ?_
                        have hPc := hP.sub (ws' := [(h0, .inr (8, [.int 0, .int (((((n + 1) + 1) + 1) + 1) + 1), .ref h1, .int md, .ref h2, .int ch, .int sh, .int tp, .int lf, .int bt, .int rt])), (h1, .inl (cA, 1000, .inl (upd (upd (upd (upd (upd f n.toNatClampNeg (5 + (16 * p1))) (n + 1).toNatClampNeg p2) ((n + 1) + 1).toNatClampNeg p3) (((n + 1) + 1) + 1).toNatClampNeg p4) ((((n + 1) + 1) + 1) + 1).toNatClampNeg p5))), (h2, .inl (cB, 1000, .inl g))]) [0, 1, 2] rfl
                        have hDc := hD.sub (ws' := [(h0, .inr (8, [.int 0, .int (((((n + 1) + 1) + 1) + 1) + 1), .ref h1, .int md, .ref h2, .int ch, .int sh, .int tp, .int lf, .int bt, .int rt])), (h1, .inl (cA, 1000, .inl (upd (upd (upd (upd (upd f n.toNatClampNeg (5 + (16 * p1))) (n + 1).toNatClampNeg p2) ((n + 1) + 1).toNatClampNeg p3) (((n + 1) + 1) + 1).toNatClampNeg p4) ((((n + 1) + 1) + 1) + 1).toNatClampNeg p5))), (h2, .inl (cB, 1000, .inl g))]) [0, 1, 2] (by decide) rfl
                        have hKc := hK.sub (tys' := [(cA, .int), (cB, .int)]) [0, 1] rfl
                        refine wk_v (β := Unit) (ok := fun _ => True) (wc := [(h0, .inr (8, [.int 0, .int (((((n + 1) + 1) + 1) + 1) + 1), .ref h1, .int md, .ref h2, .int ch, .int sh, .int tp, .int lf, .int bt, .int rt])), (h1, .inl (cA, 1000, .inl (upd (upd (upd (upd (upd f n.toNatClampNeg (5 + (16 * p1))) (n + 1).toNatClampNeg p2) ((n + 1) + 1).toNatClampNeg p3) (((n + 1) + 1) + 1).toNatClampNeg p4) ((((n + 1) + 1) + 1) + 1).toNatClampNeg p5))), (h2, .inl (cB, 1000, .inl g))]) (wr := []) (w1 := fun _ => [(h0, .inr (8, [.int 0, .int ((((((n + 1) + 1) + 1) + 1) + 1) + 1), .ref h1, .int md, .ref h2, .int ch, .int sh, .int tp, .int lf, .int bt, .int rt])), (h1, .inl (cA, 1000, .inl (upd (upd (upd (upd (upd (upd f n.toNatClampNeg (5 + (16 * p1))) (n + 1).toNatClampNeg p2) ((n + 1) + 1).toNatClampNeg p3) (((n + 1) + 1) + 1).toNatClampNeg p4) ((((n + 1) + 1) + 1) + 1).toNatClampNeg p5) (((((n + 1) + 1) + 1) + 1) + 1).toNatClampNeg p6))), (h2, .inl (cB, 1000, .inl g))]) (ws2 := fun _ => [(h0, .inr (8, [.int 0, .int ((((((n + 1) + 1) + 1) + 1) + 1) + 1), .ref h1, .int md, .ref h2, .int ch, .int sh, .int tp, .int lf, .int bt, .int rt])), (h1, .inl (cA, 1000, .inl (upd (upd (upd (upd (upd (upd f n.toNatClampNeg (5 + (16 * p1))) (n + 1).toNatClampNeg p2) ((n + 1) + 1).toNatClampNeg p3) (((n + 1) + 1) + 1).toNatClampNeg p4) ((((n + 1) + 1) + 1) + 1).toNatClampNeg p5) (((((n + 1) + 1) + 1) + 1) + 1).toNatClampNeg p6))), (h2, .inl (cB, 1000, .inl g))]) (va_runV (As := [.int p6]) (rest := []) ⟨hx, hb, hml, hown, hts⟩ (kX10_put l D H.size h0 h1 h2 cA cB 0 (((((n + 1) + 1) + 1) + 1) + 1) md ch sh tp lf bt rt (upd (upd (upd (upd (upd f n.toNatClampNeg (5 + (16 * p1))) (n + 1).toNatClampNeg p2) ((n + 1) + 1).toNatClampNeg p3) (((n + 1) + 1) + 1).toNatClampNeg p4) ((((n + 1) + 1) + 1) + 1).toNatClampNeg p5) g p6 (in_add (c := 1) (n := 1000) (in_add (c := 1) (n := 999) (in_add (c := 1) (n := 998) (in_add (c := 1) (n := 997) (in_add (c := 1) (n := 996) hn2 (by decide) (by decide) (by decide)) (by decide) (by decide) (by decide)) (by decide) (by decide) (by decide)) (by decide) (by decide) (by decide)) (by decide) (by decide) (by decide))) (cwV 1 hts gX10_range_X10_put rfl rfl rfl (by decide +kernel) ⟨Nat.le_of_ble_eq_true rfl, Nat.le_of_ble_eq_true rfl⟩) ⟨Pw_blind, (va_recv hKc hPc (ci := 8) (q0 := 0) rfl rfl), fun U hU hW => Pw_at hKc hPc hDc hN hU hW⟩ rfl rfl hl.1 rfl (lv_room (Nat.le_of_ble_eq_true rfl)) dX10_range_172 ⟨Nat.le_of_ble_eq_true rfl, Nat.le_of_ble_eq_true rfl⟩) hP hD hS hA [0, 1, 2] [] [0, 1, 2] rfl rfl (by decide) (by decide) (fun _ => rfl) (by decide) (fun _ _ H locs hP hD hS => ?_)
                        have hP : va_P D vwCl [(h0, .inr (8, [.int 0, .int ((((((n + 1) + 1) + 1) + 1) + 1) + 1), .ref h1, .int md, .ref h2, .int ch, .int sh, .int tp, .int lf, .int bt, .int rt])), (h1, .inl (cA, 1000, .inl (upd (upd (upd (upd (upd (upd f n.toNatClampNeg (5 + (16 * p1))) (n + 1).toNatClampNeg p2) ((n + 1) + 1).toNatClampNeg p3) (((n + 1) + 1) + 1).toNatClampNeg p4) ((((n + 1) + 1) + 1) + 1).toNatClampNeg p5) (((((n + 1) + 1) + 1) + 1) + 1).toNatClampNeg p6))), (h2, .inl (cB, 1000, .inl g))] H := hP
                        have hD : va_D A [(h0, .inr (8, [.int 0, .int ((((((n + 1) + 1) + 1) + 1) + 1) + 1), .ref h1, .int md, .ref h2, .int ch, .int sh, .int tp, .int lf, .int bt, .int rt])), (h1, .inl (cA, 1000, .inl (upd (upd (upd (upd (upd (upd f n.toNatClampNeg (5 + (16 * p1))) (n + 1).toNatClampNeg p2) ((n + 1) + 1).toNatClampNeg p3) (((n + 1) + 1) + 1).toNatClampNeg p4) ((((n + 1) + 1) + 1) + 1).toNatClampNeg p5) (((((n + 1) + 1) + 1) + 1) + 1).toNatClampNeg p6))), (h2, .inl (cB, 1000, .inl g))] := hD
                        refine lv_iconst (v := 1) hx hb dX10_range_175 (by decide) ?_
                        have hF : (fX10_range n f p1 p2 p3 p4 p5 p6) = (1, 0, ((((((n + 1) + 1) + 1) + 1) + 1) + 1), (upd (upd (upd (upd (upd (upd f n.toNatClampNeg (5 + (16 * p1))) (n + 1).toNatClampNeg p2) ((n + 1) + 1).toNatClampNeg p3) (((n + 1) + 1) + 1).toNatClampNeg p4) ((((n + 1) + 1) + 1) + 1).toNatClampNeg p5) (((((n + 1) + 1) + 1) + 1) + 1).toNatClampNeg p6)) := by subst ev_2; subst ev_1; exact ((if_neg c70).trans ((if_pos c75).trans ((if_pos c80).trans ((if_neg c90).trans ((if_neg c99).trans ((if_neg c109).trans ((if_neg c115).trans ((if_neg c122).trans (if_pos c132)))))))))
                        subst hAe
                        subst hQe
                        exact W.zret (v := 1) hx hb hr rfl (fun t ht hW => ⟨⟨_, _, rfl, ⟨(), trivial, by rw [hF], by rw [hF]⟩, by rw [ht]; exact hP, hD⟩, hS.F ht⟩) hS.2.2 dX10_range_176
                      · refine lv_iconst (v := 0) hx hb dX10_range_135 (by decide) ?_
                        have hF : (fX10_range n f p1 p2 p3 p4 p5 p6) = (0, 0, n, f) := by subst ev_2; subst ev_1; exact ((if_neg c70).trans ((if_pos c75).trans ((if_pos c80).trans ((if_neg c90).trans ((if_neg c99).trans ((if_neg c109).trans ((if_neg c115).trans ((if_neg c122).trans (if_neg c132)))))))))
                        subst hAe
                        subst hQe
                        exact W.zret (v := 0) hx hb hr rfl (fun t ht hW => ⟨⟨_, _, rfl, ⟨(), trivial, by rw [hF], by rw [hF]⟩, by rw [ht]; exact hP, hD⟩, hS.F ht⟩) hS.2.2 dX10_range_136
    refine lv_icmp_ne (tgt := 60) hx hb dX10_range_39 (by decide) (fun c39 => ?_) (fun c39 => ?_)
    · refine lv_iconst (v := 0) hx hb dX10_range_60 (by decide) ?_
      exact K61_2 _ (if_neg c39).symm ls (lv_sub hl [1, 2, 3, 4, 5, 6, 7, 0] rfl)
    · refine lv_iload hx hb dX10_range_42 (lv_at hl 5 rfl) ?_
      refine lv_iconst (v := 1) hx hb dX10_range_44 (by decide) ?_
      refine lv_icmp_ne (tgt := 56) hx hb dX10_range_45 (by decide) (fun c45 => ?_) (fun c45 => ?_)
      · refine lv_iconst (v := 1) hx hb dX10_range_56 (by decide) ?_
        refine lv_goto (tgt := 61) hx hb dX10_range_57 (by decide) ?_
        exact K61_2 _ ((if_pos c39).trans (if_neg c45)).symm ls (lv_sub hl [1, 2, 3, 4, 5, 6, 7, 0] rfl)
      · refine lv_iload hx hb dX10_range_48 (lv_at hl 7 rfl) ?_
        refine lv_sipush (v := 16384) hx hb dX10_range_50 (by decide) ?_
        refine lv_icmp_eq (tgt := 60) hx hb dX10_range_53 (by decide) (fun c53 => ?_) (fun c53 => ?_)
        · refine lv_iconst (v := 0) hx hb dX10_range_60 (by decide) ?_
          exact K61_2 _ ((if_pos c39).trans ((if_pos c45).trans (if_pos c53))).symm ls (lv_sub hl [1, 2, 3, 4, 5, 6, 7, 0] rfl)
        · refine lv_iconst (v := 1) hx hb dX10_range_56 (by decide) ?_
          refine lv_goto (tgt := 61) hx hb dX10_range_57 (by decide) ?_
          exact K61_2 _ ((if_pos c39).trans ((if_pos c45).trans (if_neg c53))).symm ls (lv_sub hl [1, 2, 3, 4, 5, 6, 7, 0] rfl)
  refine lv_icmp_ne (tgt := 30) hx hb dX10_range_11 (by decide) (fun c11 => ?_) (fun c11 => ?_)
  · refine lv_iconst (v := 0) hx hb dX10_range_30 (by decide) ?_
    exact K31_1 _ (if_neg c11).symm ls (lv_sub hl [0, 1, 2, 3, 4, 5, 6] rfl)
  · refine lv_iload_n hx hb dX10_range_14 rfl (lv_at hl 3 rfl) ?_
    refine lv_iconst (v := 1) hx hb dX10_range_15 (by decide) ?_
    refine lv_icmp_ne (tgt := 26) hx hb dX10_range_16 (by decide) (fun c16 => ?_) (fun c16 => ?_)
    · refine lv_iconst (v := 1) hx hb dX10_range_26 (by decide) ?_
      refine lv_goto (tgt := 31) hx hb dX10_range_27 (by decide) ?_
      exact K31_1 _ ((if_pos c11).trans (if_neg c16)).symm ls (lv_sub hl [0, 1, 2, 3, 4, 5, 6] rfl)
    · refine lv_iload hx hb dX10_range_19 (lv_at hl 5 rfl) ?_
      refine lv_ldc (v := 1048576) hx hb hown k_39 dX10_range_21 ?_
      refine lv_icmp_eq (tgt := 30) hx hb dX10_range_23 (by decide) (fun c23 => ?_) (fun c23 => ?_)
      · refine lv_iconst (v := 0) hx hb dX10_range_30 (by decide) ?_
        exact K31_1 _ ((if_pos c11).trans ((if_pos c16).trans (if_pos c23))).symm ls (lv_sub hl [0, 1, 2, 3, 4, 5, 6] rfl)
      · refine lv_iconst (v := 1) hx hb dX10_range_26 (by decide) ?_
        refine lv_goto (tgt := 31) hx hb dX10_range_27 (by decide) ?_
        exact K31_1 _ ((if_pos c11).trans ((if_pos c16).trans (if_neg c23))).symm ls (lv_sub hl [0, 1, 2, 3, 4, 5, 6] rfl)

def fX10_rectangle (sh : Int32) (tp : Int32) (lf : Int32) (bt : Int32) (rt : Int32) (p1 : Int32) (p2 : Int32) (p3 : Int32) (p4 : Int32) (p5 : Int32) : Int32 × Int32 × Int32 × Int32 × Int32 × Int32 × Int32 := if (fX10_within p1 0 7) = 0 then (0, 0, sh, tp, lf, bt, rt) else (if (fX10_isCell p2 p3) = 0 then (0, 0, sh, tp, lf, bt, rt) else (if (fX10_isCell p4 p5) = 0 then (0, 0, sh, tp, lf, bt, rt) else (if p4 < p2 then (0, 0, sh, tp, lf, bt, rt) else (if p3 ≤ p5 then (1, 0, p1, p2, p3, p4, p5) else (0, 0, sh, tp, lf, bt, rt)))))
theorem zb_X10_rectangle (sh : Int32) (tp : Int32) (lf : Int32) (bt : Int32) (rt : Int32) (p1 : Int32) (p2 : Int32) (p3 : Int32) (p4 : Int32) (p5 : Int32) : isB (fX10_rectangle sh tp lf bt rt p1 p2 p3 p4 p5).1 := by
  unfold fX10_rectangle
  (try dsimp only)
  repeat' split
  all_goals first | exact Or.inl rfl | exact Or.inr rfl
abbrev rmX10_rectangle : Room := { frames := 2, cells := 0, slots := 0, locals := 43 }
abbrev qX10_rectangle (D : va_G) (sz : Nat) (h0 : Nat) (h1 : Nat) (h2 : Nat) (cA : ClassId) (cB : ClassId) (cd : Int32) (n : Int32) (md : Int32) (ch : Int32) (sh : Int32) (tp : Int32) (lf : Int32) (bt : Int32) (rt : Int32) (f : Nat → Int32) (g : Nat → Int32) (p1 : Int32) (p2 : Int32) (p3 : Int32) (p4 : Int32) (p5 : Int32) : Array Value → State → Outcome → State → Prop := va_Qi (fun r_9 w_9 => ∃ _u : Unit, True ∧ r_9 = (fX10_rectangle sh tp lf bt rt p1 p2 p3 p4 p5).1 ∧ w_9 = [(h0, .inr (8, [.int (fX10_rectangle sh tp lf bt rt p1 p2 p3 p4 p5).2.1, .int n, .ref h1, .int md, .ref h2, .int ch, .int (fX10_rectangle sh tp lf bt rt p1 p2 p3 p4 p5).2.2.1, .int (fX10_rectangle sh tp lf bt rt p1 p2 p3 p4 p5).2.2.2.1, .int (fX10_rectangle sh tp lf bt rt p1 p2 p3 p4 p5).2.2.2.2.1, .int (fX10_rectangle sh tp lf bt rt p1 p2 p3 p4 p5).2.2.2.2.2.1, .int (fX10_rectangle sh tp lf bt rt p1 p2 p3 p4 p5).2.2.2.2.2.2])), (h1, .inl (cA, 1000, .inl f)), (h2, .inl (cB, 1000, .inl g))]) (Bq D (va_A [(h0, .inr (8, [.int cd, .int n, .ref h1, .int md, .ref h2, .int ch, .int sh, .int tp, .int lf, .int bt, .int rt])), (h1, .inl (cA, 1000, .inl f)), (h2, .inl (cB, 1000, .inl g))] sz)) (va_A [(h0, .inr (8, [.int cd, .int n, .ref h1, .int md, .ref h2, .int ch, .int sh, .int tp, .int lf, .int bt, .int rt])), (h1, .inl (cA, 1000, .inl f)), (h2, .inl (cB, 1000, .inl g))] sz)
set_option maxHeartbeats 4000000 in
set_option maxRecDepth 100000 in
theorem kX10_rectangle (l : Launch) (D : va_G) (sz : Nat) (h0 : Nat) (h1 : Nat) (h2 : Nat) (cA : ClassId) (cB : ClassId) (cd : Int32) (n : Int32) (md : Int32) (ch : Int32) (sh : Int32) (tp : Int32) (lf : Int32) (bt : Int32) (rt : Int32) (f : Nat → Int32) (g : Nat → Int32) (p1 : Int32) (p2 : Int32) (p3 : Int32) (p4 : Int32) (p5 : Int32) : Met l yX10_rectangle wsX10_rectangle rmX10_rectangle (va_Pc [.ref h0, .int p1, .int p2, .int p3, .int p4, .int p5] (Pw D [(cA, .int), (cB, .int)] [(h0, .inr (8, [.int cd, .int n, .ref h1, .int md, .ref h2, .int ch, .int sh, .int tp, .int lf, .int bt, .int rt])), (h1, .inl (cA, 1000, .inl f)), (h2, .inl (cB, 1000, .inl g))] sz)) (qX10_rectangle D sz h0 h1 h2 cA cB cd n md ch sh tp lf bt rt f g p1 p2 p3 p4 p5) 0 0 (va_A [(h0, .inr (8, [.int cd, .int n, .ref h1, .int md, .ref h2, .int ch, .int sh, .int tp, .int lf, .int bt, .int rt])), (h1, .inl (cA, 1000, .inl f)), (h2, .inl (cB, 1000, .inl g))] sz) := by
  refine Met.ofW (cc := cX10_rectangle) (maxL := 6) (ret := (some .boolean)) (by decide) rfl ?_
  intro p e s m args below meth c s₁ B hml hv
  obtain ⟨rfl, hsz, hP, hK, hD0, hN⟩ := hv
  have hx := B.exec
  have hb := B.bytes
  have hr := B.returns
  have hts := atoms_spec (ws := wsX10_rectangle) B.pre
  have hown : s.vm.findClass RX10 = some m.cls := findClass_of_methodNamed B.named
  have hlocks := B.notSynchronized
  subst hsz
  obtain ⟨Q, hQe⟩ : ∃ Q, Q = MQ below (qX10_rectangle D s.heap.size h0 h1 h2 cA cB cd n md ch sh tp lf bt rt f g p1 p2 p3 p4 p5) ([.ref h0, .int p1, .int p2, .int p3, .int p4, .int p5] : List Value).toArray s 0 0 (va_A [(h0, .inr (8, [.int cd, .int n, .ref h1, .int md, .ref h2, .int ch, .int sh, .int tp, .int lf, .int bt, .int rt])), (h1, .inl (cA, 1000, .inl f)), (h2, .inl (cB, 1000, .inl g))] s.heap.size) := ⟨_, rfl⟩
  rw [← hQe]
  obtain ⟨A, hAe⟩ : ∃ A, A = va_A [(h0, .inr (8, [.int cd, .int n, .ref h1, .int md, .ref h2, .int ch, .int sh, .int tp, .int lf, .int bt, .int rt])), (h1, .inl (cA, 1000, .inl f)), (h2, .inl (cB, 1000, .inl g))] s.heap.size := ⟨_, rfl⟩
  have hD : va_D A [(h0, .inr (8, [.int cd, .int n, .ref h1, .int md, .ref h2, .int ch, .int sh, .int tp, .int lf, .int bt, .int rt])), (h1, .inl (cA, 1000, .inl f)), (h2, .inl (cB, 1000, .inl g))] := by rw [hAe]; exact hD0.self
  have hA : ∀ q : Nat, s.heap.size ≤ q → A q := by rw [hAe]; exact mo_A
  have hS : va_S A s.heap s.heap [] := va_S.rf
  obtain ⟨H, hHe⟩ : ∃ H, H = s.heap := ⟨_, rfl⟩
  obtain ⟨locs, hLe⟩ : ∃ L : List Loc, L = [] := ⟨_, rfl⟩
  have hP : va_P D vwCl [(h0, .inr (8, [.int cd, .int n, .ref h1, .int md, .ref h2, .int ch, .int sh, .int tp, .int lf, .int bt, .int rt])), (h1, .inl (cA, 1000, .inl f)), (h2, .inl (cB, 1000, .inl g))] H := by rw [hHe]; exact hP
  have hS : va_S A s.heap H locs := by rw [hHe, hLe]; exact hS
  have hl := lv_entry ([.ref h0, .int p1, .int p2, .int p3, .int p4, .int p5]) (n := 6) (Nat.le_of_ble_eq_true rfl)
  rw [lg_entry_eq]
  generalize (lg_sl ([.ref h0, .int p1, .int p2, .int p3, .int p4, .int p5]) ++ List.replicate (6 - (lg_sl ([.ref h0, .int p1, .int p2, .int p3, .int p4, .int p5])).length) Slot.unset).toArray = ls at hl ⊢
  have hl : lv_has ls 6 [(0, .ref h0), (1, .int p1), (2, .int p2), (3, .int p3), (4, .int p4), (5, .int p5)] := hl
  refine hStart hHe hLe ?_
  clear hHe hLe
  have w_X10 : ∀ w ∈ wsX100, w ∈ wsX10_rectangle := by decide +kernel
  have f_29 := hts (.fieldLink RX10 29 "ReferenceMoverModel" "code" "I") (by decide +kernel)
  have f_114 := hts (.fieldLink RX10 114 "ReferenceMoverModel" "sheet" "I") (by decide +kernel)
  have f_16 := hts (.fieldLink RX10 16 "ReferenceMoverModel" "top" "I") (by decide +kernel)
  have f_20 := hts (.fieldLink RX10 20 "ReferenceMoverModel" "left" "I") (by decide +kernel)
  have f_23 := hts (.fieldLink RX10 23 "ReferenceMoverModel" "bottom" "I") (by decide +kernel)
  have f_26 := hts (.fieldLink RX10 26 "ReferenceMoverModel" "right" "I") (by decide +kernel)
  refine lv_aload_n hx hb dX10_rectangle_0 rfl (lv_at hl 0 rfl) ?_
  refine lv_iconst (v := 0) hx hb dX10_rectangle_1 (by decide) ?_
  refine va_put (D := D) (ci := 8) (v := .int 0) (ty := .int) (C := RX10) (T := TX10) (N := 11) hx hb hts w_X10 tyX10 tyX10_ok nmX10 hown hK hP hD hS 0 rfl rfl 0 (by decide) f_29 (fun _ h9 => h9) rfl (by decide +kernel) rfl rfl (Nat.le_of_ble_eq_true rfl) dX10_rectangle_2 (fun H locs hP hD hS => ?_)
  have hP : va_P D vwCl [(h0, .inr (8, [.int 0, .int n, .ref h1, .int md, .ref h2, .int ch, .int sh, .int tp, .int lf, .int bt, .int rt])), (h1, .inl (cA, 1000, .inl f)), (h2, .inl (cB, 1000, .inl g))] H := hP
  have hD : va_D A [(h0, .inr (8, [.int 0, .int n, .ref h1, .int md, .ref h2, .int ch, .int sh, .int tp, .int lf, .int bt, .int rt])), (h1, .inl (cA, 1000, .inl f)), (h2, .inl (cB, 1000, .inl g))] := hD
  refine lv_iload_n hx hb dX10_rectangle_5 rfl (lv_at hl 1 rfl) ?_
  refine lv_iconst (v := 0) hx hb dX10_rectangle_6 (by decide) ?_
  refine lv_bipush (v := 7) hx hb dX10_rectangle_7 (by decide) ?_
  have hPc := hP.sub (ws' := []) [] rfl
  have hDc := hD.sub (ws' := []) [] (by decide) rfl
  have hKc := hK.sub (tys' := []) [] rfl
  refine rd_i (va_runS (As := [.int p1, .int 0, .int 7]) (rest := []) ⟨hx, hb, hml, hown, hts⟩ (kX10_within l D H.size p1 0 7 ) (va_cwS 3 hts gX10_rectangle_X10_within rfl rfl rfl (by decide +kernel) ⟨Nat.le_of_ble_eq_true rfl, Nat.le_of_ble_eq_true rfl⟩) ⟨Pw_blind, fun U hU hW => Pw_at hKc hPc hDc hN hU hW⟩ rfl rfl hl.1 rfl (lv_room (Nat.le_of_ble_eq_true rfl)) dX10_rectangle_9 ⟨Nat.le_of_ble_eq_true rfl, Nat.le_of_ble_eq_true rfl⟩) ?_
  refine lv_if_eq (tgt := 45) hx hb dX10_rectangle_12 (by decide) (fun c12 => ?_) (fun c12 => ?_)
  · refine lv_iconst (v := 0) hx hb dX10_rectangle_45 (by decide) ?_
    have hF : (fX10_rectangle sh tp lf bt rt p1 p2 p3 p4 p5) = (0, 0, sh, tp, lf, bt, rt) := by exact (if_pos c12)
    subst hAe
    subst hQe
    exact W.zret (v := 0) hx hb hr rfl (fun t ht hW => ⟨⟨_, _, rfl, ⟨(), trivial, by rw [hF], by rw [hF]⟩, by rw [ht]; exact hP, hD⟩, hS.F ht⟩) hS.2.2 dX10_rectangle_46
  · refine lv_iload_n hx hb dX10_rectangle_15 rfl (lv_at hl 2 rfl) ?_
    refine lv_iload_n hx hb dX10_rectangle_16 rfl (lv_at hl 3 rfl) ?_
    have hPc := hP.sub (ws' := []) [] rfl
    have hDc := hD.sub (ws' := []) [] (by decide) rfl
    have hKc := hK.sub (tys' := []) [] rfl
    refine rd_i (va_runS (As := [.int p2, .int p3]) (rest := []) ⟨hx, hb, hml, hown, hts⟩ (kX10_isCell l D H.size p2 p3 ) (va_cwS 2 hts gX10_rectangle_X10_isCell rfl rfl rfl (by decide +kernel) ⟨Nat.le_of_ble_eq_true rfl, Nat.le_of_ble_eq_true rfl⟩) ⟨Pw_blind, fun U hU hW => Pw_at hKc hPc hDc hN hU hW⟩ rfl rfl hl.1 rfl (lv_room (Nat.le_of_ble_eq_true rfl)) dX10_rectangle_17 ⟨Nat.le_of_ble_eq_true rfl, Nat.le_of_ble_eq_true rfl⟩) ?_
    refine lv_if_eq (tgt := 45) hx hb dX10_rectangle_20 (by decide) (fun c20 => ?_) (fun c20 => ?_)
    · refine lv_iconst (v := 0) hx hb dX10_rectangle_45 (by decide) ?_
      have hF : (fX10_rectangle sh tp lf bt rt p1 p2 p3 p4 p5) = (0, 0, sh, tp, lf, bt, rt) := by exact ((if_neg c12).trans (if_pos c20))
      subst hAe
      subst hQe
      exact W.zret (v := 0) hx hb hr rfl (fun t ht hW => ⟨⟨_, _, rfl, ⟨(), trivial, by rw [hF], by rw [hF]⟩, by rw [ht]; exact hP, hD⟩, hS.F ht⟩) hS.2.2 dX10_rectangle_46
    · refine lv_iload hx hb dX10_rectangle_23 (lv_at hl 4 rfl) ?_
      refine lv_iload hx hb dX10_rectangle_25 (lv_at hl 5 rfl) ?_
      have hPc := hP.sub (ws' := []) [] rfl
      have hDc := hD.sub (ws' := []) [] (by decide) rfl
      have hKc := hK.sub (tys' := []) [] rfl
      refine rd_i (va_runS (As := [.int p4, .int p5]) (rest := []) ⟨hx, hb, hml, hown, hts⟩ (kX10_isCell l D H.size p4 p5 ) (va_cwS 2 hts gX10_rectangle_X10_isCell rfl rfl rfl (by decide +kernel) ⟨Nat.le_of_ble_eq_true rfl, Nat.le_of_ble_eq_true rfl⟩) ⟨Pw_blind, fun U hU hW => Pw_at hKc hPc hDc hN hU hW⟩ rfl rfl hl.1 rfl (lv_room (Nat.le_of_ble_eq_true rfl)) dX10_rectangle_27 ⟨Nat.le_of_ble_eq_true rfl, Nat.le_of_ble_eq_true rfl⟩) ?_
      refine lv_if_eq (tgt := 45) hx hb dX10_rectangle_30 (by decide) (fun c30 => ?_) (fun c30 => ?_)
      · refine lv_iconst (v := 0) hx hb dX10_rectangle_45 (by decide) ?_
        have hF : (fX10_rectangle sh tp lf bt rt p1 p2 p3 p4 p5) = (0, 0, sh, tp, lf, bt, rt) := by exact ((if_neg c12).trans ((if_neg c20).trans (if_pos c30)))
        subst hAe
        subst hQe
        exact W.zret (v := 0) hx hb hr rfl (fun t ht hW => ⟨⟨_, _, rfl, ⟨(), trivial, by rw [hF], by rw [hF]⟩, by rw [ht]; exact hP, hD⟩, hS.F ht⟩) hS.2.2 dX10_rectangle_46
      · refine lv_iload hx hb dX10_rectangle_33 (lv_at hl 4 rfl) ?_
        refine lv_iload_n hx hb dX10_rectangle_35 rfl (lv_at hl 2 rfl) ?_
        refine lv_icmp_lt (tgt := 45) hx hb dX10_rectangle_36 (by decide) (fun c36 => ?_) (fun c36 => ?_)
        · refine lv_iconst (v := 0) hx hb dX10_rectangle_45 (by decide) ?_
          have hF : (fX10_rectangle sh tp lf bt rt p1 p2 p3 p4 p5) = (0, 0, sh, tp, lf, bt, rt) := by exact ((if_neg c12).trans ((if_neg c20).trans ((if_neg c30).trans (if_pos c36))))
          subst hAe
          subst hQe
          exact W.zret (v := 0) hx hb hr rfl (fun t ht hW => ⟨⟨_, _, rfl, ⟨(), trivial, by rw [hF], by rw [hF]⟩, by rw [ht]; exact hP, hD⟩, hS.F ht⟩) hS.2.2 dX10_rectangle_46
        · refine lv_iload hx hb dX10_rectangle_39 (lv_at hl 5 rfl) ?_
          refine lv_iload_n hx hb dX10_rectangle_41 rfl (lv_at hl 3 rfl) ?_
          refine lv_icmp_ge (tgt := 47) hx hb dX10_rectangle_42 (by decide) (fun c42 => ?_) (fun c42 => ?_)
          · refine lv_aload_n hx hb dX10_rectangle_47 rfl (lv_at hl 0 rfl) ?_
            refine lv_iload_n hx hb dX10_rectangle_48 rfl (lv_at hl 1 rfl) ?_
            refine va_put (D := D) (ci := 8) (v := .int p1) (ty := .int) (C := RX10) (T := TX10) (N := 11) hx hb hts w_X10 tyX10 tyX10_ok nmX10 hown hK hP hD hS 0 rfl rfl 6 (by decide) f_114 (fun _ h9 => h9) rfl (by decide +kernel) rfl rfl (Nat.le_of_ble_eq_true rfl) dX10_rectangle_49 (fun H locs hP hD hS => ?_)
            have hP : va_P D vwCl [(h0, .inr (8, [.int 0, .int n, .ref h1, .int md, .ref h2, .int ch, .int p1, .int tp, .int lf, .int bt, .int rt])), (h1, .inl (cA, 1000, .inl f)), (h2, .inl (cB, 1000, .inl g))] H := hP
            have hD : va_D A [(h0, .inr (8, [.int 0, .int n, .ref h1, .int md, .ref h2, .int ch, .int p1, .int tp, .int lf, .int bt, .int rt])), (h1, .inl (cA, 1000, .inl f)), (h2, .inl (cB, 1000, .inl g))] := hD
            refine lv_aload_n hx hb dX10_rectangle_52 rfl (lv_at hl 0 rfl) ?_
            refine lv_iload_n hx hb dX10_rectangle_53 rfl (lv_at hl 2 rfl) ?_
            refine va_put (D := D) (ci := 8) (v := .int p2) (ty := .int) (C := RX10) (T := TX10) (N := 11) hx hb hts w_X10 tyX10 tyX10_ok nmX10 hown hK hP hD hS 0 rfl rfl 7 (by decide) f_16 (fun _ h9 => h9) rfl (by decide +kernel) rfl rfl (Nat.le_of_ble_eq_true rfl) dX10_rectangle_54 (fun H locs hP hD hS => ?_)
            have hP : va_P D vwCl [(h0, .inr (8, [.int 0, .int n, .ref h1, .int md, .ref h2, .int ch, .int p1, .int p2, .int lf, .int bt, .int rt])), (h1, .inl (cA, 1000, .inl f)), (h2, .inl (cB, 1000, .inl g))] H := hP
            have hD : va_D A [(h0, .inr (8, [.int 0, .int n, .ref h1, .int md, .ref h2, .int ch, .int p1, .int p2, .int lf, .int bt, .int rt])), (h1, .inl (cA, 1000, .inl f)), (h2, .inl (cB, 1000, .inl g))] := hD
            refine lv_aload_n hx hb dX10_rectangle_57 rfl (lv_at hl 0 rfl) ?_
            refine lv_iload_n hx hb dX10_rectangle_58 rfl (lv_at hl 3 rfl) ?_
            refine va_put (D := D) (ci := 8) (v := .int p3) (ty := .int) (C := RX10) (T := TX10) (N := 11) hx hb hts w_X10 tyX10 tyX10_ok nmX10 hown hK hP hD hS 0 rfl rfl 8 (by decide) f_20 (fun _ h9 => h9) rfl (by decide +kernel) rfl rfl (Nat.le_of_ble_eq_true rfl) dX10_rectangle_59 (fun H locs hP hD hS => ?_)
            have hP : va_P D vwCl [(h0, .inr (8, [.int 0, .int n, .ref h1, .int md, .ref h2, .int ch, .int p1, .int p2, .int p3, .int bt, .int rt])), (h1, .inl (cA, 1000, .inl f)), (h2, .inl (cB, 1000, .inl g))] H := hP
            have hD : va_D A [(h0, .inr (8, [.int 0, .int n, .ref h1, .int md, .ref h2, .int ch, .int p1, .int p2, .int p3, .int bt, .int rt])), (h1, .inl (cA, 1000, .inl f)), (h2, .inl (cB, 1000, .inl g))] := hD
            refine lv_aload_n hx hb dX10_rectangle_62 rfl (lv_at hl 0 rfl) ?_
            refine lv_iload hx hb dX10_rectangle_63 (lv_at hl 4 rfl) ?_
            refine va_put (D := D) (ci := 8) (v := .int p4) (ty := .int) (C := RX10) (T := TX10) (N := 11) hx hb hts w_X10 tyX10 tyX10_ok nmX10 hown hK hP hD hS 0 rfl rfl 9 (by decide) f_23 (fun _ h9 => h9) rfl (by decide +kernel) rfl rfl (Nat.le_of_ble_eq_true rfl) dX10_rectangle_65 (fun H locs hP hD hS => ?_)
            have hP : va_P D vwCl [(h0, .inr (8, [.int 0, .int n, .ref h1, .int md, .ref h2, .int ch, .int p1, .int p2, .int p3, .int p4, .int rt])), (h1, .inl (cA, 1000, .inl f)), (h2, .inl (cB, 1000, .inl g))] H := hP
            have hD : va_D A [(h0, .inr (8, [.int 0, .int n, .ref h1, .int md, .ref h2, .int ch, .int p1, .int p2, .int p3, .int p4, .int rt])), (h1, .inl (cA, 1000, .inl f)), (h2, .inl (cB, 1000, .inl g))] := hD
            refine lv_aload_n hx hb dX10_rectangle_68 rfl (lv_at hl 0 rfl) ?_
            refine lv_iload hx hb dX10_rectangle_69 (lv_at hl 5 rfl) ?_
            refine va_put (D := D) (ci := 8) (v := .int p5) (ty := .int) (C := RX10) (T := TX10) (N := 11) hx hb hts w_X10 tyX10 tyX10_ok nmX10 hown hK hP hD hS 0 rfl rfl 10 (by decide) f_26 (fun _ h9 => h9) rfl (by decide +kernel) rfl rfl (Nat.le_of_ble_eq_true rfl) dX10_rectangle_71 (fun H locs hP hD hS => ?_)
            have hP : va_P D vwCl [(h0, .inr (8, [.int 0, .int n, .ref h1, .int md, .ref h2, .int ch, .int p1, .int p2, .int p3, .int p4, .int p5])), (h1, .inl (cA, 1000, .inl f)), (h2, .inl (cB, 1000, .inl g))] H := hP
            have hD : va_D A [(h0, .inr (8, [.int 0, .int n, .ref h1, .int md, .ref h2, .int ch, .int p1, .int p2, .int p3, .int p4, .int p5])), (h1, .inl (cA, 1000, .inl f)), (h2, .inl (cB, 1000, .inl g))] := hD
            refine lv_iconst (v := 1) hx hb dX10_rectangle_74 (by decide) ?_
            have hF : (fX10_rectangle sh tp lf bt rt p1 p2 p3 p4 p5) = (1, 0, p1, p2, p3, p4, p5) := by exact ((if_neg c12).trans ((if_neg c20).trans ((if_neg c30).trans ((if_neg c36).trans (if_pos c42)))))
            subst hAe
            subst hQe
            exact W.zret (v := 1) hx hb hr rfl (fun t ht hW => ⟨⟨_, _, rfl, ⟨(), trivial, by rw [hF], by rw [hF]⟩, by rw [ht]; exact hP, hD⟩, hS.F ht⟩) hS.2.2 dX10_rectangle_75
          · refine lv_iconst (v := 0) hx hb dX10_rectangle_45 (by decide) ?_
            have hF : (fX10_rectangle sh tp lf bt rt p1 p2 p3 p4 p5) = (0, 0, sh, tp, lf, bt, rt) := by exact ((if_neg c12).trans ((if_neg c20).trans ((if_neg c30).trans ((if_neg c36).trans (if_neg c42)))))
            subst hAe
            subst hQe
            exact W.zret (v := 0) hx hb hr rfl (fun t ht hW => ⟨⟨_, _, rfl, ⟨(), trivial, by rw [hF], by rw [hF]⟩, by rw [ht]; exact hP, hD⟩, hS.F ht⟩) hS.2.2 dX10_rectangle_46
