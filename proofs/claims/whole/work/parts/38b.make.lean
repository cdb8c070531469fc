abbrev rmX8_init : Room := { frames := 1, cells := 0, slots := 0, locals := 12 }
abbrev qX8_init (D : va_G) (sz : Nat) (h0 : Nat) (x : Int32) : Array Value → State → Outcome → State → Prop := va_Qv (fun w_9 => ∃ _u : Unit, True ∧ w_9 = [(h0, .inr (6, [.int x, .int 0, .int 0, .int 0, .int 0]))]) (Bq D (va_A [(h0, .inr (6, [.int 0, .int 0, .int 0, .int 0, .int 0]))] sz)) (va_A [(h0, .inr (6, [.int 0, .int 0, .int 0, .int 0, .int 0]))] sz)
set_option maxHeartbeats 4000000 in
set_option maxRecDepth 100000 in
theorem kX8_init (l : Launch) (D : va_G) (sz : Nat) (h0 : Nat) (x : Int32) : Met l yX8_init wsX8_init rmX8_init (va_Pc [.ref h0, .int x] (Pw D [] [(h0, .inr (6, [.int 0, .int 0, .int 0, .int 0, .int 0]))] sz)) (qX8_init D sz h0 x) 0 0 (va_A [(h0, .inr (6, [.int 0, .int 0, .int 0, .int 0, .int 0]))] sz) := by
  refine Met.ofW (cc := cX8_init) (maxL := 2) (ret := none) (by decide) rfl ?_
  intro p e s m args below meth c s₁ B hml hv
  obtain ⟨rfl, hsz, hP, hK, hD0, hN⟩ := hv
  have hx := B.exec
  have hb := B.bytes
  have hr := B.returns
  have hts := atoms_spec (ws := wsX8_init) B.pre
  have hown : s.vm.findClass RX8 = some m.cls := findClass_of_methodNamed B.named
  have hlocks := B.notSynchronized
  subst hsz
  have hin : meth.name = "<init>" := (name_of_methodNamed B.named B.method).1
  obtain ⟨Q, hQe⟩ : ∃ Q, Q = MQ below (qX8_init D s.heap.size h0 x) ([.ref h0, .int x] : List Value).toArray s 0 0 (va_A [(h0, .inr (6, [.int 0, .int 0, .int 0, .int 0, .int 0]))] s.heap.size) := ⟨_, rfl⟩
  rw [← hQe]
  obtain ⟨A, hAe⟩ : ∃ A, A = va_A [(h0, .inr (6, [.int 0, .int 0, .int 0, .int 0, .int 0]))] s.heap.size := ⟨_, rfl⟩
  have hD : va_D A [(h0, .inr (6, [.int 0, .int 0, .int 0, .int 0, .int 0]))] := by rw [hAe]; exact hD0.self
  have hA : ∀ q : Nat, s.heap.size ≤ q → A q := by rw [hAe]; exact mo_A
  have hS : va_S A s.heap s.heap [] := va_S.rf
  obtain ⟨H, hHe⟩ : ∃ H, H = s.heap := ⟨_, rfl⟩
  obtain ⟨locs, hLe⟩ : ∃ L : List Loc, L = [] := ⟨_, rfl⟩
  have hP : va_P D vwCl [(h0, .inr (6, [.int 0, .int 0, .int 0, .int 0, .int 0]))] H := by rw [hHe]; exact hP
  have hS : va_S A s.heap H locs := by rw [hHe, hLe]; exact hS
  have hl := lv_entry ([.ref h0, .int x]) (n := 2) (Nat.le_of_ble_eq_true rfl)
  rw [lg_entry_eq]
  generalize (lg_sl ([.ref h0, .int x]) ++ List.replicate (2 - (lg_sl ([.ref h0, .int x])).length) Slot.unset).toArray = ls at hl ⊢
  have hl : lv_has ls 2 [(0, .ref h0), (1, .int x)] := hl
  refine hStart hHe hLe ?_
  clear hHe hLe
  have w_X8 : ∀ w ∈ wsX80, w ∈ wsX8_init := by decide +kernel
  have f_7 := hts (.fieldLink RX8 7 "ReferenceMover$Span" "lastLine" "I") (by decide +kernel)
  refine lv_aload_n hx hb dX8_init_0 rfl (lv_at hl 0 rfl) ?_
  refine W.objInit hx hb hown (hts (.methodLink RX8 1 objectInit) (by decide +kernel)) (hts (.instanceMethod objectInit) (by decide +kernel)) (hts (.code objectInit ⟨#[0xb1]⟩ 1 none) (by decide +kernel)) rfl (by rw [hml]; exact hl.1) rfl dX8_init_1 (Nat.le_of_ble_eq_true rfl) (Nat.le_of_ble_eq_true rfl) ?_
  refine W.eq (g2 := F0 m 4 ls []) rfl ?_
  refine lv_aload_n hx hb dX8_init_4 rfl (lv_at hl 0 rfl) ?_
  refine lv_iload_n hx hb dX8_init_5 rfl (lv_at hl 1 rfl) ?_
  refine va_putF (D := D) (ci := 6) (v := .int x) (ty := .int) (C := RX8) (T := TX8) (N := 5) hx hb hts w_X8 tyX8 tyX8_ok nmX8 hown hK hP hD hS 0 rfl rfl 0 (by decide) f_7 (fun _ h9 => h9) rfl hin rfl (by decide +kernel) rfl rfl (Nat.le_of_ble_eq_true rfl) dX8_init_6 (fun H locs hP hD hS => ?_)
  have hP : va_P D vwCl [(h0, .inr (6, [.int x, .int 0, .int 0, .int 0, .int 0]))] H := hP
  have hD : va_D A [(h0, .inr (6, [.int x, .int 0, .int 0, .int 0, .int 0]))] := hD
  subst hAe
  subst hQe
  exact W.vret hx hb hr (fun t ht hW => ⟨⟨_, rfl, ⟨(), trivial, rfl⟩, by rw [ht]; exact hP, hD⟩, hS.F ht⟩) hS.2.2 dX8_init_9

abbrev rmX7_init : Room := { frames := 2, cells := 2, slots := 10, locals := 33 }
abbrev qX7_init (D : va_G) (sz : Nat) (h0 : Nat) : Array Value → State → Outcome → State → Prop := va_Qv (fun w_9 => ∃ x_9 : Nat × Nat, True ∧ w_9 = [(h0, .inr (5, [.ref x_9.1, .ref x_9.2, .int 0, .int 0, .int 0])), (x_9.1, .inr (6, [.int 1048576, .int 0, .int 0, .int 0, .int 0])), (x_9.2, .inr (6, [.int 16384, .int 0, .int 0, .int 0, .int 0]))]) (Bq D (va_A [(h0, .inr (5, [.null, .null, .int 0, .int 0, .int 0]))] sz)) (va_A [(h0, .inr (5, [.null, .null, .int 0, .int 0, .int 0]))] sz)
set_option maxHeartbeats 4000000 in
set_option maxRecDepth 100000 in
theorem kX7_init (l : Launch) (D : va_G) (sz : Nat) (h0 : Nat) : Met l yX7_init wsX7_init rmX7_init (va_Pc [.ref h0] (Pw D [] [(h0, .inr (5, [.null, .null, .int 0, .int 0, .int 0]))] sz)) (qX7_init D sz h0) 2 10 (va_A [(h0, .inr (5, [.null, .null, .int 0, .int 0, .int 0]))] sz) := by
  refine Met.ofW (cc := cX7_init) (maxL := 1) (ret := none) (by decide) rfl ?_
  intro p e s m args below meth c s₁ B hml hv
  obtain ⟨rfl, hsz, hP, hK, hD0, hN⟩ := hv
  have hx := B.exec
  have hb := B.bytes
  have hr := B.returns
  have hts := atoms_spec (ws := wsX7_init) B.pre
  have hown : s.vm.findClass RX7 = some m.cls := findClass_of_methodNamed B.named
  have hlocks := B.notSynchronized
  subst hsz
  have hin : meth.name = "<init>" := (name_of_methodNamed B.named B.method).1
  obtain ⟨Q, hQe⟩ : ∃ Q, Q = MQ below (qX7_init D s.heap.size h0) ([.ref h0] : List Value).toArray s 2 10 (va_A [(h0, .inr (5, [.null, .null, .int 0, .int 0, .int 0]))] s.heap.size) := ⟨_, rfl⟩
  rw [← hQe]
  obtain ⟨A, hAe⟩ : ∃ A, A = va_A [(h0, .inr (5, [.null, .null, .int 0, .int 0, .int 0]))] s.heap.size := ⟨_, rfl⟩
  have hD : va_D A [(h0, .inr (5, [.null, .null, .int 0, .int 0, .int 0]))] := by rw [hAe]; exact hD0.self
  have hA : ∀ q : Nat, s.heap.size ≤ q → A q := by rw [hAe]; exact mo_A
  have hS : va_S A s.heap s.heap [] := va_S.rf
  obtain ⟨H, hHe⟩ : ∃ H, H = s.heap := ⟨_, rfl⟩
  obtain ⟨locs, hLe⟩ : ∃ L : List Loc, L = [] := ⟨_, rfl⟩
  have hP : va_P D vwCl [(h0, .inr (5, [.null, .null, .int 0, .int 0, .int 0]))] H := by rw [hHe]; exact hP
  have hS : va_S A s.heap H locs := by rw [hHe, hLe]; exact hS
  have hl := lv_entry ([.ref h0]) (n := 1) (Nat.le_of_ble_eq_true rfl)
  rw [lg_entry_eq]
  generalize (lg_sl ([.ref h0]) ++ List.replicate (1 - (lg_sl ([.ref h0])).length) Slot.unset).toArray = ls at hl ⊢
  have hl : lv_has ls 1 [(0, .ref h0)] := hl
  refine hStart hHe hLe ?_
  clear hHe hLe
  have w_X8 : ∀ w ∈ wsX80, w ∈ wsX7_init := by decide +kernel
  have cl_9 := hts (.classLink RX7 9 RX8) (by decide +kernel)
  have is_X8 := hts (.instantiable RX8 5) (by decide +kernel)
  have in_RX8 := hts (.initialized RX8) (by decide +kernel)
  have k_11 := hts (.constant RX7 11 (1048576)) (by decide +kernel)
  have ml_12 := hts (.methodLink RX7 12 yX8_init) (by decide +kernel)
  have im_yX8_init := hts (.instanceMethod yX8_init) (by decide +kernel)
  have w_X7 : ∀ w ∈ wsX70, w ∈ wsX7_init := by decide +kernel
  have f_15 := hts (.fieldLink RX7 15 "ReferenceMover$Reference" "rows" "LReferenceMover$Span;") (by decide +kernel)
  have f_21 := hts (.fieldLink RX7 21 "ReferenceMover$Reference" "columns" "LReferenceMover$Span;") (by decide +kernel)
  refine lv_aload_n hx hb dX7_init_0 rfl (lv_at hl 0 rfl) ?_
  refine W.objInit hx hb hown (hts (.methodLink RX7 3 objectInit) (by decide +kernel)) (hts (.instanceMethod objectInit) (by decide +kernel)) (hts (.code objectInit ⟨#[0xb1]⟩ 1 none) (by decide +kernel)) rfl (by rw [hml]; exact hl.1) rfl dX7_init_1 (Nat.le_of_ble_eq_true rfl) (Nat.le_of_ble_eq_true rfl) ?_
  refine W.eq (g2 := F0 m 4 ls []) rfl ?_
  refine lv_aload_n hx hb dX7_init_4 rfl (lv_at hl 0 rfl) ?_
  refine va_new (ci := 6) (fs := [.int 0, .int 0, .int 0, .int 0, .int 0]) (C := RX8) (T := TX8) (N := 5) hx hb hts w_X8 tyX8 tyX8_ok hown cl_9 is_X8 in_RX8 hK hP hD hS hA rfl (fun j hj => by rcases (show j = 0 ∨ j = 1 ∨ j = 2 ∨ j = 3 ∨ j = 4 by omega) with rfl | rfl | rfl | rfl | rfl <;> rfl) (show 1 ≤ 2 by decide) (show 5 ≤ 10 by decide) dX7_init_5 (fun q5 H hP hD hS => ?_)
  have hP : va_P D vwCl [(h0, .inr (5, [.null, .null, .int 0, .int 0, .int 0])), (q5, .inr (6, [.int 0, .int 0, .int 0, .int 0, .int 0]))] H := hP
  have hD : va_D A [(h0, .inr (5, [.null, .null, .int 0, .int 0, .int 0])), (q5, .inr (6, [.int 0, .int 0, .int 0, .int 0, .int 0]))] := hD
  refine W.widen (k := 1) (n := 5) (by omega) (by omega) ?_
  refine lv_dup hx hb dX7_init_8 rfl ?_
  refine lv_ldc (v := 1048576) hx hb hown k_11 dX7_init_9 ?_
  have hPc := hP.sub (ws' := [(q5, .inr (6, [.int 0, .int 0, .int 0, .int 0, .int 0]))]) [1] rfl
  have hDc := hD.sub (ws' := [(q5, .inr (6, [.int 0, .int 0, .int 0, .int 0, .int 0]))]) [1] (by decide) rfl
  have hKc := hK.sub (tys' := []) [] rfl
  refine wk_v (β := Unit) (ok := fun _ => True) (wc := [(q5, .inr (6, [.int 0, .int 0, .int 0, .int 0, .int 0]))]) (wr := [(h0, .inr (5, [.null, .null, .int 0, .int 0, .int 0]))]) (w1 := fun _ => [(q5, .inr (6, [.int 1048576, .int 0, .int 0, .int 0, .int 0]))]) (ws2 := fun _ => [(h0, .inr (5, [.null, .null, .int 0, .int 0, .int 0])), (q5, .inr (6, [.int 1048576, .int 0, .int 0, .int 0, .int 0]))]) (va_runI (As := [.int 1048576]) (rest := [.ref q5, .ref h0]) ⟨hx, hb, hml, hown, hts⟩ (kX8_init l D H.size q5 1048576 ) (cwI 1 hts gX7_init_X8_init rfl rfl rfl in_RX8 ml_12 im_yX8_init rfl (by decide +kernel) ⟨Nat.le_of_ble_eq_true rfl, Nat.le_of_ble_eq_true rfl⟩) ⟨Pw_blind, fun U hU hW => Pw_at hKc hPc hDc hN hU hW⟩ rfl rfl hl.1 rfl (lv_room (Nat.le_of_ble_eq_true rfl)) dX7_init_11 ⟨show 1 ≤ 2 by decide, show 5 ≤ 10 by decide⟩) hP hD hS hA [1] [0] [0, 1] rfl rfl (by decide) (by decide) (fun _ => rfl) (by decide) (fun _ _ H locs hP hD hS => ?_)
  have hP : va_P D vwCl [(h0, .inr (5, [.null, .null, .int 0, .int 0, .int 0])), (q5, .inr (6, [.int 1048576, .int 0, .int 0, .int 0, .int 0]))] H := hP
  have hD : va_D A [(h0, .inr (5, [.null, .null, .int 0, .int 0, .int 0])), (q5, .inr (6, [.int 1048576, .int 0, .int 0, .int 0, .int 0]))] := hD
  refine W.widen (k := 1) (n := 5) (by omega) (by omega) ?_
  refine va_putF (D := D) (ci := 5) (v := .ref q5) (ty := (.object "ReferenceMover$Span")) (C := RX7) (T := TX7) (N := 5) hx hb hts w_X7 tyX7 tyX7_ok nmX7 hown hK hP hD hS 0 rfl rfl 0 (by decide) f_15 (fun _ h9 => h9) rfl hin rfl (by decide +kernel) rfl rfl (Nat.le_of_ble_eq_true rfl) dX7_init_14 (fun H locs hP hD hS => ?_)
  have hP : va_P D vwCl [(h0, .inr (5, [.ref q5, .null, .int 0, .int 0, .int 0])), (q5, .inr (6, [.int 1048576, .int 0, .int 0, .int 0, .int 0]))] H := hP
  have hD : va_D A [(h0, .inr (5, [.ref q5, .null, .int 0, .int 0, .int 0])), (q5, .inr (6, [.int 1048576, .int 0, .int 0, .int 0, .int 0]))] := hD
  refine lv_aload_n hx hb dX7_init_17 rfl (lv_at hl 0 rfl) ?_
  refine va_new (ci := 6) (fs := [.int 0, .int 0, .int 0, .int 0, .int 0]) (C := RX8) (T := TX8) (N := 5) hx hb hts w_X8 tyX8 tyX8_ok hown cl_9 is_X8 in_RX8 hK hP hD hS hA rfl (fun j hj => by rcases (show j = 0 ∨ j = 1 ∨ j = 2 ∨ j = 3 ∨ j = 4 by omega) with rfl | rfl | rfl | rfl | rfl <;> rfl) (show 2 ≤ 2 by decide) (show 10 ≤ 10 by decide) dX7_init_18 (fun q18 H hP hD hS => ?_)
  have hP : va_P D vwCl [(h0, .inr (5, [.ref q5, .null, .int 0, .int 0, .int 0])), (q5, .inr (6, [.int 1048576, .int 0, .int 0, .int 0, .int 0])), (q18, .inr (6, [.int 0, .int 0, .int 0, .int 0, .int 0]))] H := hP
  have hD : va_D A [(h0, .inr (5, [.ref q5, .null, .int 0, .int 0, .int 0])), (q5, .inr (6, [.int 1048576, .int 0, .int 0, .int 0, .int 0])), (q18, .inr (6, [.int 0, .int 0, .int 0, .int 0, .int 0]))] := hD
  refine W.widen (k := 2) (n := 10) (by omega) (by omega) ?_
  refine lv_dup hx hb dX7_init_21 rfl ?_
  refine lv_sipush (v := 16384) hx hb dX7_init_22 (by decide) ?_
  have hPc := hP.sub (ws' := [(q18, .inr (6, [.int 0, .int 0, .int 0, .int 0, .int 0]))]) [2] rfl
  have hDc := hD.sub (ws' := [(q18, .inr (6, [.int 0, .int 0, .int 0, .int 0, .int 0]))]) [2] (by decide) rfl
  have hKc := hK.sub (tys' := []) [] rfl
  refine wk_v (β := Unit) (ok := fun _ => True) (wc := [(q18, .inr (6, [.int 0, .int 0, .int 0, .int 0, .int 0]))]) (wr := [(h0, .inr (5, [.ref q5, .null, .int 0, .int 0, .int 0])), (q5, .inr (6, [.int 1048576, .int 0, .int 0, .int 0, .int 0]))]) (w1 := fun _ => [(q18, .inr (6, [.int 16384, .int 0, .int 0, .int 0, .int 0]))]) (ws2 := fun _ => [(h0, .inr (5, [.ref q5, .null, .int 0, .int 0, .int 0])), (q5, .inr (6, [.int 1048576, .int 0, .int 0, .int 0, .int 0])), (q18, .inr (6, [.int 16384, .int 0, .int 0, .int 0, .int 0]))]) (va_runI (As := [.int 16384]) (rest := [.ref q18, .ref h0]) ⟨hx, hb, hml, hown, hts⟩ (kX8_init l D H.size q18 16384 ) (cwI 1 hts gX7_init_X8_init rfl rfl rfl in_RX8 ml_12 im_yX8_init rfl (by decide +kernel) ⟨Nat.le_of_ble_eq_true rfl, Nat.le_of_ble_eq_true rfl⟩) ⟨Pw_blind, fun U hU hW => Pw_at hKc hPc hDc hN hU hW⟩ rfl rfl hl.1 rfl (lv_room (Nat.le_of_ble_eq_true rfl)) dX7_init_25 ⟨show 2 ≤ 2 by decide, show 10 ≤ 10 by decide⟩) hP hD hS hA [2] [0, 1] [0, 1, 2] rfl rfl (by decide) (by decide) (fun _ => rfl) (by decide) (fun _ _ H locs hP hD hS => ?_)
  have hP : va_P D vwCl [(h0, .inr (5, [.ref q5, .null, .int 0, .int 0, .int 0])), (q5, .inr (6, [.int 1048576, .int 0, .int 0, .int 0, .int 0])), (q18, .inr (6, [.int 16384, .int 0, .int 0, .int 0, .int 0]))] H := hP
  have hD : va_D A [(h0, .inr (5, [.ref q5, .null, .int 0, .int 0, .int 0])), (q5, .inr (6, [.int 1048576, .int 0, .int 0, .int 0, .int 0])), (q18, .inr (6, [.int 16384, .int 0, .int 0, .int 0, .int 0]))] := hD
  refine W.widen (k := 2) (n := 10) (by omega) (by omega) ?_
  refine va_putF (D := D) (ci := 5) (v := .ref q18) (ty := (.object "ReferenceMover$Span")) (C := RX7) (T := TX7) (N := 5) hx hb hts w_X7 tyX7 tyX7_ok nmX7 hown hK hP hD hS 0 rfl rfl 1 (by decide) f_21 (fun _ h9 => h9) rfl hin rfl (by decide +kernel) rfl rfl (Nat.le_of_ble_eq_true rfl) dX7_init_28 (fun H locs hP hD hS => ?_)
  have hP : va_P D vwCl [(h0, .inr (5, [.ref q5, .ref q18, .int 0, .int 0, .int 0])), (q5, .inr (6, [.int 1048576, .int 0, .int 0, .int 0, .int 0])), (q18, .inr (6, [.int 16384, .int 0, .int 0, .int 0, .int 0]))] H := hP
  have hD : va_D A [(h0, .inr (5, [.ref q5, .ref q18, .int 0, .int 0, .int 0])), (q5, .inr (6, [.int 1048576, .int 0, .int 0, .int 0, .int 0])), (q18, .inr (6, [.int 16384, .int 0, .int 0, .int 0, .int 0]))] := hD
  subst hAe
  subst hQe
  exact W.vret hx hb hr (fun t ht hW => ⟨⟨_, rfl, ⟨(q5, q18), trivial, rfl⟩, by rw [ht]; exact hP, hD⟩, hS.F ht⟩) hS.2.2 dX7_init_31

abbrev rmX9_init : Room := { frames := 3, cells := 5, slots := 1020, locals := 53 }
abbrev qX9_init (D : va_G) (sz : Nat) (h0 : Nat) : Array Value → State → Outcome → State → Prop := va_Qv (S := ClassId × Nat × Nat × Nat × Nat × Nat) (fun _ => True) (fun x_9 t_9 => va_P D vwCl [(h0, .inr (7, [.ref x_9.2.1, .int 0, .ref x_9.2.2.1, .ref x_9.2.2.2.1])), (x_9.2.1, .inl (x_9.1, 1000, .inl (fun _ => 0))), (x_9.2.2.1, .inr (0, [.int 0, .int 1, .int 1, .int 1, .int 1])), (x_9.2.2.2.1, .inr (5, [.ref x_9.2.2.2.2.1, .ref x_9.2.2.2.2.2, .int 0, .int 0, .int 0])), (x_9.2.2.2.2.1, .inr (6, [.int 1048576, .int 0, .int 0, .int 0, .int 0])), (x_9.2.2.2.2.2, .inr (6, [.int 16384, .int 0, .int 0, .int 0, .int 0]))] t_9.heap ∧ va_K D vwCl [(x_9.1, .int)] t_9 ∧ va_D (va_A [(h0, .inr (7, [.null, .int 0, .null, .null]))] sz) [(h0, .inr (7, [.ref x_9.2.1, .int 0, .ref x_9.2.2.1, .ref x_9.2.2.2.1])), (x_9.2.1, .inl (x_9.1, 1000, .inl (fun _ => 0))), (x_9.2.2.1, .inr (0, [.int 0, .int 1, .int 1, .int 1, .int 1])), (x_9.2.2.2.1, .inr (5, [.ref x_9.2.2.2.2.1, .ref x_9.2.2.2.2.2, .int 0, .int 0, .int 0])), (x_9.2.2.2.2.1, .inr (6, [.int 1048576, .int 0, .int 0, .int 0, .int 0])), (x_9.2.2.2.2.2, .inr (6, [.int 16384, .int 0, .int 0, .int 0, .int 0]))]) (va_A [(h0, .inr (7, [.null, .int 0, .null, .null]))] sz)
set_option maxHeartbeats 4000000 in
set_option maxRecDepth 100000 in
theorem kX9_init (l : Launch) (D : va_G) (sz : Nat) (h0 : Nat) : Met l yX9_init wsX9_init rmX9_init (va_Pc [.ref h0] (Pw D [] [(h0, .inr (7, [.null, .int 0, .null, .null]))] sz)) (qX9_init D sz h0) 5 1020 (va_A [(h0, .inr (7, [.null, .int 0, .null, .null]))] sz) := by
  refine Met.ofW (cc := cX9_init) (maxL := 1) (ret := none) (by decide) rfl ?_
  intro p e s m args below meth c s₁ B hml hv
  obtain ⟨rfl, hsz, hP, hK, hD0, hN⟩ := hv
  have hx := B.exec
  have hb := B.bytes
  have hr := B.returns
  have hts := atoms_spec (ws := wsX9_init) B.pre
  have hown : s.vm.findClass RX9 = some m.cls := findClass_of_methodNamed B.named
  have hlocks := B.notSynchronized
  subst hsz
  have hin : meth.name = "<init>" := (name_of_methodNamed B.named B.method).1
  obtain ⟨Q, hQe⟩ : ∃ Q, Q = MQ below (qX9_init D s.heap.size h0) ([.ref h0] : List Value).toArray s 5 1020 (va_A [(h0, .inr (7, [.null, .int 0, .null, .null]))] s.heap.size) := ⟨_, rfl⟩
  rw [← hQe]
  obtain ⟨A, hAe⟩ : ∃ A, A = va_A [(h0, .inr (7, [.null, .int 0, .null, .null]))] s.heap.size := ⟨_, rfl⟩
  have hD : va_D A [(h0, .inr (7, [.null, .int 0, .null, .null]))] := by rw [hAe]; exact hD0.self
  have hA : ∀ q : Nat, s.heap.size ≤ q → A q := by rw [hAe]; exact mo_A
  have hS : va_S A s.heap s.heap [] := va_S.rf
  obtain ⟨H, hHe⟩ : ∃ H, H = s.heap := ⟨_, rfl⟩
  obtain ⟨locs, hLe⟩ : ∃ L : List Loc, L = [] := ⟨_, rfl⟩
  have hP : va_P D vwCl [(h0, .inr (7, [.null, .int 0, .null, .null]))] H := by rw [hHe]; exact hP
  have hS : va_S A s.heap H locs := by rw [hHe, hLe]; exact hS
  have hl := lv_entry ([.ref h0]) (n := 1) (Nat.le_of_ble_eq_true rfl)
  rw [lg_entry_eq]
  generalize (lg_sl ([.ref h0]) ++ List.replicate (1 - (lg_sl ([.ref h0])).length) Slot.unset).toArray = ls at hl ⊢
  have hl : lv_has ls 1 [(0, .ref h0)] := hl
  refine hStart hHe hLe ?_
  clear hHe hLe
  have ac_I := hts (.arrayClass .int) (by decide +kernel)
  have w_X9 : ∀ w ∈ wsX90, w ∈ wsX9_init := by decide +kernel
  have f_9 := hts (.fieldLink RX9 9 "ReferenceMover" "code" "[I") (by decide +kernel)
  have f_13 := hts (.fieldLink RX9 13 "ReferenceMover" "size" "I") (by decide +kernel)
  have w_X0 : ∀ w ∈ wsX00, w ∈ wsX9_init := by decide +kernel
  have cl_17 := hts (.classLink RX9 17 RX0) (by decide +kernel)
  have is_X0 := hts (.instantiable RX0 5) (by decide +kernel)
  have in_RX0 := hts (.initialized RX0) (by decide +kernel)
  have ml_19 := hts (.methodLink RX9 19 yX0_init) (by decide +kernel)
  have im_yX0_init := hts (.instanceMethod yX0_init) (by decide +kernel)
  have f_22 := hts (.fieldLink RX9 22 "ReferenceMover" "cut" "LReferenceMover$Area;") (by decide +kernel)
  have w_X7 : ∀ w ∈ wsX70, w ∈ wsX9_init := by decide +kernel
  have cl_26 := hts (.classLink RX9 26 RX7) (by decide +kernel)
  have is_X7 := hts (.instantiable RX7 5) (by decide +kernel)
  have in_RX7 := hts (.initialized RX7) (by decide +kernel)
  have im_yX7_init := hts (.instanceMethod yX7_init) (by decide +kernel)
  have f_29 := hts (.fieldLink RX9 29 "ReferenceMover" "reference" "LReferenceMover$Reference;") (by decide +kernel)
  refine lv_aload_n hx hb dX9_init_0 rfl (lv_at hl 0 rfl) ?_
  refine W.objInit hx hb hown (hts (.methodLink RX9 3 objectInit) (by decide +kernel)) (hts (.instanceMethod objectInit) (by decide +kernel)) (hts (.code objectInit ⟨#[0xb1]⟩ 1 none) (by decide +kernel)) rfl (by rw [hml]; exact hl.1) rfl dX9_init_1 (Nat.le_of_ble_eq_true rfl) (Nat.le_of_ble_eq_true rfl) ?_
  refine W.eq (g2 := F0 m 4 ls []) rfl ?_
  refine lv_aload_n hx hb dX9_init_4 rfl (lv_at hl 0 rfl) ?_
  refine lv_sipush (v := 1000) hx hb dX9_init_5 (by decide) ?_
  refine va_newa (atype := .int) (ty := .int) (n := 1000) (N' := 1000) (a0 := (1000, .inl (fun _ => 0))) hx hb ac_I rfl hK hP hD hS hA (fun cA9 => vp_cell_i cA9 1000 (fun _ => 0)) (by decide) (nI_clamp (n := 1000) (by omega)) (by decide) (show 1 ≤ 5 by decide) (show 1000 ≤ 1020 by decide) dX9_init_8 (fun q8 ca8 H hK hP hD hS => ?_)
  have hK : va_K D vwCl [(ca8, .int)] s := hK
  have hP : va_P D vwCl [(h0, .inr (7, [.null, .int 0, .null, .null])), (q8, .inl (ca8, 1000, .inl (fun _ => 0)))] H := hP
  have hD : va_D A [(h0, .inr (7, [.null, .int 0, .null, .null])), (q8, .inl (ca8, 1000, .inl (fun _ => 0)))] := hD
  refine W.widen (k := 1) (n := 1000) (by omega) (by omega) ?_
  refine va_putF (D := D) (ci := 7) (v := .ref q8) (ty := (.array .int)) (C := RX9) (T := TX9) (N := 4) hx hb hts w_X9 tyX9 tyX9_ok nmX9 hown hK hP hD hS 0 rfl rfl 0 (by decide) f_9 (fun _ h9 => h9) rfl hin rfl (by decide +kernel) rfl rfl (Nat.le_of_ble_eq_true rfl) dX9_init_10 (fun H locs hP hD hS => ?_)
  have hP : va_P D vwCl [(h0, .inr (7, [.ref q8, .int 0, .null, .null])), (q8, .inl (ca8, 1000, .inl (fun _ => 0)))] H := hP
  have hD : va_D A [(h0, .inr (7, [.ref q8, .int 0, .null, .null])), (q8, .inl (ca8, 1000, .inl (fun _ => 0)))] := hD
  refine lv_aload_n hx hb dX9_init_13 rfl (lv_at hl 0 rfl) ?_
  refine lv_iconst (v := 0) hx hb dX9_init_14 (by decide) ?_
  refine va_put (D := D) (ci := 7) (v := .int 0) (ty := .int) (C := RX9) (T := TX9) (N := 4) hx hb hts w_X9 tyX9 tyX9_ok nmX9 hown hK hP hD hS 0 rfl rfl 1 (by decide) f_13 (fun _ h9 => h9) rfl (by decide +kernel) rfl rfl (Nat.le_of_ble_eq_true rfl) dX9_init_15 (fun H locs hP hD hS => ?_)
  have hP : va_P D vwCl [(h0, .inr (7, [.ref q8, .int 0, .null, .null])), (q8, .inl (ca8, 1000, .inl (fun _ => 0)))] H := hP
  have hD : va_D A [(h0, .inr (7, [.ref q8, .int 0, .null, .null])), (q8, .inl (ca8, 1000, .inl (fun _ => 0)))] := hD
  refine lv_aload_n hx hb dX9_init_18 rfl (lv_at hl 0 rfl) ?_
  refine va_new (ci := 0) (fs := [.int 0, .int 0, .int 0, .int 0, .int 0]) (C := RX0) (T := TX0) (N := 5) hx hb hts w_X0 tyX0 tyX0_ok hown cl_17 is_X0 in_RX0 hK hP hD hS hA rfl (fun j hj => by rcases (show j = 0 ∨ j = 1 ∨ j = 2 ∨ j = 3 ∨ j = 4 by omega) with rfl | rfl | rfl | rfl | rfl <;> rfl) (show 2 ≤ 5 by decide) (show 1005 ≤ 1020 by decide) dX9_init_19 (fun q19 H hP hD hS => ?_)
  have hP : va_P D vwCl [(h0, .inr (7, [.ref q8, .int 0, .null, .null])), (q8, .inl (ca8, 1000, .inl (fun _ => 0))), (q19, .inr (0, [.int 0, .int 0, .int 0, .int 0, .int 0]))] H := hP
  have hD : va_D A [(h0, .inr (7, [.ref q8, .int 0, .null, .null])), (q8, .inl (ca8, 1000, .inl (fun _ => 0))), (q19, .inr (0, [.int 0, .int 0, .int 0, .int 0, .int 0]))] := hD
  refine W.widen (k := 2) (n := 1005) (by omega) (by omega) ?_
  refine lv_dup hx hb dX9_init_22 rfl ?_
  refine lv_iconst (v := 0) hx hb dX9_init_23 (by decide) ?_
  refine lv_iconst (v := 1) hx hb dX9_init_24 (by decide) ?_
  refine lv_iconst (v := 1) hx hb dX9_init_25 (by decide) ?_
  refine lv_iconst (v := 1) hx hb dX9_init_26 (by decide) ?_
  refine lv_iconst (v := 1) hx hb dX9_init_27 (by decide) ?_
  have hPc := hP.sub (ws' := [(q19, .inr (0, [.int 0, .int 0, .int 0, .int 0, .int 0]))]) [2] rfl
  have hDc := hD.sub (ws' := [(q19, .inr (0, [.int 0, .int 0, .int 0, .int 0, .int 0]))]) [2] (by decide) rfl
  have hKc := hK.sub (tys' := []) [] rfl
  refine wk_v (β := Unit) (ok := fun _ => True) (wc := [(q19, .inr (0, [.int 0, .int 0, .int 0, .int 0, .int 0]))]) (wr := [(h0, .inr (7, [.ref q8, .int 0, .null, .null])), (q8, .inl (ca8, 1000, .inl (fun _ => 0)))]) (w1 := fun _ => [(q19, .inr (0, [.int 0, .int 1, .int 1, .int 1, .int 1]))]) (ws2 := fun _ => [(h0, .inr (7, [.ref q8, .int 0, .null, .null])), (q8, .inl (ca8, 1000, .inl (fun _ => 0))), (q19, .inr (0, [.int 0, .int 1, .int 1, .int 1, .int 1]))]) (va_runI (As := [.int 0, .int 1, .int 1, .int 1, .int 1]) (rest := [.ref q19, .ref h0]) ⟨hx, hb, hml, hown, hts⟩ (kX0_init l D H.size q19 0 0 0 0 0 0 1 1 1 1 ) (cwI 5 hts gX9_init_X0_init rfl rfl rfl in_RX0 ml_19 im_yX0_init rfl (by decide +kernel) ⟨Nat.le_of_ble_eq_true rfl, Nat.le_of_ble_eq_true rfl⟩) ⟨Pw_blind, fun U hU hW => Pw_at hKc hPc hDc hN hU hW⟩ rfl rfl hl.1 rfl (lv_room (Nat.le_of_ble_eq_true rfl)) dX9_init_28 ⟨show 2 ≤ 5 by decide, show 1005 ≤ 1020 by decide⟩) hP hD hS hA [2] [0, 1] [0, 1, 2] rfl rfl (by decide) (by decide) (fun _ => rfl) (by decide) (fun _ _ H locs hP hD hS => ?_)
  have hP : va_P D vwCl [(h0, .inr (7, [.ref q8, .int 0, .null, .null])), (q8, .inl (ca8, 1000, .inl (fun _ => 0))), (q19, .inr (0, [.int 0, .int 1, .int 1, .int 1, .int 1]))] H := hP
  have hD : va_D A [(h0, .inr (7, [.ref q8, .int 0, .null, .null])), (q8, .inl (ca8, 1000, .inl (fun _ => 0))), (q19, .inr (0, [.int 0, .int 1, .int 1, .int 1, .int 1]))] := hD
  refine W.widen (k := 2) (n := 1005) (by omega) (by omega) ?_
  refine va_put (D := D) (ci := 7) (v := .ref q19) (ty := (.object "ReferenceMover$Area")) (C := RX9) (T := TX9) (N := 4) hx hb hts w_X9 tyX9 tyX9_ok nmX9 hown hK hP hD hS 0 rfl rfl 2 (by decide) f_22 (fun _ h9 => h9) rfl (by decide +kernel) rfl rfl (Nat.le_of_ble_eq_true rfl) dX9_init_31 (fun H locs hP hD hS => ?_)
  have hP : va_P D vwCl [(h0, .inr (7, [.ref q8, .int 0, .ref q19, .null])), (q8, .inl (ca8, 1000, .inl (fun _ => 0))), (q19, .inr (0, [.int 0, .int 1, .int 1, .int 1, .int 1]))] H := hP
  have hD : va_D A [(h0, .inr (7, [.ref q8, .int 0, .ref q19, .null])), (q8, .inl (ca8, 1000, .inl (fun _ => 0))), (q19, .inr (0, [.int 0, .int 1, .int 1, .int 1, .int 1]))] := hD
  refine lv_aload_n hx hb dX9_init_34 rfl (lv_at hl 0 rfl) ?_
  refine va_new (ci := 5) (fs := [.null, .null, .int 0, .int 0, .int 0]) (C := RX7) (T := TX7) (N := 5) hx hb hts w_X7 tyX7 tyX7_ok hown cl_26 is_X7 in_RX7 hK hP hD hS hA rfl (fun j hj => by rcases (show j = 0 ∨ j = 1 ∨ j = 2 ∨ j = 3 ∨ j = 4 by omega) with rfl | rfl | rfl | rfl | rfl <;> rfl) (show 3 ≤ 5 by decide) (show 1010 ≤ 1020 by decide) dX9_init_35 (fun q35 H hP hD hS => ?_)
  have hP : va_P D vwCl [(h0, .inr (7, [.ref q8, .int 0, .ref q19, .null])), (q8, .inl (ca8, 1000, .inl (fun _ => 0))), (q19, .inr (0, [.int 0, .int 1, .int 1, .int 1, .int 1])), (q35, .inr (5, [.null, .null, .int 0, .int 0, .int 0]))] H := hP
  have hD : va_D A [(h0, .inr (7, [.ref q8, .int 0, .ref q19, .null])), (q8, .inl (ca8, 1000, .inl (fun _ => 0))), (q19, .inr (0, [.int 0, .int 1, .int 1, .int 1, .int 1])), (q35, .inr (5, [.null, .null, .int 0, .int 0, .int 0]))] := hD
  refine W.widen (k := 3) (n := 1010) (by omega) (by omega) ?_
  refine lv_dup hx hb dX9_init_38 rfl ?_
  have hPc := hP.sub (ws' := [(q35, .inr (5, [.null, .null, .int 0, .int 0, .int 0]))]) [3] rfl
  have hDc := hD.sub (ws' := [(q35, .inr (5, [.null, .null, .int 0, .int 0, .int 0]))]) [3] (by decide) rfl
  have hKc := hK.sub (tys' := []) [] rfl
  refine wk_v (β := Nat × Nat) (ok := fun _ => True) (wc := [(q35, .inr (5, [.null, .null, .int 0, .int 0, .int 0]))]) (wr := [(h0, .inr (7, [.ref q8, .int 0, .ref q19, .null])), (q8, .inl (ca8, 1000, .inl (fun _ => 0))), (q19, .inr (0, [.int 0, .int 1, .int 1, .int 1, .int 1]))]) (w1 := fun x => [(q35, .inr (5, [.ref x.1, .ref x.2, .int 0, .int 0, .int 0])), (x.1, .inr (6, [.int 1048576, .int 0, .int 0, .int 0, .int 0])), (x.2, .inr (6, [.int 16384, .int 0, .int 0, .int 0, .int 0]))]) (ws2 := fun x => [(h0, .inr (7, [.ref q8, .int 0, .ref q19, .null])), (q8, .inl (ca8, 1000, .inl (fun _ => 0))), (q19, .inr (0, [.int 0, .int 1, .int 1, .int 1, .int 1])), (q35, .inr (5, [.ref x.1, .ref x.2, .int 0, .int 0, .int 0])), (x.1, .inr (6, [.int 1048576, .int 0, .int 0, .int 0, .int 0])), (x.2, .inr (6, [.int 16384, .int 0, .int 0, .int 0, .int 0]))]) (va_runIN (As := []) (rest := [.ref q35, .ref h0]) ⟨hx, hb, hml, hown, hts⟩ (kX7_init l D H.size q35 ) ⟨va_cnB 0 hts gX9_init_X7_init_n28 rfl rfl rfl hN.1 in_RX7 (by decide +kernel) ⟨Nat.le_of_ble_eq_true rfl, Nat.le_of_ble_eq_true rfl⟩, rfl, im_yX7_init⟩ ⟨Pw_blind, fun U hU hW => Pw_at hKc hPc hDc hN hU hW⟩ rfl rfl hl.1 rfl (lv_room (Nat.le_of_ble_eq_true rfl)) dX9_init_39 ⟨show 5 ≤ 5 by decide, show 1020 ≤ 1020 by decide⟩) hP hD hS hA [3] [0, 1, 2] [0, 1, 2, 3, 4, 5] rfl rfl (by decide) (by decide) (fun _ => rfl) (by decide) (fun x _ H locs hP hD hS => ?_)
  obtain ⟨e39_0, e39_1⟩ := x
  have hP : va_P D vwCl [(h0, .inr (7, [.ref q8, .int 0, .ref q19, .null])), (q8, .inl (ca8, 1000, .inl (fun _ => 0))), (q19, .inr (0, [.int 0, .int 1, .int 1, .int 1, .int 1])), (q35, .inr (5, [.ref e39_0, .ref e39_1, .int 0, .int 0, .int 0])), (e39_0, .inr (6, [.int 1048576, .int 0, .int 0, .int 0, .int 0])), (e39_1, .inr (6, [.int 16384, .int 0, .int 0, .int 0, .int 0]))] H := hP
  have hD : va_D A [(h0, .inr (7, [.ref q8, .int 0, .ref q19, .null])), (q8, .inl (ca8, 1000, .inl (fun _ => 0))), (q19, .inr (0, [.int 0, .int 1, .int 1, .int 1, .int 1])), (q35, .inr (5, [.ref e39_0, .ref e39_1, .int 0, .int 0, .int 0])), (e39_0, .inr (6, [.int 1048576, .int 0, .int 0, .int 0, .int 0])), (e39_1, .inr (6, [.int 16384, .int 0, .int 0, .int 0, .int 0]))] := hD
  refine W.widen (k := 5) (n := 1020) (by omega) (by omega) ?_
  refine va_putF (D := D) (ci := 7) (v := .ref q35) (ty := (.object "ReferenceMover$Reference")) (C := RX9) (T := TX9) (N := 4) hx hb hts w_X9 tyX9 tyX9_ok nmX9 hown hK hP hD hS 0 rfl rfl 3 (by decide) f_29 (fun _ h9 => h9) rfl hin rfl (by decide +kernel) rfl rfl (Nat.le_of_ble_eq_true rfl) dX9_init_42 (fun H locs hP hD hS => ?_)
  have hP : va_P D vwCl [(h0, .inr (7, [.ref q8, .int 0, .ref q19, .ref q35])), (q8, .inl (ca8, 1000, .inl (fun _ => 0))), (q19, .inr (0, [.int 0, .int 1, .int 1, .int 1, .int 1])), (q35, .inr (5, [.ref e39_0, .ref e39_1, .int 0, .int 0, .int 0])), (e39_0, .inr (6, [.int 1048576, .int 0, .int 0, .int 0, .int 0])), (e39_1, .inr (6, [.int 16384, .int 0, .int 0, .int 0, .int 0]))] H := hP
  have hD : va_D A [(h0, .inr (7, [.ref q8, .int 0, .ref q19, .ref q35])), (q8, .inl (ca8, 1000, .inl (fun _ => 0))), (q19, .inr (0, [.int 0, .int 1, .int 1, .int 1, .int 1])), (q35, .inr (5, [.ref e39_0, .ref e39_1, .int 0, .int 0, .int 0])), (e39_0, .inr (6, [.int 1048576, .int 0, .int 0, .int 0, .int 0])), (e39_1, .inr (6, [.int 16384, .int 0, .int 0, .int 0, .int 0]))] := hD
  subst hAe
  subst hQe
  exact W.vret hx hb hr (fun t ht hW => ⟨⟨(ca8, q8, q19, q35, e39_0, e39_1), rfl, trivial, by rw [ht]; exact hP, va_K.moved hW.alike hK, hD⟩, hS.F ht⟩) hS.2.2 dX9_init_45

abbrev rmX10_init : Room := { frames := 1, cells := 2, slots := 2000, locals := 12 }
abbrev qX10_init (D : va_G) (sz : Nat) (h0 : Nat) : Array Value → State → Outcome → State → Prop := va_Qv (S := ClassId × ClassId × Nat × Nat) (fun _ => True) (fun x_9 t_9 => va_P D vwCl [(h0, .inr (8, [.int 0, .int 0, .ref x_9.2.2.1, .int 0, .ref x_9.2.2.2, .int 0, .int 0, .int 1, .int 1, .int 1, .int 1])), (x_9.2.2.1, .inl (x_9.1, 1000, .inl (fun _ => 0))), (x_9.2.2.2, .inl (x_9.2.1, 1000, .inl (fun _ => 0)))] t_9.heap ∧ va_K D vwCl [(x_9.1, .int), (x_9.2.1, .int)] t_9 ∧ va_D (va_A [(h0, .inr (8, [.int 0, .int 0, .null, .int 0, .null, .int 0, .int 0, .int 0, .int 0, .int 0, .int 0]))] sz) [(h0, .inr (8, [.int 0, .int 0, .ref x_9.2.2.1, .int 0, .ref x_9.2.2.2, .int 0, .int 0, .int 1, .int 1, .int 1, .int 1])), (x_9.2.2.1, .inl (x_9.1, 1000, .inl (fun _ => 0))), (x_9.2.2.2, .inl (x_9.2.1, 1000, .inl (fun _ => 0)))]) (va_A [(h0, .inr (8, [.int 0, .int 0, .null, .int 0, .null, .int 0, .int 0, .int 0, .int 0, .int 0, .int 0]))] sz)
set_option maxHeartbeats 4000000 in
set_option maxRecDepth 100000 in
theorem kX10_init (l : Launch) (D : va_G) (sz : Nat) (h0 : Nat) : Met l yX10_init wsX10_init rmX10_init (va_Pc [.ref h0] (Pw D [] [(h0, .inr (8, [.int 0, .int 0, .null, .int 0, .null, .int 0, .int 0, .int 0, .int 0, .int 0, .int 0]))] sz)) (qX10_init D sz h0) 2 2000 (va_A [(h0, .inr (8, [.int 0, .int 0, .null, .int 0, .null, .int 0, .int 0, .int 0, .int 0, .int 0, .int 0]))] sz) := by
  refine Met.ofW (cc := cX10_init) (maxL := 1) (ret := none) (by decide) rfl ?_
  intro p e s m args below meth c s₁ B hml hv
  obtain ⟨rfl, hsz, hP, hK, hD0, hN⟩ := hv
  have hx := B.exec
  have hb := B.bytes
  have hr := B.returns
  have hts := atoms_spec (ws := wsX10_init) B.pre
  have hown : s.vm.findClass RX10 = some m.cls := findClass_of_methodNamed B.named
  have hlocks := B.notSynchronized
  subst hsz
  have hin : meth.name = "<init>" := (name_of_methodNamed B.named B.method).1
  obtain ⟨Q, hQe⟩ : ∃ Q, Q = MQ below (qX10_init D s.heap.size h0) ([.ref h0] : List Value).toArray s 2 2000 (va_A [(h0, .inr (8, [.int 0, .int 0, .null, .int 0, .null, .int 0, .int 0, .int 0, .int 0, .int 0, .int 0]))] s.heap.size) := ⟨_, rfl⟩
  rw [← hQe]
  obtain ⟨A, hAe⟩ : ∃ A, A = va_A [(h0, .inr (8, [.int 0, .int 0, .null, .int 0, .null, .int 0, .int 0, .int 0, .int 0, .int 0, .int 0]))] s.heap.size := ⟨_, rfl⟩
  have hD : va_D A [(h0, .inr (8, [.int 0, .int 0, .null, .int 0, .null, .int 0, .int 0, .int 0, .int 0, .int 0, .int 0]))] := by rw [hAe]; exact hD0.self
  have hA : ∀ q : Nat, s.heap.size ≤ q → A q := by rw [hAe]; exact mo_A
  have hS : va_S A s.heap s.heap [] := va_S.rf
  obtain ⟨H, hHe⟩ : ∃ H, H = s.heap := ⟨_, rfl⟩
  obtain ⟨locs, hLe⟩ : ∃ L : List Loc, L = [] := ⟨_, rfl⟩
  have hP : va_P D vwCl [(h0, .inr (8, [.int 0, .int 0, .null, .int 0, .null, .int 0, .int 0, .int 0, .int 0, .int 0, .int 0]))] H := by rw [hHe]; exact hP
  have hS : va_S A s.heap H locs := by rw [hHe, hLe]; exact hS
  have hl := lv_entry ([.ref h0]) (n := 1) (Nat.le_of_ble_eq_true rfl)
  rw [lg_entry_eq]
  generalize (lg_sl ([.ref h0]) ++ List.replicate (1 - (lg_sl ([.ref h0])).length) Slot.unset).toArray = ls at hl ⊢
  have hl : lv_has ls 1 [(0, .ref h0)] := hl
  refine hStart hHe hLe ?_
  clear hHe hLe
  have ac_I := hts (.arrayClass .int) (by decide +kernel)
  have w_X10 : ∀ w ∈ wsX100, w ∈ wsX10_init := by decide +kernel
  have f_7 := hts (.fieldLink RX10 7 "ReferenceMoverModel" "words" "[I") (by decide +kernel)
  have f_13 := hts (.fieldLink RX10 13 "ReferenceMoverModel" "making" "[I") (by decide +kernel)
  have f_16 := hts (.fieldLink RX10 16 "ReferenceMoverModel" "top" "I") (by decide +kernel)
  have f_20 := hts (.fieldLink RX10 20 "ReferenceMoverModel" "left" "I") (by decide +kernel)
  have f_23 := hts (.fieldLink RX10 23 "ReferenceMoverModel" "bottom" "I") (by decide +kernel)
  have f_26 := hts (.fieldLink RX10 26 "ReferenceMoverModel" "right" "I") (by decide +kernel)
  refine lv_aload_n hx hb dX10_init_0 rfl (lv_at hl 0 rfl) ?_
  refine W.objInit hx hb hown (hts (.methodLink RX10 1 objectInit) (by decide +kernel)) (hts (.instanceMethod objectInit) (by decide +kernel)) (hts (.code objectInit ⟨#[0xb1]⟩ 1 none) (by decide +kernel)) rfl (by rw [hml]; exact hl.1) rfl dX10_init_1 (Nat.le_of_ble_eq_true rfl) (Nat.le_of_ble_eq_true rfl) ?_
  refine W.eq (g2 := F0 m 4 ls []) rfl ?_
  refine lv_aload_n hx hb dX10_init_4 rfl (lv_at hl 0 rfl) ?_
  refine lv_sipush (v := 1000) hx hb dX10_init_5 (by decide) ?_
  refine va_newa (atype := .int) (ty := .int) (n := 1000) (N' := 1000) (a0 := (1000, .inl (fun _ => 0))) hx hb ac_I rfl hK hP hD hS hA (fun cA9 => vp_cell_i cA9 1000 (fun _ => 0)) (by decide) (nI_clamp (n := 1000) (by omega)) (by decide) (show 1 ≤ 2 by decide) (show 1000 ≤ 2000 by decide) dX10_init_8 (fun q8 ca8 H hK hP hD hS => ?_)
  have hK : va_K D vwCl [(ca8, .int)] s := hK
  have hP : va_P D vwCl [(h0, .inr (8, [.int 0, .int 0, .null, .int 0, .null, .int 0, .int 0, .int 0, .int 0, .int 0, .int 0])), (q8, .inl (ca8, 1000, .inl (fun _ => 0)))] H := hP
  have hD : va_D A [(h0, .inr (8, [.int 0, .int 0, .null, .int 0, .null, .int 0, .int 0, .int 0, .int 0, .int 0, .int 0])), (q8, .inl (ca8, 1000, .inl (fun _ => 0)))] := hD
  refine W.widen (k := 1) (n := 1000) (by omega) (by omega) ?_
  refine va_putF (D := D) (ci := 8) (v := .ref q8) (ty := (.array .int)) (C := RX10) (T := TX10) (N := 11) hx hb hts w_X10 tyX10 tyX10_ok nmX10 hown hK hP hD hS 0 rfl rfl 2 (by decide) f_7 (fun _ h9 => h9) rfl hin rfl (by decide +kernel) rfl rfl (Nat.le_of_ble_eq_true rfl) dX10_init_10 (fun H locs hP hD hS => ?_)
  have hP : va_P D vwCl [(h0, .inr (8, [.int 0, .int 0, .ref q8, .int 0, .null, .int 0, .int 0, .int 0, .int 0, .int 0, .int 0])), (q8, .inl (ca8, 1000, .inl (fun _ => 0)))] H := hP
  have hD : va_D A [(h0, .inr (8, [.int 0, .int 0, .ref q8, .int 0, .null, .int 0, .int 0, .int 0, .int 0, .int 0, .int 0])), (q8, .inl (ca8, 1000, .inl (fun _ => 0)))] := hD
  refine lv_aload_n hx hb dX10_init_13 rfl (lv_at hl 0 rfl) ?_
  refine lv_sipush (v := 1000) hx hb dX10_init_14 (by decide) ?_
  refine va_newa (atype := .int) (ty := .int) (n := 1000) (N' := 1000) (a0 := (1000, .inl (fun _ => 0))) hx hb ac_I rfl hK hP hD hS hA (fun cA9 => vp_cell_i cA9 1000 (fun _ => 0)) (by decide) (nI_clamp (n := 1000) (by omega)) (by decide) (show 2 ≤ 2 by decide) (show 2000 ≤ 2000 by decide) dX10_init_17 (fun q17 ca17 H hK hP hD hS => ?_)
  have hK : va_K D vwCl [(ca8, .int), (ca17, .int)] s := hK
  have hP : va_P D vwCl [(h0, .inr (8, [.int 0, .int 0, .ref q8, .int 0, .null, .int 0, .int 0, .int 0, .int 0, .int 0, .int 0])), (q8, .inl (ca8, 1000, .inl (fun _ => 0))), (q17, .inl (ca17, 1000, .inl (fun _ => 0)))] H := hP
  have hD : va_D A [(h0, .inr (8, [.int 0, .int 0, .ref q8, .int 0, .null, .int 0, .int 0, .int 0, .int 0, .int 0, .int 0])), (q8, .inl (ca8, 1000, .inl (fun _ => 0))), (q17, .inl (ca17, 1000, .inl (fun _ => 0)))] := hD
  refine W.widen (k := 2) (n := 2000) (by omega) (by omega) ?_
  refine va_putF (D := D) (ci := 8) (v := .ref q17) (ty := (.array .int)) (C := RX10) (T := TX10) (N := 11) hx hb hts w_X10 tyX10 tyX10_ok nmX10 hown hK hP hD hS 0 rfl rfl 4 (by decide) f_13 (fun _ h9 => h9) rfl hin rfl (by decide +kernel) rfl rfl (Nat.le_of_ble_eq_true rfl) dX10_init_19 (fun H locs hP hD hS => ?_)
  have hP : va_P D vwCl [(h0, .inr (8, [.int 0, .int 0, .ref q8, .int 0, .ref q17, .int 0, .int 0, .int 0, .int 0, .int 0, .int 0])), (q8, .inl (ca8, 1000, .inl (fun _ => 0))), (q17, .inl (ca17, 1000, .inl (fun _ => 0)))] H := hP
  have hD : va_D A [(h0, .inr (8, [.int 0, .int 0, .ref q8, .int 0, .ref q17, .int 0, .int 0, .int 0, .int 0, .int 0, .int 0])), (q8, .inl (ca8, 1000, .inl (fun _ => 0))), (q17, .inl (ca17, 1000, .inl (fun _ => 0)))] := hD
  refine lv_aload_n hx hb dX10_init_22 rfl (lv_at hl 0 rfl) ?_
  refine lv_iconst (v := 1) hx hb dX10_init_23 (by decide) ?_
  refine va_put (D := D) (ci := 8) (v := .int 1) (ty := .int) (C := RX10) (T := TX10) (N := 11) hx hb hts w_X10 tyX10 tyX10_ok nmX10 hown hK hP hD hS 0 rfl rfl 7 (by decide) f_16 (fun _ h9 => h9) rfl (by decide +kernel) rfl rfl (Nat.le_of_ble_eq_true rfl) dX10_init_24 (fun H locs hP hD hS => ?_)
  have hP : va_P D vwCl [(h0, .inr (8, [.int 0, .int 0, .ref q8, .int 0, .ref q17, .int 0, .int 0, .int 1, .int 0, .int 0, .int 0])), (q8, .inl (ca8, 1000, .inl (fun _ => 0))), (q17, .inl (ca17, 1000, .inl (fun _ => 0)))] H := hP
  have hD : va_D A [(h0, .inr (8, [.int 0, .int 0, .ref q8, .int 0, .ref q17, .int 0, .int 0, .int 1, .int 0, .int 0, .int 0])), (q8, .inl (ca8, 1000, .inl (fun _ => 0))), (q17, .inl (ca17, 1000, .inl (fun _ => 0)))] := hD
  refine lv_aload_n hx hb dX10_init_27 rfl (lv_at hl 0 rfl) ?_
  refine lv_iconst (v := 1) hx hb dX10_init_28 (by decide) ?_
  refine va_put (D := D) (ci := 8) (v := .int 1) (ty := .int) (C := RX10) (T := TX10) (N := 11) hx hb hts w_X10 tyX10 tyX10_ok nmX10 hown hK hP hD hS 0 rfl rfl 8 (by decide) f_20 (fun _ h9 => h9) rfl (by decide +kernel) rfl rfl (Nat.le_of_ble_eq_true rfl) dX10_init_29 (fun H locs hP hD hS => ?_)
  have hP : va_P D vwCl [(h0, .inr (8, [.int 0, .int 0, .ref q8, .int 0, .ref q17, .int 0, .int 0, .int 1, .int 1, .int 0, .int 0])), (q8, .inl (ca8, 1000, .inl (fun _ => 0))), (q17, .inl (ca17, 1000, .inl (fun _ => 0)))] H := hP
  have hD : va_D A [(h0, .inr (8, [.int 0, .int 0, .ref q8, .int 0, .ref q17, .int 0, .int 0, .int 1, .int 1, .int 0, .int 0])), (q8, .inl (ca8, 1000, .inl (fun _ => 0))), (q17, .inl (ca17, 1000, .inl (fun _ => 0)))] := hD
  refine lv_aload_n hx hb dX10_init_32 rfl (lv_at hl 0 rfl) ?_
  refine lv_iconst (v := 1) hx hb dX10_init_33 (by decide) ?_
  refine va_put (D := D) (ci := 8) (v := .int 1) (ty := .int) (C := RX10) (T := TX10) (N := 11) hx hb hts w_X10 tyX10 tyX10_ok nmX10 hown hK hP hD hS 0 rfl rfl 9 (by decide) f_23 (fun _ h9 => h9) rfl (by decide +kernel) rfl rfl (Nat.le_of_ble_eq_true rfl) dX10_init_34 (fun H locs hP hD hS => ?_)
  have hP : va_P D vwCl [(h0, .inr (8, [.int 0, .int 0, .ref q8, .int 0, .ref q17, .int 0, .int 0, .int 1, .int 1, .int 1, .int 0])), (q8, .inl (ca8, 1000, .inl (fun _ => 0))), (q17, .inl (ca17, 1000, .inl (fun _ => 0)))] H := hP
  have hD : va_D A [(h0, .inr (8, [.int 0, .int 0, .ref q8, .int 0, .ref q17, .int 0, .int 0, .int 1, .int 1, .int 1, .int 0])), (q8, .inl (ca8, 1000, .inl (fun _ => 0))), (q17, .inl (ca17, 1000, .inl (fun _ => 0)))] := hD
  refine lv_aload_n hx hb dX10_init_37 rfl (lv_at hl 0 rfl) ?_
  refine lv_iconst (v := 1) hx hb dX10_init_38 (by decide) ?_
  refine va_put (D := D) (ci := 8) (v := .int 1) (ty := .int) (C := RX10) (T := TX10) (N := 11) hx hb hts w_X10 tyX10 tyX10_ok nmX10 hown hK hP hD hS 0 rfl rfl 10 (by decide) f_26 (fun _ h9 => h9) rfl (by decide +kernel) rfl rfl (Nat.le_of_ble_eq_true rfl) dX10_init_39 (fun H locs hP hD hS => ?_)
  have hP : va_P D vwCl [(h0, .inr (8, [.int 0, .int 0, .ref q8, .int 0, .ref q17, .int 0, .int 0, .int 1, .int 1, .int 1, .int 1])), (q8, .inl (ca8, 1000, .inl (fun _ => 0))), (q17, .inl (ca17, 1000, .inl (fun _ => 0)))] H := hP
  have hD : va_D A [(h0, .inr (8, [.int 0, .int 0, .ref q8, .int 0, .ref q17, .int 0, .int 0, .int 1, .int 1, .int 1, .int 1])), (q8, .inl (ca8, 1000, .inl (fun _ => 0))), (q17, .inl (ca17, 1000, .inl (fun _ => 0)))] := hD
  subst hAe
  subst hQe
  exact W.vret hx hb hr (fun t ht hW => ⟨⟨(ca8, ca17, q8, q17), rfl, trivial, by rw [ht]; exact hP, va_K.moved hW.alike hK, hD⟩, hS.F ht⟩) hS.2.2 dX10_init_42

def fX9_rectangle (gs gt gl gb gr p1 p2 p3 p4 p5 : Int32) : Int32 × Int32 × Int32 × Int32 × Int32 × Int32 := if (fX9_isSheet p1) = 0 then (0, gs, gt, gl, gb, gr) else (if (fX9_areLines p2 p4 1048576) = 0 then (0, gs, gt, gl, gb, gr) else (if (fX9_areLines p3 p5 16384) = 0 then (0, gs, gt, gl, gb, gr) else (1, p1, p2, p3, p4, p5)))
abbrev rmX9_rectangle : Room := { frames := 2, cells := 1, slots := 5, locals := 37 }
abbrev qX9_rectangle (D : va_G) (sz : Nat) (h0 : Nat) (h4 : Nat) (x0 : Value) (x3 : Value) (n : Int32) (gs : Int32) (gt : Int32) (gl : Int32) (gb : Int32) (gr : Int32) (p1 : Int32) (p2 : Int32) (p3 : Int32) (p4 : Int32) (p5 : Int32) : Array Value → State → Outcome → State → Prop := va_Qi (fun r_9 w_9 => ∃ x_9 : Nat, True ∧ r_9 = (fX9_rectangle gs gt gl gb gr p1 p2 p3 p4 p5).1 ∧ w_9 = [(h0, .inr (7, [x0, .int n, .ref x_9, x3])), (x_9, .inr (0, [.int (fX9_rectangle gs gt gl gb gr p1 p2 p3 p4 p5).2.1, .int (fX9_rectangle gs gt gl gb gr p1 p2 p3 p4 p5).2.2.1, .int (fX9_rectangle gs gt gl gb gr p1 p2 p3 p4 p5).2.2.2.1, .int (fX9_rectangle gs gt gl gb gr p1 p2 p3 p4 p5).2.2.2.2.1, .int (fX9_rectangle gs gt gl gb gr p1 p2 p3 p4 p5).2.2.2.2.2]))]) (Bq D (va_A [(h0, .inr (7, [x0, .int n, .ref h4, x3])), (h4, .inr (0, [.int gs, .int gt, .int gl, .int gb, .int gr]))] sz)) (va_A [(h0, .inr (7, [x0, .int n, .ref h4, x3])), (h4, .inr (0, [.int gs, .int gt, .int gl, .int gb, .int gr]))] sz)
set_option maxHeartbeats 4000000 in
set_option maxRecDepth 100000 in
theorem kX9_rectangle (l : Launch) (D : va_G) (sz : Nat) (h0 : Nat) (h4 : Nat) (x0 : Value) (x3 : Value) (n : Int32) (gs : Int32) (gt : Int32) (gl : Int32) (gb : Int32) (gr : Int32) (p1 : Int32) (p2 : Int32) (p3 : Int32) (p4 : Int32) (p5 : Int32) : Met l yX9_rectangle wsX9_rectangle rmX9_rectangle (va_Pc [.ref h0, .int p1, .int p2, .int p3, .int p4, .int p5] (Pw D [] [(h0, .inr (7, [x0, .int n, .ref h4, x3])), (h4, .inr (0, [.int gs, .int gt, .int gl, .int gb, .int gr]))] sz)) (qX9_rectangle D sz h0 h4 x0 x3 n gs gt gl gb gr p1 p2 p3 p4 p5) 1 5 (va_A [(h0, .inr (7, [x0, .int n, .ref h4, x3])), (h4, .inr (0, [.int gs, .int gt, .int gl, .int gb, .int gr]))] sz) := by
  refine Met.ofW (cc := cX9_rectangle) (maxL := 6) (ret := (some .boolean)) (by decide) rfl ?_
  intro p e s m args below meth c s₁ B hml hv
  obtain ⟨rfl, hsz, hP, hK, hD0, hN⟩ := hv
  have hx := B.exec
  have hb := B.bytes
  have hr := B.returns
  have hts := atoms_spec (ws := wsX9_rectangle) B.pre
  have hown : s.vm.findClass RX9 = some m.cls := findClass_of_methodNamed B.named
  have hlocks := B.notSynchronized
  subst hsz
  obtain ⟨Q, hQe⟩ : ∃ Q, Q = MQ below (qX9_rectangle D s.heap.size h0 h4 x0 x3 n gs gt gl gb gr p1 p2 p3 p4 p5) ([.ref h0, .int p1, .int p2, .int p3, .int p4, .int p5] : List Value).toArray s 1 5 (va_A [(h0, .inr (7, [x0, .int n, .ref h4, x3])), (h4, .inr (0, [.int gs, .int gt, .int gl, .int gb, .int gr]))] s.heap.size) := ⟨_, rfl⟩
  rw [← hQe]
  obtain ⟨A, hAe⟩ : ∃ A, A = va_A [(h0, .inr (7, [x0, .int n, .ref h4, x3])), (h4, .inr (0, [.int gs, .int gt, .int gl, .int gb, .int gr]))] s.heap.size := ⟨_, rfl⟩
  have hD : va_D A [(h0, .inr (7, [x0, .int n, .ref h4, x3])), (h4, .inr (0, [.int gs, .int gt, .int gl, .int gb, .int gr]))] := by rw [hAe]; exact hD0.self
  have hA : ∀ q : Nat, s.heap.size ≤ q → A q := by rw [hAe]; exact mo_A
  have hS : va_S A s.heap s.heap [] := va_S.rf
  obtain ⟨H, hHe⟩ : ∃ H, H = s.heap := ⟨_, rfl⟩
  obtain ⟨locs, hLe⟩ : ∃ L : List Loc, L = [] := ⟨_, rfl⟩
  have hP : va_P D vwCl [(h0, .inr (7, [x0, .int n, .ref h4, x3])), (h4, .inr (0, [.int gs, .int gt, .int gl, .int gb, .int gr]))] H := by rw [hHe]; exact hP
  have hS : va_S A s.heap H locs := by rw [hHe, hLe]; exact hS
  have hl := lv_entry ([.ref h0, .int p1, .int p2, .int p3, .int p4, .int p5]) (n := 6) (Nat.le_of_ble_eq_true rfl)
  rw [lg_entry_eq]
  generalize (lg_sl ([.ref h0, .int p1, .int p2, .int p3, .int p4, .int p5]) ++ List.replicate (6 - (lg_sl ([.ref h0, .int p1, .int p2, .int p3, .int p4, .int p5])).length) Slot.unset).toArray = ls at hl ⊢
  have hl : lv_has ls 6 [(0, .ref h0), (1, .int p1), (2, .int p2), (3, .int p3), (4, .int p4), (5, .int p5)] := hl
  refine hStart hHe hLe ?_
  clear hHe hLe
  have k_48 := hts (.constant RX9 48 (1048576)) (by decide +kernel)
  have w_X0 : ∀ w ∈ wsX00, w ∈ wsX9_rectangle := by decide +kernel
  have cl_17 := hts (.classLink RX9 17 RX0) (by decide +kernel)
  have is_X0 := hts (.instantiable RX0 5) (by decide +kernel)
  have in_RX0 := hts (.initialized RX0) (by decide +kernel)
  have ml_19 := hts (.methodLink RX9 19 yX0_init) (by decide +kernel)
  have im_yX0_init := hts (.instanceMethod yX0_init) (by decide +kernel)
  have w_X9 : ∀ w ∈ wsX90, w ∈ wsX9_rectangle := by decide +kernel
  have f_22 := hts (.fieldLink RX9 22 "ReferenceMover" "cut" "LReferenceMover$Area;") (by decide +kernel)
  refine lv_iload_n hx hb dX9_rectangle_0 rfl (lv_at hl 1 rfl) ?_
  have hPc := hP.sub (ws' := []) [] rfl
  have hDc := hD.sub (ws' := []) [] (by decide) rfl
  have hKc := hK.sub (tys' := []) [] rfl
  refine rd_i (va_runS (As := [.int p1]) (rest := []) ⟨hx, hb, hml, hown, hts⟩ (kX9_isSheet l D H.size p1 ) (va_cwS 1 hts gX9_rectangle_X9_isSheet rfl rfl rfl (by decide +kernel) ⟨Nat.le_of_ble_eq_true rfl, Nat.le_of_ble_eq_true rfl⟩) ⟨Pw_blind, fun U hU hW => Pw_at hKc hPc hDc hN hU hW⟩ rfl rfl hl.1 rfl (lv_room (Nat.le_of_ble_eq_true rfl)) dX9_rectangle_1 ⟨show 0 ≤ 1 by decide, show 0 ≤ 5 by decide⟩) ?_
  refine lv_if_eq (tgt := 30) hx hb dX9_rectangle_4 (by decide) (fun c4 => ?_) (fun c4 => ?_)
  · refine lv_iconst (v := 0) hx hb dX9_rectangle_30 (by decide) ?_
    have hF : (fX9_rectangle gs gt gl gb gr p1 p2 p3 p4 p5) = (0, gs, gt, gl, gb, gr) := by exact (if_pos c4)
    have hP := hP.sub (ws' := [(h0, .inr (7, [x0, .int n, .ref h4, x3])), (h4, .inr (0, [.int gs, .int gt, .int gl, .int gb, .int gr]))]) [0, 1] rfl
    have hD := hD.sub (ws' := [(h0, .inr (7, [x0, .int n, .ref h4, x3])), (h4, .inr (0, [.int gs, .int gt, .int gl, .int gb, .int gr]))]) [0, 1] (by decide) rfl
    subst hAe
    subst hQe
    refine W.widen (k := 1) (n := 5) (by decide) (by decide) ?_
    exact W.zret (v := 0) hx hb hr rfl (fun t ht hW => ⟨⟨_, _, rfl, ⟨h4, trivial, by rw [hF], by rw [hF]⟩, by rw [ht]; exact hP, hD⟩, hS.F ht⟩) hS.2.2 dX9_rectangle_31
  · refine lv_iload_n hx hb dX9_rectangle_7 rfl (lv_at hl 2 rfl) ?_
    refine lv_iload hx hb dX9_rectangle_8 (lv_at hl 4 rfl) ?_
    refine lv_ldc (v := 1048576) hx hb hown k_48 dX9_rectangle_10 ?_
    have hPc := hP.sub (ws' := []) [] rfl
    have hDc := hD.sub (ws' := []) [] (by decide) rfl
    have hKc := hK.sub (tys' := []) [] rfl
    refine rd_i (va_runS (As := [.int p2, .int p4, .int 1048576]) (rest := []) ⟨hx, hb, hml, hown, hts⟩ (kX9_areLines l D H.size p2 p4 1048576 ) (va_cwS 3 hts gX9_rectangle_X9_areLines rfl rfl rfl (by decide +kernel) ⟨Nat.le_of_ble_eq_true rfl, Nat.le_of_ble_eq_true rfl⟩) ⟨Pw_blind, fun U hU hW => Pw_at hKc hPc hDc hN hU hW⟩ rfl rfl hl.1 rfl (lv_room (Nat.le_of_ble_eq_true rfl)) dX9_rectangle_12 ⟨show 0 ≤ 1 by decide, show 0 ≤ 5 by decide⟩) ?_
    refine lv_if_eq (tgt := 30) hx hb dX9_rectangle_15 (by decide) (fun c15 => ?_) (fun c15 => ?_)
    · refine lv_iconst (v := 0) hx hb dX9_rectangle_30 (by decide) ?_
      have hF : (fX9_rectangle gs gt gl gb gr p1 p2 p3 p4 p5) = (0, gs, gt, gl, gb, gr) := by exact ((if_neg c4).trans (if_pos c15))
      have hP := hP.sub (ws' := [(h0, .inr (7, [x0, .int n, .ref h4, x3])), (h4, .inr (0, [.int gs, .int gt, .int gl, .int gb, .int gr]))]) [0, 1] rfl
      have hD := hD.sub (ws' := [(h0, .inr (7, [x0, .int n, .ref h4, x3])), (h4, .inr (0, [.int gs, .int gt, .int gl, .int gb, .int gr]))]) [0, 1] (by decide) rfl
      subst hAe
      subst hQe
      refine W.widen (k := 1) (n := 5) (by decide) (by decide) ?_
      exact W.zret (v := 0) hx hb hr rfl (fun t ht hW => ⟨⟨_, _, rfl, ⟨h4, trivial, by rw [hF], by rw [hF]⟩, by rw [ht]; exact hP, hD⟩, hS.F ht⟩) hS.2.2 dX9_rectangle_31
    · refine lv_iload_n hx hb dX9_rectangle_18 rfl (lv_at hl 3 rfl) ?_
      refine lv_iload hx hb dX9_rectangle_19 (lv_at hl 5 rfl) ?_
      refine lv_sipush (v := 16384) hx hb dX9_rectangle_21 (by decide) ?_
      have hPc := hP.sub (ws' := []) [] rfl
      have hDc := hD.sub (ws' := []) [] (by decide) rfl
      have hKc := hK.sub (tys' := []) [] rfl
      refine rd_i (va_runS (As := [.int p3, .int p5, .int 16384]) (rest := []) ⟨hx, hb, hml, hown, hts⟩ (kX9_areLines l D H.size p3 p5 16384 ) (va_cwS 3 hts gX9_rectangle_X9_areLines rfl rfl rfl (by decide +kernel) ⟨Nat.le_of_ble_eq_true rfl, Nat.le_of_ble_eq_true rfl⟩) ⟨Pw_blind, fun U hU hW => Pw_at hKc hPc hDc hN hU hW⟩ rfl rfl hl.1 rfl (lv_room (Nat.le_of_ble_eq_true rfl)) dX9_rectangle_24 ⟨show 0 ≤ 1 by decide, show 0 ≤ 5 by decide⟩) ?_
      refine lv_if_ne (tgt := 32) hx hb dX9_rectangle_27 (by decide) (fun c27 => ?_) (fun c27 => ?_)
      · refine lv_aload_n hx hb dX9_rectangle_32 rfl (lv_at hl 0 rfl) ?_
        refine va_new (ci := 0) (fs := [.int 0, .int 0, .int 0, .int 0, .int 0]) (C := RX0) (T := TX0) (N := 5) hx hb hts w_X0 tyX0 tyX0_ok hown cl_17 is_X0 in_RX0 hK hP hD hS hA rfl (fun j hj => by rcases (show j = 0 ∨ j = 1 ∨ j = 2 ∨ j = 3 ∨ j = 4 by omega) with rfl | rfl | rfl | rfl | rfl <;> rfl) (show 1 ≤ 1 by decide) (show 5 ≤ 5 by decide) dX9_rectangle_33 (fun q33 H hP hD hS => ?_)
        have hP : va_P D vwCl [(h0, .inr (7, [x0, .int n, .ref h4, x3])), (h4, .inr (0, [.int gs, .int gt, .int gl, .int gb, .int gr])), (q33, .inr (0, [.int 0, .int 0, .int 0, .int 0, .int 0]))] H := hP
        have hD : va_D A [(h0, .inr (7, [x0, .int n, .ref h4, x3])), (h4, .inr (0, [.int gs, .int gt, .int gl, .int gb, .int gr])), (q33, .inr (0, [.int 0, .int 0, .int 0, .int 0, .int 0]))] := hD
        refine W.widen (k := 1) (n := 5) (by omega) (by omega) ?_
        refine lv_dup hx hb dX9_rectangle_36 rfl ?_
        refine lv_iload_n hx hb dX9_rectangle_37 rfl (lv_at hl 1 rfl) ?_
        refine lv_iload_n hx hb dX9_rectangle_38 rfl (lv_at hl 2 rfl) ?_
        refine lv_iload_n hx hb dX9_rectangle_39 rfl (lv_at hl 3 rfl) ?_
        refine lv_iload hx hb dX9_rectangle_40 (lv_at hl 4 rfl) ?_
        refine lv_iload hx hb dX9_rectangle_42 (lv_at hl 5 rfl) ?_
        have hPc := hP.sub (ws' := [(q33, .inr (0, [.int 0, .int 0, .int 0, .int 0, .int 0]))]) [2] rfl
        have hDc := hD.sub (ws' := [(q33, .inr (0, [.int 0, .int 0, .int 0, .int 0, .int 0]))]) [2] (by decide) rfl
        have hKc := hK.sub (tys' := []) [] rfl
        refine wk_v (β := Unit) (ok := fun _ => True) (wc := [(q33, .inr (0, [.int 0, .int 0, .int 0, .int 0, .int 0]))]) (wr := [(h0, .inr (7, [x0, .int n, .ref h4, x3])), (h4, .inr (0, [.int gs, .int gt, .int gl, .int gb, .int gr]))]) (w1 := fun _ => [(q33, .inr (0, [.int p1, .int p2, .int p3, .int p4, .int p5]))]) (ws2 := fun _ => [(h0, .inr (7, [x0, .int n, .ref h4, x3])), (h4, .inr (0, [.int gs, .int gt, .int gl, .int gb, .int gr])), (q33, .inr (0, [.int p1, .int p2, .int p3, .int p4, .int p5]))]) (va_runI (As := [.int p1, .int p2, .int p3, .int p4, .int p5]) (rest := [.ref q33, .ref h0]) ⟨hx, hb, hml, hown, hts⟩ (kX0_init l D H.size q33 0 0 0 0 0 p1 p2 p3 p4 p5 ) (cwI 5 hts gX9_rectangle_X0_init rfl rfl rfl in_RX0 ml_19 im_yX0_init rfl (by decide +kernel) ⟨Nat.le_of_ble_eq_true rfl, Nat.le_of_ble_eq_true rfl⟩) ⟨Pw_blind, fun U hU hW => Pw_at hKc hPc hDc hN hU hW⟩ rfl rfl hl.1 rfl (lv_room (Nat.le_of_ble_eq_true rfl)) dX9_rectangle_44 ⟨show 1 ≤ 1 by decide, show 5 ≤ 5 by decide⟩) hP hD hS hA [2] [0, 1] [0, 1, 2] rfl rfl (by decide) (by decide) (fun _ => rfl) (by decide) (fun _ _ H locs hP hD hS => ?_)
        have hP : va_P D vwCl [(h0, .inr (7, [x0, .int n, .ref h4, x3])), (h4, .inr (0, [.int gs, .int gt, .int gl, .int gb, .int gr])), (q33, .inr (0, [.int p1, .int p2, .int p3, .int p4, .int p5]))] H := hP
        have hD : va_D A [(h0, .inr (7, [x0, .int n, .ref h4, x3])), (h4, .inr (0, [.int gs, .int gt, .int gl, .int gb, .int gr])), (q33, .inr (0, [.int p1, .int p2, .int p3, .int p4, .int p5]))] := hD
        refine W.widen (k := 1) (n := 5) (by omega) (by omega) ?_
        refine va_put (D := D) (ci := 7) (v := .ref q33) (ty := (.object "ReferenceMover$Area")) (C := RX9) (T := TX9) (N := 4) hx hb hts w_X9 tyX9 tyX9_ok nmX9 hown hK hP hD hS 0 rfl rfl 2 (by decide) f_22 (fun _ h9 => h9) rfl (by decide +kernel) rfl rfl (Nat.le_of_ble_eq_true rfl) dX9_rectangle_47 (fun H locs hP hD hS => ?_)
        have hP : va_P D vwCl [(h0, .inr (7, [x0, .int n, .ref q33, x3])), (h4, .inr (0, [.int gs, .int gt, .int gl, .int gb, .int gr])), (q33, .inr (0, [.int p1, .int p2, .int p3, .int p4, .int p5]))] H := hP
        have hD : va_D A [(h0, .inr (7, [x0, .int n, .ref q33, x3])), (h4, .inr (0, [.int gs, .int gt, .int gl, .int gb, .int gr])), (q33, .inr (0, [.int p1, .int p2, .int p3, .int p4, .int p5]))] := hD
        refine lv_iconst (v := 1) hx hb dX9_rectangle_50 (by decide) ?_
        have hF : (fX9_rectangle gs gt gl gb gr p1 p2 p3 p4 p5) = (1, p1, p2, p3, p4, p5) := by exact ((if_neg c4).trans ((if_neg c15).trans (if_neg c27)))
        have hP := hP.sub (ws' := [(h0, .inr (7, [x0, .int n, .ref q33, x3])), (q33, .inr (0, [.int p1, .int p2, .int p3, .int p4, .int p5]))]) [0, 2] rfl
        have hD := hD.sub (ws' := [(h0, .inr (7, [x0, .int n, .ref q33, x3])), (q33, .inr (0, [.int p1, .int p2, .int p3, .int p4, .int p5]))]) [0, 2] (by decide) rfl
        subst hAe
        subst hQe
        exact W.zret (v := 1) hx hb hr rfl (fun t ht hW => ⟨⟨_, _, rfl, ⟨q33, trivial, by rw [hF], by rw [hF]⟩, by rw [ht]; exact hP, hD⟩, hS.F ht⟩) hS.2.2 dX9_rectangle_51
      · refine lv_iconst (v := 0) hx hb dX9_rectangle_30 (by decide) ?_
        have hF : (fX9_rectangle gs gt gl gb gr p1 p2 p3 p4 p5) = (0, gs, gt, gl, gb, gr) := by exact ((if_neg c4).trans ((if_neg c15).trans (if_pos c27)))
        have hP := hP.sub (ws' := [(h0, .inr (7, [x0, .int n, .ref h4, x3])), (h4, .inr (0, [.int gs, .int gt, .int gl, .int gb, .int gr]))]) [0, 1] rfl
        have hD := hD.sub (ws' := [(h0, .inr (7, [x0, .int n, .ref h4, x3])), (h4, .inr (0, [.int gs, .int gt, .int gl, .int gb, .int gr]))]) [0, 1] (by decide) rfl
        subst hAe
        subst hQe
        refine W.widen (k := 1) (n := 5) (by decide) (by decide) ?_
        exact W.zret (v := 0) hx hb hr rfl (fun t ht hW => ⟨⟨_, _, rfl, ⟨h4, trivial, by rw [hF], by rw [hF]⟩, by rw [ht]; exact hP, hD⟩, hS.F ht⟩) hS.2.2 dX9_rectangle_31
