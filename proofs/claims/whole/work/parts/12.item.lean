abbrev rmX9_load_4 : Room := { frames := 1, cells := 0, slots := 0, locals := 22 }
abbrev qX9_load_4 (D : va_G) (sz : Nat) (h0 : Nat) (h1 : Nat) (h4 : Nat) (h5 : Nat) (h6 : Nat) (cA : ClassId) (x2 : Value) (n : Int32) (f : Nat → Int32) (isr : Int32) (wh : Int32) (sh : Int32) (rl : Int32) (rf : Int32) (ra : Int32) (rx : Int32) (ry : Int32) (kl : Int32) (kf : Int32) (ka : Int32) (kx : Int32) (ky : Int32) (k : Int32) : Array Value → State → Outcome → State → Prop := va_Qv (fun w_9 => ∃ _u : Unit, True ∧ w_9 = [(h0, .inr (7, [.ref h1, .int n, x2, .ref h4])), (h1, .inl (cA, 1000, .inl f)), (h4, .inr (5, [.ref h5, .ref h6, .int 0, .int (((fX9_word n f k) / 16) &&& 48), .int (fX9_word n f (k + 1))])), (h5, .inr (6, [.int rl, .int (fX9_word n f (k + 2)), .int (fX9_word n f ((k + 4) - 2)), .int (fX9_has ((fX9_word n f k) / 16) 2), .int (fX9_has ((fX9_word n f k) / 16) 2)])), (h6, .inr (6, [.int kl, .int (fX9_word n f (k + 3)), .int (fX9_word n f ((k + 4) - 1)), .int (fX9_has ((fX9_word n f k) / 16) 1), .int (fX9_has ((fX9_word n f k) / 16) 1)]))]) (Bq D (va_A [(h0, .inr (7, [.ref h1, .int n, x2, .ref h4])), (h1, .inl (cA, 1000, .inl f)), (h4, .inr (5, [.ref h5, .ref h6, .int isr, .int wh, .int sh])), (h5, .inr (6, [.int rl, .int rf, .int ra, .int rx, .int ry])), (h6, .inr (6, [.int kl, .int kf, .int ka, .int kx, .int ky]))] sz)) (va_A [(h0, .inr (7, [.ref h1, .int n, x2, .ref h4])), (h1, .inl (cA, 1000, .inl f)), (h4, .inr (5, [.ref h5, .ref h6, .int isr, .int wh, .int sh])), (h5, .inr (6, [.int rl, .int rf, .int ra, .int rx, .int ry])), (h6, .inr (6, [.int kl, .int kf, .int ka, .int kx, .int ky]))] sz)
set_option maxHeartbeats 4000000 in
set_option maxRecDepth 100000 in
theorem kX9_load_4 (l : Launch) (D : va_G) (sz : Nat) (h0 : Nat) (h1 : Nat) (h4 : Nat) (h5 : Nat) (h6 : Nat) (cA : ClassId) (x2 : Value) (n : Int32) (f : Nat → Int32) (isr : Int32) (wh : Int32) (sh : Int32) (rl : Int32) (rf : Int32) (ra : Int32) (rx : Int32) (ry : Int32) (kl : Int32) (kf : Int32) (ka : Int32) (kx : Int32) (ky : Int32) (k : Int32) : Met l yX9_load wsX9_load rmX9_load_4 (va_Pc [.ref h0, .int k, .int 4] (Pw D [(cA, .int)] [(h0, .inr (7, [.ref h1, .int n, x2, .ref h4])), (h1, .inl (cA, 1000, .inl f)), (h4, .inr (5, [.ref h5, .ref h6, .int isr, .int wh, .int sh])), (h5, .inr (6, [.int rl, .int rf, .int ra, .int rx, .int ry])), (h6, .inr (6, [.int kl, .int kf, .int ka, .int kx, .int ky]))] sz)) (qX9_load_4 D sz h0 h1 h4 h5 h6 cA x2 n f isr wh sh rl rf ra rx ry kl kf ka kx ky k) 0 0 (va_A [(h0, .inr (7, [.ref h1, .int n, x2, .ref h4])), (h1, .inl (cA, 1000, .inl f)), (h4, .inr (5, [.ref h5, .ref h6, .int isr, .int wh, .int sh])), (h5, .inr (6, [.int rl, .int rf, .int ra, .int rx, .int ry])), (h6, .inr (6, [.int kl, .int kf, .int ka, .int kx, .int ky]))] sz) := by
  refine Met.ofW (cc := cX9_load) (maxL := 6) (ret := none) (by decide) rfl ?_
  intro p e s m args below meth c s₁ B hml hv
  obtain ⟨rfl, hsz, hP, hK, hD0, hN⟩ := hv
  have hx := B.exec
  have hb := B.bytes
  have hr := B.returns
  have hts := atoms_spec (ws := wsX9_load) B.pre
  have hown : s.vm.findClass RX9 = some m.cls := findClass_of_methodNamed B.named
  have hlocks := B.notSynchronized
  subst hsz
  obtain ⟨Q, hQe⟩ : ∃ Q, Q = MQ below (qX9_load_4 D s.heap.size h0 h1 h4 h5 h6 cA x2 n f isr wh sh rl rf ra rx ry kl kf ka kx ky k) ([.ref h0, .int k, .int 4] : List Value).toArray s 0 0 (va_A [(h0, .inr (7, [.ref h1, .int n, x2, .ref h4])), (h1, .inl (cA, 1000, .inl f)), (h4, .inr (5, [.ref h5, .ref h6, .int isr, .int wh, .int sh])), (h5, .inr (6, [.int rl, .int rf, .int ra, .int rx, .int ry])), (h6, .inr (6, [.int kl, .int kf, .int ka, .int kx, .int ky]))] s.heap.size) := ⟨_, rfl⟩
  rw [← hQe]
  obtain ⟨A, hAe⟩ : ∃ A, A = va_A [(h0, .inr (7, [.ref h1, .int n, x2, .ref h4])), (h1, .inl (cA, 1000, .inl f)), (h4, .inr (5, [.ref h5, .ref h6, .int isr, .int wh, .int sh])), (h5, .inr (6, [.int rl, .int rf, .int ra, .int rx, .int ry])), (h6, .inr (6, [.int kl, .int kf, .int ka, .int kx, .int ky]))] s.heap.size := ⟨_, rfl⟩
  have hD : va_D A [(h0, .inr (7, [.ref h1, .int n, x2, .ref h4])), (h1, .inl (cA, 1000, .inl f)), (h4, .inr (5, [.ref h5, .ref h6, .int isr, .int wh, .int sh])), (h5, .inr (6, [.int rl, .int rf, .int ra, .int rx, .int ry])), (h6, .inr (6, [.int kl, .int kf, .int ka, .int kx, .int ky]))] := by rw [hAe]; exact hD0.self
  have hA : ∀ q : Nat, s.heap.size ≤ q → A q := by rw [hAe]; exact mo_A
  have hS : va_S A s.heap s.heap [] := va_S.rf
  obtain ⟨H, hHe⟩ : ∃ H, H = s.heap := ⟨_, rfl⟩
  obtain ⟨locs, hLe⟩ : ∃ L : List Loc, L = [] := ⟨_, rfl⟩
  have hP : va_P D vwCl [(h0, .inr (7, [.ref h1, .int n, x2, .ref h4])), (h1, .inl (cA, 1000, .inl f)), (h4, .inr (5, [.ref h5, .ref h6, .int isr, .int wh, .int sh])), (h5, .inr (6, [.int rl, .int rf, .int ra, .int rx, .int ry])), (h6, .inr (6, [.int kl, .int kf, .int ka, .int kx, .int ky]))] H := by rw [hHe]; exact hP
  have hS : va_S A s.heap H locs := by rw [hHe, hLe]; exact hS
  have hl := lv_entry ([.ref h0, .int k, .int 4]) (n := 6) (Nat.le_of_ble_eq_true rfl)
  rw [lg_entry_eq]
  generalize (lg_sl ([.ref h0, .int k, .int 4]) ++ List.replicate (6 - (lg_sl ([.ref h0, .int k, .int 4])).length) Slot.unset).toArray = ls at hl ⊢
  have hl : lv_has ls 6 [(0, .ref h0), (1, .int k), (2, .int 4)] := hl
  refine hStart hHe hLe ?_
  clear hHe hLe
  have w_X9 : ∀ w ∈ wsX90, w ∈ wsX9_load := by decide +kernel
  have f_29 := hts (.fieldLink RX9 29 "ReferenceMover" "reference" "LReferenceMover$Reference;") (by decide +kernel)
  have w_X7 : ∀ w ∈ wsX70, w ∈ wsX9_load := by decide +kernel
  have f_144 := hts (.fieldLink RX9 144 "ReferenceMover$Reference" "isRange" "Z") (by decide +kernel)
  have f_148 := hts (.fieldLink RX9 148 "ReferenceMover$Reference" "whole" "I") (by decide +kernel)
  have f_151 := hts (.fieldLink RX9 151 "ReferenceMover$Reference" "sheet" "I") (by decide +kernel)
  have f_154 := hts (.fieldLink RX9 154 "ReferenceMover$Reference" "rows" "LReferenceMover$Span;") (by decide +kernel)
  have f_164 := hts (.fieldLink RX9 164 "ReferenceMover$Reference" "columns" "LReferenceMover$Span;") (by decide +kernel)
  refine lv_iload_n hx hb dX9_load_0 rfl (lv_at hl 2 rfl) ?_
  refine lv_bipush (v := 6) hx hb dX9_load_1 (by decide) ?_
  refine lv_icmp_ne (tgt := 10) hx hb dX9_load_3 (by decide) (fun _ => ?_) (fun h => absurd h (by decide))
  refine lv_iconst (v := 0) hx hb dX9_load_10 (by decide) ?_
  refine lv_istore_n (lv' := [(3, .int 0), (0, .ref h0), (1, .int k), (2, .int 4)]) hx hb dX9_load_11 rfl hl (by decide) rfl (fun ls hl => ?_)
  refine lv_aload_n hx hb dX9_load_12 rfl (lv_at hl 1 rfl) ?_
  refine lv_iload_n hx hb dX9_load_13 rfl (lv_at hl 2 rfl) ?_
  have hPc := hP.sub (ws' := [(h0, .inr (7, [.ref h1, .int n, x2, .ref h4])), (h1, .inl (cA, 1000, .inl f))]) [0, 1] rfl
  have hDc := hD.sub (ws' := [(h0, .inr (7, [.ref h1, .int n, x2, .ref h4])), (h1, .inl (cA, 1000, .inl f))]) [0, 1] (by decide) rfl
  have hKc := hK.sub (tys' := [(cA, .int)]) [0] rfl
  refine rd_i (va_runV (As := [.int k]) (rest := []) ⟨hx, hb, hml, hown, hts⟩ (kX9_word l D H.size h0 h1 cA x2 (.ref h4) n f k ) (cwV 1 hts gX9_load_X9_word rfl rfl rfl (by decide +kernel) ⟨Nat.le_of_ble_eq_true rfl, Nat.le_of_ble_eq_true rfl⟩) ⟨Pw_blind, (va_recv hKc hPc (ci := 7) (q0 := 0) rfl rfl), fun U hU hW => Pw_at hKc hPc hDc hN hU hW⟩ rfl rfl hl.1 rfl (lv_room (Nat.le_of_ble_eq_true rfl)) dX9_load_14 ⟨Nat.le_of_ble_eq_true rfl, Nat.le_of_ble_eq_true rfl⟩) ?_
  refine lv_bipush (v := 16) hx hb dX9_load_17 (by decide) ?_
  refine lv_idiv hx hb dX9_load_19 (by decide) ?_
  refine lv_istore (lv' := [(4, .int ((fX9_word n f k) / 16)), (3, .int 0), (0, .ref h0), (1, .int k), (2, .int 4)]) hx hb dX9_load_20 hl (by decide) rfl (fun ls hl => ?_)
  refine lv_iload_n hx hb dX9_load_22 rfl (lv_at hl 1 rfl) ?_
  refine lv_if_eq (tgt := 33) hx hb dX9_load_23 (by decide) (fun _ => ?_) (fun h => absurd h (by decide))
  refine lv_iload hx hb dX9_load_33 (lv_at hl 0 rfl) ?_
  refine lv_istore (lv' := [(5, .int ((fX9_word n f k) / 16)), (4, .int ((fX9_word n f k) / 16)), (3, .int 0), (0, .ref h0), (1, .int k), (2, .int 4)]) hx hb dX9_load_35 hl (by decide) rfl (fun ls hl => ?_)
  refine lv_aload_n hx hb dX9_load_37 rfl (lv_at hl 3 rfl) ?_
  refine va_get (D := D) (ci := 7) (v := .ref h4) (C := RX9) (T := TX9) (N := 4) hx hb hts w_X9 hown hK hP 0 rfl rfl 3 (by decide) f_29 (fun _ h9 => h9) rfl dX9_load_38 ?_
  refine lv_iload_n hx hb dX9_load_41 rfl (lv_at hl 2 rfl) ?_
  refine va_put (D := D) (ci := 5) (v := .int 0) (ty := .boolean) (C := RX7) (T := TX7) (N := 5) hx hb hts w_X7 tyX7 tyX7_ok nmX7 hown hK hP hD hS 2 rfl rfl 2 (by decide) f_144 (fun _ h9 => h9) rfl (by decide +kernel) rfl rfl (Nat.le_of_ble_eq_true rfl) dX9_load_42 (fun H locs hP hD hS => ?_)
  have hP : va_P D vwCl [(h0, .inr (7, [.ref h1, .int n, x2, .ref h4])), (h1, .inl (cA, 1000, .inl f)), (h4, .inr (5, [.ref h5, .ref h6, .int 0, .int wh, .int sh])), (h5, .inr (6, [.int rl, .int rf, .int ra, .int rx, .int ry])), (h6, .inr (6, [.int kl, .int kf, .int ka, .int kx, .int ky]))] H := hP
  have hD : va_D A [(h0, .inr (7, [.ref h1, .int n, x2, .ref h4])), (h1, .inl (cA, 1000, .inl f)), (h4, .inr (5, [.ref h5, .ref h6, .int 0, .int wh, .int sh])), (h5, .inr (6, [.int rl, .int rf, .int ra, .int rx, .int ry])), (h6, .inr (6, [.int kl, .int kf, .int ka, .int kx, .int ky]))] := hD
  refine lv_aload_n hx hb dX9_load_45 rfl (lv_at hl 3 rfl) ?_
  refine va_get (D := D) (ci := 7) (v := .ref h4) (C := RX9) (T := TX9) (N := 4) hx hb hts w_X9 hown hK hP 0 rfl rfl 3 (by decide) f_29 (fun _ h9 => h9) rfl dX9_load_46 ?_
  refine lv_iload hx hb dX9_load_49 (lv_at hl 1 rfl) ?_
  refine lv_bipush (v := 48) hx hb dX9_load_51 (by decide) ?_
  refine lv_iand hx hb dX9_load_53 ?_
  refine va_put (D := D) (ci := 5) (v := .int (((fX9_word n f k) / 16) &&& 48)) (ty := .int) (C := RX7) (T := TX7) (N := 5) hx hb hts w_X7 tyX7 tyX7_ok nmX7 hown hK hP hD hS 2 rfl rfl 3 (by decide) f_148 (fun _ h9 => h9) rfl (by decide +kernel) rfl rfl (Nat.le_of_ble_eq_true rfl) dX9_load_54 (fun H locs hP hD hS => ?_)
  have hP : va_P D vwCl [(h0, .inr (7, [.ref h1, .int n, x2, .ref h4])), (h1, .inl (cA, 1000, .inl f)), (h4, .inr (5, [.ref h5, .ref h6, .int 0, .int (((fX9_word n f k) / 16) &&& 48), .int sh])), (h5, .inr (6, [.int rl, .int rf, .int ra, .int rx, .int ry])), (h6, .inr (6, [.int kl, .int kf, .int ka, .int kx, .int ky]))] H := hP
  have hD : va_D A [(h0, .inr (7, [.ref h1, .int n, x2, .ref h4])), (h1, .inl (cA, 1000, .inl f)), (h4, .inr (5, [.ref h5, .ref h6, .int 0, .int (((fX9_word n f k) / 16) &&& 48), .int sh])), (h5, .inr (6, [.int rl, .int rf, .int ra, .int rx, .int ry])), (h6, .inr (6, [.int kl, .int kf, .int ka, .int kx, .int ky]))] := hD
  refine lv_aload_n hx hb dX9_load_57 rfl (lv_at hl 3 rfl) ?_
  refine va_get (D := D) (ci := 7) (v := .ref h4) (C := RX9) (T := TX9) (N := 4) hx hb hts w_X9 hown hK hP 0 rfl rfl 3 (by decide) f_29 (fun _ h9 => h9) rfl dX9_load_58 ?_
  refine lv_aload_n hx hb dX9_load_61 rfl (lv_at hl 3 rfl) ?_
  refine lv_iload_n hx hb dX9_load_62 rfl (lv_at hl 4 rfl) ?_
  refine lv_iconst (v := 1) hx hb dX9_load_63 (by decide) ?_
  refine lv_iadd hx hb dX9_load_64 ?_
  have hPc := hP.sub (ws' := [(h0, .inr (7, [.ref h1, .int n, x2, .ref h4])), (h1, .inl (cA, 1000, .inl f))]) [0, 1] rfl
  have hDc := hD.sub (ws' := [(h0, .inr (7, [.ref h1, .int n, x2, .ref h4])), (h1, .inl (cA, 1000, .inl f))]) [0, 1] (by decide) rfl
  have hKc := hK.sub (tys' := [(cA, .int)]) [0] rfl
  refine rd_i (va_runV (As := [.int (k + 1)]) (rest := [.ref h4]) ⟨hx, hb, hml, hown, hts⟩ (kX9_word l D H.size h0 h1 cA x2 (.ref h4) n f (k + 1) ) (cwV 1 hts gX9_load_X9_word rfl rfl rfl (by decide +kernel) ⟨Nat.le_of_ble_eq_true rfl, Nat.le_of_ble_eq_true rfl⟩) ⟨Pw_blind, (va_recv hKc hPc (ci := 7) (q0 := 0) rfl rfl), fun U hU hW => Pw_at hKc hPc hDc hN hU hW⟩ rfl rfl hl.1 rfl (lv_room (Nat.le_of_ble_eq_true rfl)) dX9_load_65 ⟨Nat.le_of_ble_eq_true rfl, Nat.le_of_ble_eq_true rfl⟩) ?_
  refine va_put (D := D) (ci := 5) (v := .int (fX9_word n f (k + 1))) (ty := .int) (C := RX7) (T := TX7) (N := 5) hx hb hts w_X7 tyX7 tyX7_ok nmX7 hown hK hP hD hS 2 rfl rfl 4 (by decide) f_151 (fun _ h9 => h9) rfl (by decide +kernel) rfl rfl (Nat.le_of_ble_eq_true rfl) dX9_load_68 (fun H locs hP hD hS => ?_)
  have hP : va_P D vwCl [(h0, .inr (7, [.ref h1, .int n, x2, .ref h4])), (h1, .inl (cA, 1000, .inl f)), (h4, .inr (5, [.ref h5, .ref h6, .int 0, .int (((fX9_word n f k) / 16) &&& 48), .int (fX9_word n f (k + 1))])), (h5, .inr (6, [.int rl, .int rf, .int ra, .int rx, .int ry])), (h6, .inr (6, [.int kl, .int kf, .int ka, .int kx, .int ky]))] H := hP
  have hD : va_D A [(h0, .inr (7, [.ref h1, .int n, x2, .ref h4])), (h1, .inl (cA, 1000, .inl f)), (h4, .inr (5, [.ref h5, .ref h6, .int 0, .int (((fX9_word n f k) / 16) &&& 48), .int (fX9_word n f (k + 1))])), (h5, .inr (6, [.int rl, .int rf, .int ra, .int rx, .int ry])), (h6, .inr (6, [.int kl, .int kf, .int ka, .int kx, .int ky]))] := hD
  refine lv_aload_n hx hb dX9_load_71 rfl (lv_at hl 3 rfl) ?_
  refine va_get (D := D) (ci := 7) (v := .ref h4) (C := RX9) (T := TX9) (N := 4) hx hb hts w_X9 hown hK hP 0 rfl rfl 3 (by decide) f_29 (fun _ h9 => h9) rfl dX9_load_72 ?_
  refine va_get (D := D) (ci := 5) (v := .ref h5) (C := RX7) (T := TX7) (N := 5) hx hb hts w_X7 hown hK hP 2 rfl rfl 0 (by decide) f_154 (fun _ h9 => h9) rfl dX9_load_75 ?_
  refine lv_aload_n hx hb dX9_load_78 rfl (lv_at hl 3 rfl) ?_
  refine lv_iload_n hx hb dX9_load_79 rfl (lv_at hl 4 rfl) ?_
  refine lv_iconst (v := 2) hx hb dX9_load_80 (by decide) ?_
  refine lv_iadd hx hb dX9_load_81 ?_
  have hPc := hP.sub (ws' := [(h0, .inr (7, [.ref h1, .int n, x2, .ref h4])), (h1, .inl (cA, 1000, .inl f))]) [0, 1] rfl
  have hDc := hD.sub (ws' := [(h0, .inr (7, [.ref h1, .int n, x2, .ref h4])), (h1, .inl (cA, 1000, .inl f))]) [0, 1] (by decide) rfl
  have hKc := hK.sub (tys' := [(cA, .int)]) [0] rfl
  refine rd_i (va_runV (As := [.int (k + 2)]) (rest := [.ref h5]) ⟨hx, hb, hml, hown, hts⟩ (kX9_word l D H.size h0 h1 cA x2 (.ref h4) n f (k + 2) ) (cwV 1 hts gX9_load_X9_word rfl rfl rfl (by decide +kernel) ⟨Nat.le_of_ble_eq_true rfl, Nat.le_of_ble_eq_true rfl⟩) ⟨Pw_blind, (va_recv hKc hPc (ci := 7) (q0 := 0) rfl rfl), fun U hU hW => Pw_at hKc hPc hDc hN hU hW⟩ rfl rfl hl.1 rfl (lv_room (Nat.le_of_ble_eq_true rfl)) dX9_load_82 ⟨Nat.le_of_ble_eq_true rfl, Nat.le_of_ble_eq_true rfl⟩) ?_
  refine lv_iload hx hb dX9_load_85 (lv_at hl 1 rfl) ?_
  refine lv_iconst (v := 2) hx hb dX9_load_87 (by decide) ?_
  have hPc := hP.sub (ws' := []) [] rfl
  have hDc := hD.sub (ws' := []) [] (by decide) rfl
  have hKc := hK.sub (tys' := []) [] rfl
  refine rd_i (va_runS (As := [.int ((fX9_word n f k) / 16), .int 2]) (rest := [.int (fX9_word n f (k + 2)), .ref h5]) ⟨hx, hb, hml, hown, hts⟩ (kX9_has l D H.size ((fX9_word n f k) / 16) 2 ) (va_cwS 2 hts gX9_load_X9_has rfl rfl rfl (by decide +kernel) ⟨Nat.le_of_ble_eq_true rfl, Nat.le_of_ble_eq_true rfl⟩) ⟨Pw_blind, fun U hU hW => Pw_at hKc hPc hDc hN hU hW⟩ rfl rfl hl.1 rfl (lv_room (Nat.le_of_ble_eq_true rfl)) dX9_load_88 ⟨Nat.le_of_ble_eq_true rfl, Nat.le_of_ble_eq_true rfl⟩) ?_
  have hPc := hP.sub (ws' := [(h5, .inr (6, [.int rl, .int rf, .int ra, .int rx, .int ry]))]) [3] rfl
  have hDc := hD.sub (ws' := [(h5, .inr (6, [.int rl, .int rf, .int ra, .int rx, .int ry]))]) [3] (by decide) rfl
  have hKc := hK.sub (tys' := []) [] rfl
  refine wk_v (β := Unit) (ok := fun _ => True) (wc := [(h5, .inr (6, [.int rl, .int rf, .int ra, .int rx, .int ry]))]) (wr := [(h0, .inr (7, [.ref h1, .int n, x2, .ref h4])), (h1, .inl (cA, 1000, .inl f)), (h4, .inr (5, [.ref h5, .ref h6, .int 0, .int (((fX9_word n f k) / 16) &&& 48), .int (fX9_word n f (k + 1))])), (h6, .inr (6, [.int kl, .int kf, .int ka, .int kx, .int ky]))]) (w1 := fun _ => [(h5, .inr (6, [.int rl, .int (fX9_word n f (k + 2)), .int ra, .int (fX9_has ((fX9_word n f k) / 16) 2), .int ry]))]) (ws2 := fun _ => [(h0, .inr (7, [.ref h1, .int n, x2, .ref h4])), (h1, .inl (cA, 1000, .inl f)), (h4, .inr (5, [.ref h5, .ref h6, .int 0, .int (((fX9_word n f k) / 16) &&& 48), .int (fX9_word n f (k + 1))])), (h5, .inr (6, [.int rl, .int (fX9_word n f (k + 2)), .int ra, .int (fX9_has ((fX9_word n f k) / 16) 2), .int ry])), (h6, .inr (6, [.int kl, .int kf, .int ka, .int kx, .int ky]))]) (va_runV (As := [.int (fX9_word n f (k + 2)), .int (fX9_has ((fX9_word n f k) / 16) 2)]) (rest := []) ⟨hx, hb, hml, hown, hts⟩ (kX8_setFirst l D H.size h5 rl rf ra rx ry (fX9_word n f (k + 2)) (fX9_has ((fX9_word n f k) / 16) 2) (zb_X9_has _ _)) (cwV 2 hts gX9_load_X8_setFirst rfl rfl rfl (by decide +kernel) ⟨Nat.le_of_ble_eq_true rfl, Nat.le_of_ble_eq_true rfl⟩) ⟨Pw_blind, (va_recv hKc hPc (ci := 6) (q0 := 0) rfl rfl), fun U hU hW => Pw_at hKc hPc hDc hN hU hW⟩ rfl rfl hl.1 rfl (lv_room (Nat.le_of_ble_eq_true rfl)) dX9_load_91 ⟨Nat.le_of_ble_eq_true rfl, Nat.le_of_ble_eq_true rfl⟩) hP hD hS hA [3] [0, 1, 2, 4] [0, 1, 2, 4, 3] rfl rfl (by decide) (by decide) (fun _ => rfl) (by decide) (fun _ _ H locs hP hD hS => ?_)
  have hP : va_P D vwCl [(h0, .inr (7, [.ref h1, .int n, x2, .ref h4])), (h1, .inl (cA, 1000, .inl f)), (h4, .inr (5, [.ref h5, .ref h6, .int 0, .int (((fX9_word n f k) / 16) &&& 48), .int (fX9_word n f (k + 1))])), (h5, .inr (6, [.int rl, .int (fX9_word n f (k + 2)), .int ra, .int (fX9_has ((fX9_word n f k) / 16) 2), .int ry])), (h6, .inr (6, [.int kl, .int kf, .int ka, .int kx, .int ky]))] H := hP
  have hD : va_D A [(h0, .inr (7, [.ref h1, .int n, x2, .ref h4])), (h1, .inl (cA, 1000, .inl f)), (h4, .inr (5, [.ref h5, .ref h6, .int 0, .int (((fX9_word n f k) / 16) &&& 48), .int (fX9_word n f (k + 1))])), (h5, .inr (6, [.int rl, .int (fX9_word n f (k + 2)), .int ra, .int (fX9_has ((fX9_word n f k) / 16) 2), .int ry])), (h6, .inr (6, [.int kl, .int kf, .int ka, .int kx, .int ky]))] := hD
  refine lv_aload_n hx hb dX9_load_94 rfl (lv_at hl 3 rfl) ?_
  refine va_get (D := D) (ci := 7) (v := .ref h4) (C := RX9) (T := TX9) (N := 4) hx hb hts w_X9 hown hK hP 0 rfl rfl 3 (by decide) f_29 (fun _ h9 => h9) rfl dX9_load_95 ?_
  refine va_get (D := D) (ci := 5) (v := .ref h6) (C := RX7) (T := TX7) (N := 5) hx hb hts w_X7 hown hK hP 2 rfl rfl 1 (by decide) f_164 (fun _ h9 => h9) rfl dX9_load_98 ?_
  refine lv_aload_n hx hb dX9_load_101 rfl (lv_at hl 3 rfl) ?_
  refine lv_iload_n hx hb dX9_load_102 rfl (lv_at hl 4 rfl) ?_
  refine lv_iconst (v := 3) hx hb dX9_load_103 (by decide) ?_
  refine lv_iadd hx hb dX9_load_104 ?_
  have hPc := hP.sub (ws' := [(h0, .inr (7, [.ref h1, .int n, x2, .ref h4])), (h1, .inl (cA, 1000, .inl f))]) [0, 1] rfl
  have hDc := hD.sub (ws' := [(h0, .inr (7, [.ref h1, .int n, x2, .ref h4])), (h1, .inl (cA, 1000, .inl f))]) [0, 1] (by decide) rfl
  have hKc := hK.sub (tys' := [(cA, .int)]) [0] rfl
  refine rd_i (va_runV (As := [.int (k + 3)]) (rest := [.ref h6]) ⟨hx, hb, hml, hown, hts⟩ (kX9_word l D H.size h0 h1 cA x2 (.ref h4) n f (k + 3) ) (cwV 1 hts gX9_load_X9_word rfl rfl rfl (by decide +kernel) ⟨Nat.le_of_ble_eq_true rfl, Nat.le_of_ble_eq_true rfl⟩) ⟨Pw_blind, (va_recv hKc hPc (ci := 7) (q0 := 0) rfl rfl), fun U hU hW => Pw_at hKc hPc hDc hN hU hW⟩ rfl rfl hl.1 rfl (lv_room (Nat.le_of_ble_eq_true rfl)) dX9_load_105 ⟨Nat.le_of_ble_eq_true rfl, Nat.le_of_ble_eq_true rfl⟩) ?_
  refine lv_iload hx hb dX9_load_108 (lv_at hl 1 rfl) ?_
  refine lv_iconst (v := 1) hx hb dX9_load_110 (by decide) ?_
  have hPc := hP.sub (ws' := []) [] rfl
  have hDc := hD.sub (ws' := []) [] (by decide) rfl
  have hKc := hK.sub (tys' := []) [] rfl
  refine rd_i (va_runS (As := [.int ((fX9_word n f k) / 16), .int 1]) (rest := [.int (fX9_word n f (k + 3)), .ref h6]) ⟨hx, hb, hml, hown, hts⟩ (kX9_has l D H.size ((fX9_word n f k) / 16) 1 ) (va_cwS 2 hts gX9_load_X9_has rfl rfl rfl (by decide +kernel) ⟨Nat.le_of_ble_eq_true rfl, Nat.le_of_ble_eq_true rfl⟩) ⟨Pw_blind, fun U hU hW => Pw_at hKc hPc hDc hN hU hW⟩ rfl rfl hl.1 rfl (lv_room (Nat.le_of_ble_eq_true rfl)) dX9_load_111 ⟨Nat.le_of_ble_eq_true rfl, Nat.le_of_ble_eq_true rfl⟩) ?_
  have hPc := hP.sub (ws' := [(h6, .inr (6, [.int kl, .int kf, .int ka, .int kx, .int ky]))]) [4] rfl
  have hDc := hD.sub (ws' := [(h6, .inr (6, [.int kl, .int kf, .int ka, .int kx, .int ky]))]) [4] (by decide) rfl
  have hKc := hK.sub (tys' := []) [] rfl
  refine wk_v (β := Unit) (ok := fun _ => True) (wc := [(h6, .inr (6, [.int kl, .int kf, .int ka, .int kx, .int ky]))]) (wr := [(h0, .inr (7, [.ref h1, .int n, x2, .ref h4])), (h1, .inl (cA, 1000, .inl f)), (h4, .inr (5, [.ref h5, .ref h6, .int 0, .int (((fX9_word n f k) / 16) &&& 48), .int (fX9_word n f (k + 1))])), (h5, .inr (6, [.int rl, .int (fX9_word n f (k + 2)), .int ra, .int (fX9_has ((fX9_word n f k) / 16) 2), .int ry]))]) (w1 := fun _ => [(h6, .inr (6, [.int kl, .int (fX9_word n f (k + 3)), .int ka, .int (fX9_has ((fX9_word n f k) / 16) 1), .int ky]))]) (ws2 := fun _ => [(h0, .inr (7, [.ref h1, .int n, x2, .ref h4])), (h1, .inl (cA, 1000, .inl f)), (h4, .inr (5, [.ref h5, .ref h6, .int 0, .int (((fX9_word n f k) / 16) &&& 48), .int (fX9_word n f (k + 1))])), (h5, .inr (6, [.int rl, .int (fX9_word n f (k + 2)), .int ra, .int (fX9_has ((fX9_word n f k) / 16) 2), .int ry])), (h6, .inr (6, [.int kl, .int (fX9_word n f (k + 3)), .int ka, .int (fX9_has ((fX9_word n f k) / 16) 1), .int ky]))]) (va_runV (As := [.int (fX9_word n f (k + 3)), .int (fX9_has ((fX9_word n f k) / 16) 1)]) (rest := []) ⟨hx, hb, hml, hown, hts⟩ (kX8_setFirst l D H.size h6 kl kf ka kx ky (fX9_word n f (k + 3)) (fX9_has ((fX9_word n f k) / 16) 1) (zb_X9_has _ _)) (cwV 2 hts gX9_load_X8_setFirst rfl rfl rfl (by decide +kernel) ⟨Nat.le_of_ble_eq_true rfl, Nat.le_of_ble_eq_true rfl⟩) ⟨Pw_blind, (va_recv hKc hPc (ci := 6) (q0 := 0) rfl rfl), fun U hU hW => Pw_at hKc hPc hDc hN hU hW⟩ rfl rfl hl.1 rfl (lv_room (Nat.le_of_ble_eq_true rfl)) dX9_load_114 ⟨Nat.le_of_ble_eq_true rfl, Nat.le_of_ble_eq_true rfl⟩) hP hD hS hA [4] [0, 1, 2, 3] [0, 1, 2, 3, 4] rfl rfl (by decide) (by decide) (fun _ => rfl) (by decide) (fun _ _ H locs hP hD hS => ?_)
  have hP : va_P D vwCl [(h0, .inr (7, [.ref h1, .int n, x2, .ref h4])), (h1, .inl (cA, 1000, .inl f)), (h4, .inr (5, [.ref h5, .ref h6, .int 0, .int (((fX9_word n f k) / 16) &&& 48), .int (fX9_word n f (k + 1))])), (h5, .inr (6, [.int rl, .int (fX9_word n f (k + 2)), .int ra, .int (fX9_has ((fX9_word n f k) / 16) 2), .int ry])), (h6, .inr (6, [.int kl, .int (fX9_word n f (k + 3)), .int ka, .int (fX9_has ((fX9_word n f k) / 16) 1), .int ky]))] H := hP
  have hD : va_D A [(h0, .inr (7, [.ref h1, .int n, x2, .ref h4])), (h1, .inl (cA, 1000, .inl f)), (h4, .inr (5, [.ref h5, .ref h6, .int 0, .int (((fX9_word n f k) / 16) &&& 48), .int (fX9_word n f (k + 1))])), (h5, .inr (6, [.int rl, .int (fX9_word n f (k + 2)), .int ra, .int (fX9_has ((fX9_word n f k) / 16) 2), .int ry])), (h6, .inr (6, [.int kl, .int (fX9_word n f (k + 3)), .int ka, .int (fX9_has ((fX9_word n f k) / 16) 1), .int ky]))] := hD
  refine lv_aload_n hx hb dX9_load_117 rfl (lv_at hl 3 rfl) ?_
  refine va_get (D := D) (ci := 7) (v := .ref h4) (C := RX9) (T := TX9) (N := 4) hx hb hts w_X9 hown hK hP 0 rfl rfl 3 (by decide) f_29 (fun _ h9 => h9) rfl dX9_load_118 ?_
  refine va_get (D := D) (ci := 5) (v := .ref h5) (C := RX7) (T := TX7) (N := 5) hx hb hts w_X7 hown hK hP 2 rfl rfl 0 (by decide) f_154 (fun _ h9 => h9) rfl dX9_load_121 ?_
  refine lv_aload_n hx hb dX9_load_124 rfl (lv_at hl 3 rfl) ?_
  refine lv_iload_n hx hb dX9_load_125 rfl (lv_at hl 4 rfl) ?_
  refine lv_iload_n hx hb dX9_load_126 rfl (lv_at hl 5 rfl) ?_
  refine lv_iadd hx hb dX9_load_127 ?_
  refine lv_iconst (v := 2) hx hb dX9_load_128 (by decide) ?_
  refine lv_isub hx hb dX9_load_129 ?_
  have hPc := hP.sub (ws' := [(h0, .inr (7, [.ref h1, .int n, x2, .ref h4])), (h1, .inl (cA, 1000, .inl f))]) [0, 1] rfl
  have hDc := hD.sub (ws' := [(h0, .inr (7, [.ref h1, .int n, x2, .ref h4])), (h1, .inl (cA, 1000, .inl f))]) [0, 1] (by decide) rfl
  have hKc := hK.sub (tys' := [(cA, .int)]) [0] rfl
  refine rd_i (va_runV (As := [.int ((k + 4) - 2)]) (rest := [.ref h5]) ⟨hx, hb, hml, hown, hts⟩ (kX9_word l D H.size h0 h1 cA x2 (.ref h4) n f ((k + 4) - 2) ) (cwV 1 hts gX9_load_X9_word rfl rfl rfl (by decide +kernel) ⟨Nat.le_of_ble_eq_true rfl, Nat.le_of_ble_eq_true rfl⟩) ⟨Pw_blind, (va_recv hKc hPc (ci := 7) (q0 := 0) rfl rfl), fun U hU hW => Pw_at hKc hPc hDc hN hU hW⟩ rfl rfl hl.1 rfl (lv_room (Nat.le_of_ble_eq_true rfl)) dX9_load_130 ⟨Nat.le_of_ble_eq_true rfl, Nat.le_of_ble_eq_true rfl⟩) ?_
  refine lv_iload hx hb dX9_load_133 (lv_at hl 0 rfl) ?_
  refine lv_iconst (v := 2) hx hb dX9_load_135 (by decide) ?_
  have hPc := hP.sub (ws' := []) [] rfl
  have hDc := hD.sub (ws' := []) [] (by decide) rfl
  have hKc := hK.sub (tys' := []) [] rfl
  refine rd_i (va_runS (As := [.int ((fX9_word n f k) / 16), .int 2]) (rest := [.int (fX9_word n f ((k + 4) - 2)), .ref h5]) ⟨hx, hb, hml, hown, hts⟩ (kX9_has l D H.size ((fX9_word n f k) / 16) 2 ) (va_cwS 2 hts gX9_load_X9_has rfl rfl rfl (by decide +kernel) ⟨Nat.le_of_ble_eq_true rfl, Nat.le_of_ble_eq_true rfl⟩) ⟨Pw_blind, fun U hU hW => Pw_at hKc hPc hDc hN hU hW⟩ rfl rfl hl.1 rfl (lv_room (Nat.le_of_ble_eq_true rfl)) dX9_load_136 ⟨Nat.le_of_ble_eq_true rfl, Nat.le_of_ble_eq_true rfl⟩) ?_
  have hPc := hP.sub (ws' := [(h5, .inr (6, [.int rl, .int (fX9_word n f (k + 2)), .int ra, .int (fX9_has ((fX9_word n f k) / 16) 2), .int ry]))]) [3] rfl
  have hDc := hD.sub (ws' := [(h5, .inr (6, [.int rl, .int (fX9_word n f (k + 2)), .int ra, .int (fX9_has ((fX9_word n f k) / 16) 2), .int ry]))]) [3] (by decide) rfl
  have hKc := hK.sub (tys' := []) [] rfl
  refine wk_v (β := Unit) (ok := fun _ => True) (wc := [(h5, .inr (6, [.int rl, .int (fX9_word n f (k + 2)), .int ra, .int (fX9_has ((fX9_word n f k) / 16) 2), .int ry]))]) (wr := [(h0, .inr (7, [.ref h1, .int n, x2, .ref h4])), (h1, .inl (cA, 1000, .inl f)), (h4, .inr (5, [.ref h5, .ref h6, .int 0, .int (((fX9_word n f k) / 16) &&& 48), .int (fX9_word n f (k + 1))])), (h6, .inr (6, [.int kl, .int (fX9_word n f (k + 3)), .int ka, .int (fX9_has ((fX9_word n f k) / 16) 1), .int ky]))]) (w1 := fun _ => [(h5, .inr (6, [.int rl, .int (fX9_word n f (k + 2)), .int (fX9_word n f ((k + 4) - 2)), .int (fX9_has ((fX9_word n f k) / 16) 2), .int (fX9_has ((fX9_word n f k) / 16) 2)]))]) (ws2 := fun _ => [(h0, .inr (7, [.ref h1, .int n, x2, .ref h4])), (h1, .inl (cA, 1000, .inl f)), (h4, .inr (5, [.ref h5, .ref h6, .int 0, .int (((fX9_word n f k) / 16) &&& 48), .int (fX9_word n f (k + 1))])), (h5, .inr (6, [.int rl, .int (fX9_word n f (k + 2)), .int (fX9_word n f ((k + 4) - 2)), .int (fX9_has ((fX9_word n f k) / 16) 2), .int (fX9_has ((fX9_word n f k) / 16) 2)])), (h6, .inr (6, [.int kl, .int (fX9_word n f (k + 3)), .int ka, .int (fX9_has ((fX9_word n f k) / 16) 1), .int ky]))]) (va_runV (As := [.int (fX9_word n f ((k + 4) - 2)), .int (fX9_has ((fX9_word n f k) / 16) 2)]) (rest := []) ⟨hx, hb, hml, hown, hts⟩ (kX8_setLast l D H.size h5 rl (fX9_word n f (k + 2)) ra (fX9_has ((fX9_word n f k) / 16) 2) ry (fX9_word n f ((k + 4) - 2)) (fX9_has ((fX9_word n f k) / 16) 2) (zb_X9_has _ _)) (cwV 2 hts gX9_load_X8_setLast rfl rfl rfl (by decide +kernel) ⟨Nat.le_of_ble_eq_true rfl, Nat.le_of_ble_eq_true rfl⟩) ⟨Pw_blind, (va_recv hKc hPc (ci := 6) (q0 := 0) rfl rfl), fun U hU hW => Pw_at hKc hPc hDc hN hU hW⟩ rfl rfl hl.1 rfl (lv_room (Nat.le_of_ble_eq_true rfl)) dX9_load_139 ⟨Nat.le_of_ble_eq_true rfl, Nat.le_of_ble_eq_true rfl⟩) hP hD hS hA [3] [0, 1, 2, 4] [0, 1, 2, 4, 3] rfl rfl (by decide) (by decide) (fun _ => rfl) (by decide) (fun _ _ H locs hP hD hS => ?_)
  have hP : va_P D vwCl [(h0, .inr (7, [.ref h1, .int n, x2, .ref h4])), (h1, .inl (cA, 1000, .inl f)), (h4, .inr (5, [.ref h5, .ref h6, .int 0, .int (((fX9_word n f k) / 16) &&& 48), .int (fX9_word n f (k + 1))])), (h5, .inr (6, [.int rl, .int (fX9_word n f (k + 2)), .int (fX9_word n f ((k + 4) - 2)), .int (fX9_has ((fX9_word n f k) / 16) 2), .int (fX9_has ((fX9_word n f k) / 16) 2)])), (h6, .inr (6, [.int kl, .int (fX9_word n f (k + 3)), .int ka, .int (fX9_has ((fX9_word n f k) / 16) 1), .int ky]))] H := hP
  have hD : va_D A [(h0, .inr (7, [.ref h1, .int n, x2, .ref h4])), (h1, .inl (cA, 1000, .inl f)), (h4, .inr (5, [.ref h5, .ref h6, .int 0, .int (((fX9_word n f k) / 16) &&& 48), .int (fX9_word n f (k + 1))])), (h5, .inr (6, [.int rl, .int (fX9_word n f (k + 2)), .int (fX9_word n f ((k + 4) - 2)), .int (fX9_has ((fX9_word n f k) / 16) 2), .int (fX9_has ((fX9_word n f k) / 16) 2)])), (h6, .inr (6, [.int kl, .int (fX9_word n f (k + 3)), .int ka, .int (fX9_has ((fX9_word n f k) / 16) 1), .int ky]))] := hD
  refine lv_aload_n hx hb dX9_load_142 rfl (lv_at hl 3 rfl) ?_
  refine va_get (D := D) (ci := 7) (v := .ref h4) (C := RX9) (T := TX9) (N := 4) hx hb hts w_X9 hown hK hP 0 rfl rfl 3 (by decide) f_29 (fun _ h9 => h9) rfl dX9_load_143 ?_
  refine va_get (D := D) (ci := 5) (v := .ref h6) (C := RX7) (T := TX7) (N := 5) hx hb hts w_X7 hown hK hP 2 rfl rfl 1 (by decide) f_164 (fun _ h9 => h9) rfl dX9_load_146 ?_
  refine lv_aload_n hx hb dX9_load_149 rfl (lv_at hl 3 rfl) ?_
  refine lv_iload_n hx hb dX9_load_150 rfl (lv_at hl 4 rfl) ?_
  refine lv_iload_n hx hb dX9_load_151 rfl (lv_at hl 5 rfl) ?_
  refine lv_iadd hx hb dX9_load_152 ?_
  refine lv_iconst (v := 1) hx hb dX9_load_153 (by decide) ?_
  refine lv_isub hx hb dX9_load_154 ?_
  have hPc := hP.sub (ws' := [(h0, .inr (7, [.ref h1, .int n, x2, .ref h4])), (h1, .inl (cA, 1000, .inl f))]) [0, 1] rfl
  have hDc := hD.sub (ws' := [(h0, .inr (7, [.ref h1, .int n, x2, .ref h4])), (h1, .inl (cA, 1000, .inl f))]) [0, 1] (by decide) rfl
  have hKc := hK.sub (tys' := [(cA, .int)]) [0] rfl
  refine rd_i (va_runV (As := [.int ((k + 4) - 1)]) (rest := [.ref h6]) ⟨hx, hb, hml, hown, hts⟩ (kX9_word l D H.size h0 h1 cA x2 (.ref h4) n f ((k + 4) - 1) ) (cwV 1 hts gX9_load_X9_word rfl rfl rfl (by decide +kernel) ⟨Nat.le_of_ble_eq_true rfl, Nat.le_of_ble_eq_true rfl⟩) ⟨Pw_blind, (va_recv hKc hPc (ci := 7) (q0 := 0) rfl rfl), fun U hU hW => Pw_at hKc hPc hDc hN hU hW⟩ rfl rfl hl.1 rfl (lv_room (Nat.le_of_ble_eq_true rfl)) dX9_load_155 ⟨Nat.le_of_ble_eq_true rfl, Nat.le_of_ble_eq_true rfl⟩) ?_
  refine lv_iload hx hb dX9_load_158 (lv_at hl 0 rfl) ?_
  refine lv_iconst (v := 1) hx hb dX9_load_160 (by decide) ?_
  have hPc := hP.sub (ws' := []) [] rfl
  have hDc := hD.sub (ws' := []) [] (by decide) rfl
  have hKc := hK.sub (tys' := []) [] rfl
  refine rd_i (va_runS (As := [.int ((fX9_word n f k) / 16), .int 1]) (rest := [.int (fX9_word n f ((k + 4) - 1)), .ref h6]) ⟨hx, hb, hml, hown, hts⟩ (kX9_has l D H.size ((fX9_word n f k) / 16) 1 ) (va_cwS 2 hts gX9_load_X9_has rfl rfl rfl (by decide +kernel) ⟨Nat.le_of_ble_eq_true rfl, Nat.le_of_ble_eq_true rfl⟩) ⟨Pw_blind, fun U hU hW => Pw_at hKc hPc hDc hN hU hW⟩ rfl rfl hl.1 rfl (lv_room (Nat.le_of_ble_eq_true rfl)) dX9_load_161 ⟨Nat.le_of_ble_eq_true rfl, Nat.le_of_ble_eq_true rfl⟩) ?_
  have hPc := hP.sub (ws' := [(h6, .inr (6, [.int kl, .int (fX9_word n f (k + 3)), .int ka, .int (fX9_has ((fX9_word n f k) / 16) 1), .int ky]))]) [4] rfl
  have hDc := hD.sub (ws' := [(h6, .inr (6, [.int kl, .int (fX9_word n f (k + 3)), .int ka, .int (fX9_has ((fX9_word n f k) / 16) 1), .int ky]))]) [4] (by decide) rfl
  have hKc := hK.sub (tys' := []) [] rfl
  refine wk_v (β := Unit) (ok := fun _ => True) (wc := [(h6, .inr (6, [.int kl, .int (fX9_word n f (k + 3)), .int ka, .int (fX9_has ((fX9_word n f k) / 16) 1), .int ky]))]) (wr := [(h0, .inr (7, [.ref h1, .int n, x2, .ref h4])), (h1, .inl (cA, 1000, .inl f)), (h4, .inr (5, [.ref h5, .ref h6, .int 0, .int (((fX9_word n f k) / 16) &&& 48), .int (fX9_word n f (k + 1))])), (h5, .inr (6, [.int rl, .int (fX9_word n f (k + 2)), .int (fX9_word n f ((k + 4) - 2)), .int (fX9_has ((fX9_word n f k) / 16) 2), .int (fX9_has ((fX9_word n f k) / 16) 2)]))]) (w1 := fun _ => [(h6, .inr (6, [.int kl, .int (fX9_word n f (k + 3)), .int (fX9_word n f ((k + 4) - 1)), .int (fX9_has ((fX9_word n f k) / 16) 1), .int (fX9_has ((fX9_word n f k) / 16) 1)]))]) (ws2 := fun _ => [(h0, .inr (7, [.ref h1, .int n, x2, .ref h4])), (h1, .inl (cA, 1000, .inl f)), (h4, .inr (5, [.ref h5, .ref h6, .int 0, .int (((fX9_word n f k) / 16) &&& 48), .int (fX9_word n f (k + 1))])), (h5, .inr (6, [.int rl, .int (fX9_word n f (k + 2)), .int (fX9_word n f ((k + 4) - 2)), .int (fX9_has ((fX9_word n f k) / 16) 2), .int (fX9_has ((fX9_word n f k) / 16) 2)])), (h6, .inr (6, [.int kl, .int (fX9_word n f (k + 3)), .int (fX9_word n f ((k + 4) - 1)), .int (fX9_has ((fX9_word n f k) / 16) 1), .int (fX9_has ((fX9_word n f k) / 16) 1)]))]) (va_runV (As := [.int (fX9_word n f ((k + 4) - 1)), .int (fX9_has ((fX9_word n f k) / 16) 1)]) (rest := []) ⟨hx, hb, hml, hown, hts⟩ (kX8_setLast l D H.size h6 kl (fX9_word n f (k + 3)) ka (fX9_has ((fX9_word n f k) / 16) 1) ky (fX9_word n f ((k + 4) - 1)) (fX9_has ((fX9_word n f k) / 16) 1) (zb_X9_has _ _)) (cwV 2 hts gX9_load_X8_setLast rfl rfl rfl (by decide +kernel) ⟨Nat.le_of_ble_eq_true rfl, Nat.le_of_ble_eq_true rfl⟩) ⟨Pw_blind, (va_recv hKc hPc (ci := 6) (q0 := 0) rfl rfl), fun U hU hW => Pw_at hKc hPc hDc hN hU hW⟩ rfl rfl hl.1 rfl (lv_room (Nat.le_of_ble_eq_true rfl)) dX9_load_164 ⟨Nat.le_of_ble_eq_true rfl, Nat.le_of_ble_eq_true rfl⟩) hP hD hS hA [4] [0, 1, 2, 3] [0, 1, 2, 3, 4] rfl rfl (by decide) (by decide) (fun _ => rfl) (by decide) (fun _ _ H locs hP hD hS => ?_)
  have hP : va_P D vwCl [(h0, .inr (7, [.ref h1, .int n, x2, .ref h4])), (h1, .inl (cA, 1000, .inl f)), (h4, .inr (5, [.ref h5, .ref h6, .int 0, .int (((fX9_word n f k) / 16) &&& 48), .int (fX9_word n f (k + 1))])), (h5, .inr (6, [.int rl, .int (fX9_word n f (k + 2)), .int (fX9_word n f ((k + 4) - 2)), .int (fX9_has ((fX9_word n f k) / 16) 2), .int (fX9_has ((fX9_word n f k) / 16) 2)])), (h6, .inr (6, [.int kl, .int (fX9_word n f (k + 3)), .int (fX9_word n f ((k + 4) - 1)), .int (fX9_has ((fX9_word n f k) / 16) 1), .int (fX9_has ((fX9_word n f k) / 16) 1)]))] H := hP
  have hD : va_D A [(h0, .inr (7, [.ref h1, .int n, x2, .ref h4])), (h1, .inl (cA, 1000, .inl f)), (h4, .inr (5, [.ref h5, .ref h6, .int 0, .int (((fX9_word n f k) / 16) &&& 48), .int (fX9_word n f (k + 1))])), (h5, .inr (6, [.int rl, .int (fX9_word n f (k + 2)), .int (fX9_word n f ((k + 4) - 2)), .int (fX9_has ((fX9_word n f k) / 16) 2), .int (fX9_has ((fX9_word n f k) / 16) 2)])), (h6, .inr (6, [.int kl, .int (fX9_word n f (k + 3)), .int (fX9_word n f ((k + 4) - 1)), .int (fX9_has ((fX9_word n f k) / 16) 1), .int (fX9_has ((fX9_word n f k) / 16) 1)]))] := hD
  subst hAe
  subst hQe
  exact W.vret hx hb hr (fun t ht hW => ⟨⟨_, rfl, ⟨(), trivial, rfl⟩, by rw [ht]; exact hP, hD⟩, hS.F ht⟩) hS.2.2 dX9_load_167

def fX9_store_4 (n : Int32) (f : Nat → Int32) (isr : Int32) (wh : Int32) (sh : Int32) (rf : Int32) (rx : Int32) (ry : Int32) (kf : Int32) (kx : Int32) (ky : Int32) (k : Int32) (w : Int32) : Int32 × (Nat → Int32) := let v_1 : Int32 := (if (fX7_wordAt_0 isr wh rx ry kx ky) = (fX9_word n f (k + 0)) then 0 else 1); let v_2 : Int32 := (if sh = (fX9_word n (fX9_put f (w + 0) (fX7_wordAt_0 isr wh rx ry kx ky)) (k + 1)) then v_1 else 1); let v_3 : Int32 := (if rf = (fX9_word n (fX9_put (fX9_put f (w + 0) (fX7_wordAt_0 isr wh rx ry kx ky)) (w + 1) sh) (k + 2)) then v_2 else 1); let v_4 : Int32 := (if kf = (fX9_word n (fX9_put (fX9_put (fX9_put f (w + 0) (fX7_wordAt_0 isr wh rx ry kx ky)) (w + 1) sh) (w + 2) rf) (k + 3)) then v_3 else 1); (v_4, (fX9_put (fX9_put (fX9_put (fX9_put f (w + 0) (fX7_wordAt_0 isr wh rx ry kx ky)) (w + 1) sh) (w + 2) rf) (w + 3) kf))
theorem zb_X9_store_4 (n : Int32) (f : Nat → Int32) (isr : Int32) (wh : Int32) (sh : Int32) (rf : Int32) (rx : Int32) (ry : Int32) (kf : Int32) (kx : Int32) (ky : Int32) (k : Int32) (w : Int32) : isB (fX9_store_4 n f isr wh sh rf rx ry kf kx ky k w).1 := by
  unfold fX9_store_4
  (try dsimp only)
  repeat' split
  all_goals first | exact Or.inl rfl | exact Or.inr rfl
abbrev rmX9_store_4 : Room := { frames := 4, cells := 0, slots := 0, locals := 83 }
abbrev qX9_store_4 (D : va_G) (sz : Nat) (h0 : Nat) (h1 : Nat) (h4 : Nat) (h5 : Nat) (h6 : Nat) (cA : ClassId) (x2 : Value) (n : Int32) (f : Nat → Int32) (isr : Int32) (wh : Int32) (sh : Int32) (rl : Int32) (rf : Int32) (ra : Int32) (rx : Int32) (ry : Int32) (kl : Int32) (kf : Int32) (ka : Int32) (kx : Int32) (ky : Int32) (k : Int32) (w : Int32) : Array Value → State → Outcome → State → Prop := va_Qi (fun r_9 w_9 => ∃ _u : Unit, True ∧ r_9 = (fX9_store_4 n f isr wh sh rf rx ry kf kx ky k w).1 ∧ w_9 = [(h0, .inr (7, [.ref h1, .int n, x2, .ref h4])), (h1, .inl (cA, 1000, .inl (fX9_store_4 n f isr wh sh rf rx ry kf kx ky k w).2)), (h4, .inr (5, [.ref h5, .ref h6, .int isr, .int wh, .int sh])), (h5, .inr (6, [.int rl, .int rf, .int ra, .int rx, .int ry])), (h6, .inr (6, [.int kl, .int kf, .int ka, .int kx, .int ky]))]) (Bq D (va_A [(h0, .inr (7, [.ref h1, .int n, x2, .ref h4])), (h1, .inl (cA, 1000, .inl f)), (h4, .inr (5, [.ref h5, .ref h6, .int isr, .int wh, .int sh])), (h5, .inr (6, [.int rl, .int rf, .int ra, .int rx, .int ry])), (h6, .inr (6, [.int kl, .int kf, .int ka, .int kx, .int ky]))] sz)) (va_A [(h0, .inr (7, [.ref h1, .int n, x2, .ref h4])), (h1, .inl (cA, 1000, .inl f)), (h4, .inr (5, [.ref h5, .ref h6, .int isr, .int wh, .int sh])), (h5, .inr (6, [.int rl, .int rf, .int ra, .int rx, .int ry])), (h6, .inr (6, [.int kl, .int kf, .int ka, .int kx, .int ky]))] sz)
set_option maxHeartbeats 4000000 in
set_option maxRecDepth 100000 in
theorem kX9_store_4 (l : Launch) (D : va_G) (sz : Nat) (h0 : Nat) (h1 : Nat) (h4 : Nat) (h5 : Nat) (h6 : Nat) (cA : ClassId) (x2 : Value) (n : Int32) (f : Nat → Int32) (isr : Int32) (wh : Int32) (sh : Int32) (rl : Int32) (rf : Int32) (ra : Int32) (rx : Int32) (ry : Int32) (kl : Int32) (kf : Int32) (ka : Int32) (kx : Int32) (ky : Int32) (k : Int32) (w : Int32) : Met l yX9_store wsX9_store rmX9_store_4 (va_Pc [.ref h0, .int k, .int w, .int 4] (Pw D [(cA, .int)] [(h0, .inr (7, [.ref h1, .int n, x2, .ref h4])), (h1, .inl (cA, 1000, .inl f)), (h4, .inr (5, [.ref h5, .ref h6, .int isr, .int wh, .int sh])), (h5, .inr (6, [.int rl, .int rf, .int ra, .int rx, .int ry])), (h6, .inr (6, [.int kl, .int kf, .int ka, .int kx, .int ky]))] sz)) (qX9_store_4 D sz h0 h1 h4 h5 h6 cA x2 n f isr wh sh rl rf ra rx ry kl kf ka kx ky k w) 0 0 (va_A [(h0, .inr (7, [.ref h1, .int n, x2, .ref h4])), (h1, .inl (cA, 1000, .inl f)), (h4, .inr (5, [.ref h5, .ref h6, .int isr, .int wh, .int sh])), (h5, .inr (6, [.int rl, .int rf, .int ra, .int rx, .int ry])), (h6, .inr (6, [.int kl, .int kf, .int ka, .int kx, .int ky]))] sz) := by
  refine Met.ofW (cc := cX9_store) (maxL := 7) (ret := (some .boolean)) (by decide) rfl ?_
  intro p e s m args below meth c s₁ B hml hv
  obtain ⟨rfl, hsz, hP, hK, hD0, hN⟩ := hv
  have hx := B.exec
  have hb := B.bytes
  have hr := B.returns
  have hts := atoms_spec (ws := wsX9_store) B.pre
  have hown : s.vm.findClass RX9 = some m.cls := findClass_of_methodNamed B.named
  have hlocks := B.notSynchronized
  subst hsz
  obtain ⟨Q, hQe⟩ : ∃ Q, Q = MQ below (qX9_store_4 D s.heap.size h0 h1 h4 h5 h6 cA x2 n f isr wh sh rl rf ra rx ry kl kf ka kx ky k w) ([.ref h0, .int k, .int w, .int 4] : List Value).toArray s 0 0 (va_A [(h0, .inr (7, [.ref h1, .int n, x2, .ref h4])), (h1, .inl (cA, 1000, .inl f)), (h4, .inr (5, [.ref h5, .ref h6, .int isr, .int wh, .int sh])), (h5, .inr (6, [.int rl, .int rf, .int ra, .int rx, .int ry])), (h6, .inr (6, [.int kl, .int kf, .int ka, .int kx, .int ky]))] s.heap.size) := ⟨_, rfl⟩
  rw [← hQe]
  obtain ⟨A, hAe⟩ : ∃ A, A = va_A [(h0, .inr (7, [.ref h1, .int n, x2, .ref h4])), (h1, .inl (cA, 1000, .inl f)), (h4, .inr (5, [.ref h5, .ref h6, .int isr, .int wh, .int sh])), (h5, .inr (6, [.int rl, .int rf, .int ra, .int rx, .int ry])), (h6, .inr (6, [.int kl, .int kf, .int ka, .int kx, .int ky]))] s.heap.size := ⟨_, rfl⟩
  have hD : va_D A [(h0, .inr (7, [.ref h1, .int n, x2, .ref h4])), (h1, .inl (cA, 1000, .inl f)), (h4, .inr (5, [.ref h5, .ref h6, .int isr, .int wh, .int sh])), (h5, .inr (6, [.int rl, .int rf, .int ra, .int rx, .int ry])), (h6, .inr (6, [.int kl, .int kf, .int ka, .int kx, .int ky]))] := by rw [hAe]; exact hD0.self
  have hA : ∀ q : Nat, s.heap.size ≤ q → A q := by rw [hAe]; exact mo_A
  have hS : va_S A s.heap s.heap [] := va_S.rf
  obtain ⟨H, hHe⟩ : ∃ H, H = s.heap := ⟨_, rfl⟩
  obtain ⟨locs, hLe⟩ : ∃ L : List Loc, L = [] := ⟨_, rfl⟩
  have hP : va_P D vwCl [(h0, .inr (7, [.ref h1, .int n, x2, .ref h4])), (h1, .inl (cA, 1000, .inl f)), (h4, .inr (5, [.ref h5, .ref h6, .int isr, .int wh, .int sh])), (h5, .inr (6, [.int rl, .int rf, .int ra, .int rx, .int ry])), (h6, .inr (6, [.int kl, .int kf, .int ka, .int kx, .int ky]))] H := by rw [hHe]; exact hP
  have hS : va_S A s.heap H locs := by rw [hHe, hLe]; exact hS
  have hl := lv_entry ([.ref h0, .int k, .int w, .int 4]) (n := 7) (Nat.le_of_ble_eq_true rfl)
  rw [lg_entry_eq]
  generalize (lg_sl ([.ref h0, .int k, .int w, .int 4]) ++ List.replicate (7 - (lg_sl ([.ref h0, .int k, .int w, .int 4])).length) Slot.unset).toArray = ls at hl ⊢
  have hl : lv_has ls 7 [(0, .ref h0), (1, .int k), (2, .int w), (3, .int 4)] := hl
  refine hStart hHe hLe ?_
  clear hHe hLe
  have w_X9 : ∀ w ∈ wsX90, w ∈ wsX9_store := by decide +kernel
  have f_29 := hts (.fieldLink RX9 29 "ReferenceMover" "reference" "LReferenceMover$Reference;") (by decide +kernel)
  refine lv_iconst (v := 0) hx hb dX9_store_0 (by decide) ?_
  refine lv_istore (lv' := [(4, .int 0), (0, .ref h0), (1, .int k), (2, .int w), (3, .int 4)]) hx hb dX9_store_1 hl (by decide) rfl (fun ls hl => ?_)
  refine lv_iconst (v := 0) hx hb dX9_store_3 (by decide) ?_
  refine lv_istore (lv' := [(5, .int 0), (4, .int 0), (0, .ref h0), (1, .int k), (2, .int w), (3, .int 4)]) hx hb dX9_store_4 hl (by decide) rfl (fun ls hl => ?_)
  refine lv_iload hx hb dX9_store_6 (lv_at hl 0 rfl) ?_
  refine lv_iload_n hx hb dX9_store_8 rfl (lv_at hl 5 rfl) ?_
  refine lv_icmp_ge (tgt := 55) hx hb dX9_store_9 (by decide) (fun h => absurd h (by decide)) (fun _ => ?_)
  refine lv_aload_n hx hb dX9_store_12 rfl (lv_at hl 2 rfl) ?_
  refine va_get (D := D) (ci := 7) (v := .ref h4) (C := RX9) (T := TX9) (N := 4) hx hb hts w_X9 hown hK hP 0 rfl rfl 3 (by decide) f_29 (fun _ h9 => h9) rfl dX9_store_13 ?_
  refine lv_iload hx hb dX9_store_16 (lv_at hl 0 rfl) ?_
  have hPc := hP.sub (ws' := [(h4, .inr (5, [.ref h5, .ref h6, .int isr, .int wh, .int sh])), (h5, .inr (6, [.int rl, .int rf, .int ra, .int rx, .int ry])), (h6, .inr (6, [.int kl, .int kf, .int ka, .int kx, .int ky]))]) [2, 3, 4] rfl
  have hDc := hD.sub (ws' := [(h4, .inr (5, [.ref h5, .ref h6, .int isr, .int wh, .int sh])), (h5, .inr (6, [.int rl, .int rf, .int ra, .int rx, .int ry])), (h6, .inr (6, [.int kl, .int kf, .int ka, .int kx, .int ky]))]) [2, 3, 4] (by decide) rfl
  have hKc := hK.sub (tys' := []) [] rfl
  refine rd_i (va_runV (As := [.int 0]) (rest := []) ⟨hx, hb, hml, hown, hts⟩ (kX7_wordAt_0 l D H.size h4 h5 h6 isr wh sh rl rf ra rx ry kl kf ka kx ky ) (cwV 1 hts gX9_store_X7_wordAt rfl rfl rfl (by decide +kernel) ⟨Nat.le_of_ble_eq_true rfl, Nat.le_of_ble_eq_true rfl⟩) ⟨Pw_blind, (va_recv hKc hPc (ci := 5) (q0 := 0) rfl rfl), fun U hU hW => Pw_at hKc hPc hDc hN hU hW⟩ rfl rfl hl.1 rfl (lv_room (Nat.le_of_ble_eq_true rfl)) dX9_store_18 ⟨Nat.le_of_ble_eq_true rfl, Nat.le_of_ble_eq_true rfl⟩) ?_
  refine lv_istore (lv' := [(6, .int (fX7_wordAt_0 isr wh rx ry kx ky)), (5, .int 0), (4, .int 0), (0, .ref h0), (1, .int k), (2, .int w), (3, .int 4)]) hx hb dX9_store_21 hl (by decide) rfl (fun ls hl => ?_)
  refine lv_iload hx hb dX9_store_23 (lv_at hl 0 rfl) ?_
  refine lv_aload_n hx hb dX9_store_25 rfl (lv_at hl 3 rfl) ?_
  refine lv_iload_n hx hb dX9_store_26 rfl (lv_at hl 4 rfl) ?_
  refine lv_iload hx hb dX9_store_27 (lv_at hl 1 rfl) ?_
  refine lv_iadd hx hb dX9_store_29 ?_
  have hPc := hP.sub (ws' := [(h0, .inr (7, [.ref h1, .int n, x2, .ref h4])), (h1, .inl (cA, 1000, .inl f))]) [0, 1] rfl
  have hDc := hD.sub (ws' := [(h0, .inr (7, [.ref h1, .int n, x2, .ref h4])), (h1, .inl (cA, 1000, .inl f))]) [0, 1] (by decide) rfl
  have hKc := hK.sub (tys' := [(cA, .int)]) [0] rfl
  refine rd_i (va_runV (As := [.int (k + 0)]) (rest := [.int (fX7_wordAt_0 isr wh rx ry kx ky)]) ⟨hx, hb, hml, hown, hts⟩ (kX9_word l D H.size h0 h1 cA x2 (.ref h4) n f (k + 0) ) (cwV 1 hts gX9_store_X9_word rfl rfl rfl (by decide +kernel) ⟨Nat.le_of_ble_eq_true rfl, Nat.le_of_ble_eq_true rfl⟩) ⟨Pw_blind, (va_recv hKc hPc (ci := 7) (q0 := 0) rfl rfl), fun U hU hW => Pw_at hKc hPc hDc hN hU hW⟩ rfl rfl hl.1 rfl (lv_room (Nat.le_of_ble_eq_true rfl)) dX9_store_30 ⟨Nat.le_of_ble_eq_true rfl, Nat.le_of_ble_eq_true rfl⟩) ?_
  have K39_1 : ∀ (v_1 : Int32), v_1 = (if (fX7_wordAt_0 isr wh rx ry kx ky) = (fX9_word n f (k + 0)) then 0 else 1) → ∀ ls : Array Slot, lv_has ls 7 [(0, .ref h0), (1, .int k), (2, .int w), (3, .int 4), (4, .int v_1), (5, .int 0), (6, .int (fX7_wordAt_0 isr wh rx ry kx ky))] → W p l e (headSpec wsX9_store rmX9_store_4).room s m ([.ref h0, .int k, .int w, .int 4] : List Value).toArray below meth c H locs 0 0 Q (F0 m 39 ls []) := by
    intro v_1 ev_1 ls hl
    refine lv_aload_n hx hb dX9_store_39 rfl (lv_at hl 0 rfl) ?_
    refine lv_iload_n hx hb dX9_store_40 rfl (lv_at hl 2 rfl) ?_
    refine lv_iload hx hb dX9_store_41 (lv_at hl 5 rfl) ?_
    refine lv_iadd hx hb dX9_store_43 ?_
    refine lv_iload hx hb dX9_store_44 (lv_at hl 6 rfl) ?_
    have hPc := hP.sub (ws' := [(h0, .inr (7, [.ref h1, .int n, x2, .ref h4])), (h1, .inl (cA, 1000, .inl f))]) [0, 1] rfl
    have hDc := hD.sub (ws' := [(h0, .inr (7, [.ref h1, .int n, x2, .ref h4])), (h1, .inl (cA, 1000, .inl f))]) [0, 1] (by decide) rfl
    have hKc := hK.sub (tys' := [(cA, .int)]) [0] rfl
    refine wk_v (β := Unit) (ok := fun _ => True) (wc := [(h0, .inr (7, [.ref h1, .int n, x2, .ref h4])), (h1, .inl (cA, 1000, .inl f))]) (wr := [(h4, .inr (5, [.ref h5, .ref h6, .int isr, .int wh, .int sh])), (h5, .inr (6, [.int rl, .int rf, .int ra, .int rx, .int ry])), (h6, .inr (6, [.int kl, .int kf, .int ka, .int kx, .int ky]))]) (w1 := fun _ => [(h0, .inr (7, [.ref h1, .int n, x2, .ref h4])), (h1, .inl (cA, 1000, .inl (fX9_put f (w + 0) (fX7_wordAt_0 isr wh rx ry kx ky))))]) (ws2 := fun _ => [(h0, .inr (7, [.ref h1, .int n, x2, .ref h4])), (h1, .inl (cA, 1000, .inl (fX9_put f (w + 0) (fX7_wordAt_0 isr wh rx ry kx ky)))), (h4, .inr (5, [.ref h5, .ref h6, .int isr, .int wh, .int sh])), (h5, .inr (6, [.int rl, .int rf, .int ra, .int rx, .int ry])), (h6, .inr (6, [.int kl, .int kf, .int ka, .int kx, .int ky]))]) (va_runV (As := [.int (w + 0), .int (fX7_wordAt_0 isr wh rx ry kx ky)]) (rest := []) ⟨hx, hb, hml, hown, hts⟩ (kX9_put l D H.size h0 h1 cA x2 (.ref h4) n f (w + 0) (fX7_wordAt_0 isr wh rx ry kx ky) ) (cwV 2 hts gX9_store_X9_put rfl rfl rfl (by decide +kernel) ⟨Nat.le_of_ble_eq_true rfl, Nat.le_of_ble_eq_true rfl⟩) ⟨Pw_blind, (va_recv hKc hPc (ci := 7) (q0 := 0) rfl rfl), fun U hU hW => Pw_at hKc hPc hDc hN hU hW⟩ rfl rfl hl.1 rfl (lv_room (Nat.le_of_ble_eq_true rfl)) dX9_store_46 ⟨Nat.le_of_ble_eq_true rfl, Nat.le_of_ble_eq_true rfl⟩) hP hD hS hA [0, 1] [2, 3, 4] [3, 4, 0, 1, 2] rfl rfl (by decide) (by decide) (fun _ => rfl) (by decide) (fun _ _ H locs hP hD hS => ?_)
    have hP : va_P D vwCl [(h0, .inr (7, [.ref h1, .int n, x2, .ref h4])), (h1, .inl (cA, 1000, .inl (fX9_put f (w + 0) (fX7_wordAt_0 isr wh rx ry kx ky)))), (h4, .inr (5, [.ref h5, .ref h6, .int isr, .int wh, .int sh])), (h5, .inr (6, [.int rl, .int rf, .int ra, .int rx, .int ry])), (h6, .inr (6, [.int kl, .int kf, .int ka, .int kx, .int ky]))] H := hP
    have hD : va_D A [(h0, .inr (7, [.ref h1, .int n, x2, .ref h4])), (h1, .inl (cA, 1000, .inl (fX9_put f (w + 0) (fX7_wordAt_0 isr wh rx ry kx ky)))), (h4, .inr (5, [.ref h5, .ref h6, .int isr, .int wh, .int sh])), (h5, .inr (6, [.int rl, .int rf, .int ra, .int rx, .int ry])), (h6, .inr (6, [.int kl, .int kf, .int ka, .int kx, .int ky]))] := hD
    refine lv_iinc (v := 1) (lv' := [(5, .int 1), (0, .ref h0), (1, .int k), (2, .int w), (3, .int 4), (4, .int v_1), (6, .int (fX7_wordAt_0 isr wh rx ry kx ky))]) hx hb dX9_store_49 hl (k := 5) rfl (by decide) (by decide) rfl (fun ls hl => ?_)
    refine lv_goto (tgt := 6) hx hb dX9_store_52 (by decide) ?_
    refine lv_iload hx hb dX9_store_6 (lv_at hl 0 rfl) ?_
    refine lv_iload_n hx hb dX9_store_8 rfl (lv_at hl 4 rfl) ?_
    refine lv_icmp_ge (tgt := 55) hx hb dX9_store_9 (by decide) (fun h => absurd h (by decide)) (fun _ => ?_)
    refine lv_aload_n hx hb dX9_store_12 rfl (lv_at hl 1 rfl) ?_
    refine va_get (D := D) (ci := 7) (v := .ref h4) (C := RX9) (T := TX9) (N := 4) hx hb hts w_X9 hown hK hP 0 rfl rfl 3 (by decide) f_29 (fun _ h9 => h9) rfl dX9_store_13 ?_
    refine lv_iload hx hb dX9_store_16 (lv_at hl 0 rfl) ?_
    have hPc := hP.sub (ws' := [(h4, .inr (5, [.ref h5, .ref h6, .int isr, .int wh, .int sh])), (h5, .inr (6, [.int rl, .int rf, .int ra, .int rx, .int ry])), (h6, .inr (6, [.int kl, .int kf, .int ka, .int kx, .int ky]))]) [2, 3, 4] rfl
    have hDc := hD.sub (ws' := [(h4, .inr (5, [.ref h5, .ref h6, .int isr, .int wh, .int sh])), (h5, .inr (6, [.int rl, .int rf, .int ra, .int rx, .int ry])), (h6, .inr (6, [.int kl, .int kf, .int ka, .int kx, .int ky]))]) [2, 3, 4] (by decide) rfl
    have hKc := hK.sub (tys' := []) [] rfl
    refine rd_i (va_runV (As := [.int 1]) (rest := []) ⟨hx, hb, hml, hown, hts⟩ (kX7_wordAt_1 l D H.size h4 h5 h6 isr wh sh rl rf ra rx ry kl kf ka kx ky ) (cwV 1 hts gX9_store_X7_wordAt rfl rfl rfl (by decide +kernel) ⟨Nat.le_of_ble_eq_true rfl, Nat.le_of_ble_eq_true rfl⟩) ⟨Pw_blind, (va_recv hKc hPc (ci := 5) (q0 := 0) rfl rfl), fun U hU hW => Pw_at hKc hPc hDc hN hU hW⟩ rfl rfl hl.1 rfl (lv_room (Nat.le_of_ble_eq_true rfl)) dX9_store_18 ⟨Nat.le_of_ble_eq_true rfl, Nat.le_of_ble_eq_true rfl⟩) ?_
    refine lv_istore (lv' := [(6, .int sh), (5, .int 1), (0, .ref h0), (1, .int k), (2, .int w), (3, .int 4), (4, .int v_1)]) hx hb dX9_store_21 hl (by decide) rfl (fun ls hl => ?_)
    refine lv_iload hx hb dX9_store_23 (lv_at hl 0 rfl) ?_
    refine lv_aload_n hx hb dX9_store_25 rfl (lv_at hl 2 rfl) ?_
    refine lv_iload_n hx hb dX9_store_26 rfl (lv_at hl 3 rfl) ?_
    refine lv_iload hx hb dX9_store_27 (lv_at hl 1 rfl) ?_
    refine lv_iadd hx hb dX9_store_29 ?_
    have hPc := hP.sub (ws' := [(h0, .inr (7, [.ref h1, .int n, x2, .ref h4])), (h1, .inl (cA, 1000, .inl (fX9_put f (w + 0) (fX7_wordAt_0 isr wh rx ry kx ky))))]) [0, 1] rfl
    have hDc := hD.sub (ws' := [(h0, .inr (7, [.ref h1, .int n, x2, .ref h4])), (h1, .inl (cA, 1000, .inl (fX9_put f (w + 0) (fX7_wordAt_0 isr wh rx ry kx ky))))]) [0, 1] (by decide) rfl
    have hKc := hK.sub (tys' := [(cA, .int)]) [0] rfl
    refine rd_i (va_runV (As := [.int (k + 1)]) (rest := [.int sh]) ⟨hx, hb, hml, hown, hts⟩ (kX9_word l D H.size h0 h1 cA x2 (.ref h4) n (fX9_put f (w + 0) (fX7_wordAt_0 isr wh rx ry kx ky)) (k + 1) ) (cwV 1 hts gX9_store_X9_word rfl rfl rfl (by decide +kernel) ⟨Nat.le_of_ble_eq_true rfl, Nat.le_of_ble_eq_true rfl⟩) ⟨Pw_blind, (va_recv hKc hPc (ci := 7) (q0 := 0) rfl rfl), fun U hU hW => Pw_at hKc hPc hDc hN hU hW⟩ rfl rfl hl.1 rfl (lv_room (Nat.le_of_ble_eq_true rfl)) dX9_store_30 ⟨Nat.le_of_ble_eq_true rfl, Nat.le_of_ble_eq_true rfl⟩) ?_
    have K39_2 : ∀ (v_2 : Int32), v_2 = (if sh = (fX9_word n (fX9_put f (w + 0) (fX7_wordAt_0 isr wh rx ry kx ky)) (k + 1)) then v_1 else 1) → ∀ ls : Array Slot, lv_has ls 7 [(0, .ref h0), (1, .int k), (2, .int w), (3, .int 4), (4, .int v_2), (5, .int 1), (6, .int sh)] → W p l e (headSpec wsX9_store rmX9_store_4).room s m ([.ref h0, .int k, .int w, .int 4] : List Value).toArray below meth c H locs 0 0 Q (F0 m 39 ls []) := by
      intro v_2 ev_2 ls hl
      refine lv_aload_n hx hb dX9_store_39 rfl (lv_at hl 0 rfl) ?_
      refine lv_iload_n hx hb dX9_store_40 rfl (lv_at hl 2 rfl) ?_
      refine lv_iload hx hb dX9_store_41 (lv_at hl 5 rfl) ?_
      refine lv_iadd hx hb dX9_store_43 ?_
      refine lv_iload hx hb dX9_store_44 (lv_at hl 6 rfl) ?_
      have hPc := hP.sub (ws' := [(h0, .inr (7, [.ref h1, .int n, x2, .ref h4])), (h1, .inl (cA, 1000, .inl (fX9_put f (w + 0) (fX7_wordAt_0 isr wh rx ry kx ky))))]) [0, 1] rfl
      have hDc := hD.sub (ws' := [(h0, .inr (7, [.ref h1, .int n, x2, .ref h4])), (h1, .inl (cA, 1000, .inl (fX9_put f (w + 0) (fX7_wordAt_0 isr wh rx ry kx ky))))]) [0, 1] (by decide) rfl
      have hKc := hK.sub (tys' := [(cA, .int)]) [0] rfl
      refine wk_v (β := Unit) (ok := fun _ => True) (wc := [(h0, .inr (7, [.ref h1, .int n, x2, .ref h4])), (h1, .inl (cA, 1000, .inl (fX9_put f (w + 0) (fX7_wordAt_0 isr wh rx ry kx ky))))]) (wr := [(h4, .inr (5, [.ref h5, .ref h6, .int isr, .int wh, .int sh])), (h5, .inr (6, [.int rl, .int rf, .int ra, .int rx, .int ry])), (h6, .inr (6, [.int kl, .int kf, .int ka, .int kx, .int ky]))]) (w1 := fun _ => [(h0, .inr (7, [.ref h1, .int n, x2, .ref h4])), (h1, .inl (cA, 1000, .inl (fX9_put (fX9_put f (w + 0) (fX7_wordAt_0 isr wh rx ry kx ky)) (w + 1) sh)))]) (ws2 := fun _ => [(h0, .inr (7, [.ref h1, .int n, x2, .ref h4])), (h1, .inl (cA, 1000, .inl (fX9_put (fX9_put f (w + 0) (fX7_wordAt_0 isr wh rx ry kx ky)) (w + 1) sh))), (h4, .inr (5, [.ref h5, .ref h6, .int isr, .int wh, .int sh])), (h5, .inr (6, [.int rl, .int rf, .int ra, .int rx, .int ry])), (h6, .inr (6, [.int kl, .int kf, .int ka, .int kx, .int ky]))]) (va_runV (As := [.int (w + 1), .int sh]) (rest := []) ⟨hx, hb, hml, hown, hts⟩ (kX9_put l D H.size h0 h1 cA x2 (.ref h4) n (fX9_put f (w + 0) (fX7_wordAt_0 isr wh rx ry kx ky)) (w + 1) sh ) (cwV 2 hts gX9_store_X9_put rfl rfl rfl (by decide +kernel) ⟨Nat.le_of_ble_eq_true rfl, Nat.le_of_ble_eq_true rfl⟩) ⟨Pw_blind, (va_recv hKc hPc (ci := 7) (q0 := 0) rfl rfl), fun U hU hW => Pw_at hKc hPc hDc hN hU hW⟩ rfl rfl hl.1 rfl (lv_room (Nat.le_of_ble_eq_true rfl)) dX9_store_46 ⟨Nat.le_of_ble_eq_true rfl, Nat.le_of_ble_eq_true rfl⟩) hP hD hS hA [0, 1] [2, 3, 4] [3, 4, 0, 1, 2] rfl rfl (by decide) (by decide) (fun _ => rfl) (by decide) (fun _ _ H locs hP hD hS => ?_)
      have hP : va_P D vwCl [(h0, .inr (7, [.ref h1, .int n, x2, .ref h4])), (h1, .inl (cA, 1000, .inl (fX9_put (fX9_put f (w + 0) (fX7_wordAt_0 isr wh rx ry kx ky)) (w + 1) sh))), (h4, .inr (5, [.ref h5, .ref h6, .int isr, .int wh, .int sh])), (h5, .inr (6, [.int rl, .int rf, .int ra, .int rx, .int ry])), (h6, .inr (6, [.int kl, .int kf, .int ka, .int kx, .int ky]))] H := hP
      have hD : va_D A [(h0, .inr (7, [.ref h1, .int n, x2, .ref h4])), (h1, .inl (cA, 1000, .inl (fX9_put (fX9_put f (w + 0) (fX7_wordAt_0 isr wh rx ry kx ky)) (w + 1) sh))), (h4, .inr (5, [.ref h5, .ref h6, .int isr, .int wh, .int sh])), (h5, .inr (6, [.int rl, .int rf, .int ra, .int rx, .int ry])), (h6, .inr (6, [.int kl, .int kf, .int ka, .int kx, .int ky]))] := hD
      refine lv_iinc (v := 2) (lv' := [(5, .int 2), (0, .ref h0), (1, .int k), (2, .int w), (3, .int 4), (4, .int v_2), (6, .int sh)]) hx hb dX9_store_49 hl (k := 5) rfl (by decide) (by decide) rfl (fun ls hl => ?_)
      refine lv_goto (tgt := 6) hx hb dX9_store_52 (by decide) ?_
      refine lv_iload hx hb dX9_store_6 (lv_at hl 0 rfl) ?_
      refine lv_iload_n hx hb dX9_store_8 rfl (lv_at hl 4 rfl) ?_
      refine lv_icmp_ge (tgt := 55) hx hb dX9_store_9 (by decide) (fun h => absurd h (by decide)) (fun _ => ?_)
      refine lv_aload_n hx hb dX9_store_12 rfl (lv_at hl 1 rfl) ?_
      refine va_get (D := D) (ci := 7) (v := .ref h4) (C := RX9) (T := TX9) (N := 4) hx hb hts w_X9 hown hK hP 0 rfl rfl 3 (by decide) f_29 (fun _ h9 => h9) rfl dX9_store_13 ?_
      refine lv_iload hx hb dX9_store_16 (lv_at hl 0 rfl) ?_
      have hPc := hP.sub (ws' := [(h4, .inr (5, [.ref h5, .ref h6, .int isr, .int wh, .int sh])), (h5, .inr (6, [.int rl, .int rf, .int ra, .int rx, .int ry])), (h6, .inr (6, [.int kl, .int kf, .int ka, .int kx, .int ky]))]) [2, 3, 4] rfl
      have hDc := hD.sub (ws' := [(h4, .inr (5, [.ref h5, .ref h6, .int isr, .int wh, .int sh])), (h5, .inr (6, [.int rl, .int rf, .int ra, .int rx, .int ry])), (h6, .inr (6, [.int kl, .int kf, .int ka, .int kx, .int ky]))]) [2, 3, 4] (by decide) rfl
      have hKc := hK.sub (tys' := []) [] rfl
      refine rd_i (va_runV (As := [.int 2]) (rest := []) ⟨hx, hb, hml, hown, hts⟩ (kX7_wordAt_2 l D H.size h4 h5 h6 isr wh sh rl rf ra rx ry kl kf ka kx ky ) (cwV 1 hts gX9_store_X7_wordAt rfl rfl rfl (by decide +kernel) ⟨Nat.le_of_ble_eq_true rfl, Nat.le_of_ble_eq_true rfl⟩) ⟨Pw_blind, (va_recv hKc hPc (ci := 5) (q0 := 0) rfl rfl), fun U hU hW => Pw_at hKc hPc hDc hN hU hW⟩ rfl rfl hl.1 rfl (lv_room (Nat.le_of_ble_eq_true rfl)) dX9_store_18 ⟨Nat.le_of_ble_eq_true rfl, Nat.le_of_ble_eq_true rfl⟩) ?_
      refine lv_istore (lv' := [(6, .int rf), (5, .int 2), (0, .ref h0), (1, .int k), (2, .int w), (3, .int 4), (4, .int v_2)]) hx hb dX9_store_21 hl (by decide) rfl (fun ls hl => ?_)
      refine lv_iload hx hb dX9_store_23 (lv_at hl 0 rfl) ?_
      refine lv_aload_n hx hb dX9_store_25 rfl (lv_at hl 2 rfl) ?_
      refine lv_iload_n hx hb dX9_store_26 rfl (lv_at hl 3 rfl) ?_
      refine lv_iload hx hb dX9_store_27 (lv_at hl 1 rfl) ?_
      refine lv_iadd hx hb dX9_store_29 ?_
      have hPc := hP.sub (ws' := [(h0, .inr (7, [.ref h1, .int n, x2, .ref h4])), (h1, .inl (cA, 1000, .inl (fX9_put (fX9_put f (w + 0) (fX7_wordAt_0 isr wh rx ry kx ky)) (w + 1) sh)))]) [0, 1] rfl
      have hDc := hD.sub (ws' := [(h0, .inr (7, [.ref h1, .int n, x2, .ref h4])), (h1, .inl (cA, 1000, .inl (fX9_put (fX9_put f (w + 0) (fX7_wordAt_0 isr wh rx ry kx ky)) (w + 1) sh)))]) [0, 1] (by decide) rfl
      have hKc := hK.sub (tys' := [(cA, .int)]) [0] rfl
      refine rd_i (va_runV (As := [.int (k + 2)]) (rest := [.int rf]) ⟨hx, hb, hml, hown, hts⟩ (kX9_word l D H.size h0 h1 cA x2 (.ref h4) n (fX9_put (fX9_put f (w + 0) (fX7_wordAt_0 isr wh rx ry kx ky)) (w + 1) sh) (k + 2) ) (cwV 1 hts gX9_store_X9_word rfl rfl rfl (by decide +kernel) ⟨Nat.le_of_ble_eq_true rfl, Nat.le_of_ble_eq_true rfl⟩) ⟨Pw_blind, (va_recv hKc hPc (ci := 7) (q0 := 0) rfl rfl), fun U hU hW => Pw_at hKc hPc hDc hN hU hW⟩ rfl rfl hl.1 rfl (lv_room (Nat.le_of_ble_eq_true rfl)) dX9_store_30 ⟨Nat.le_of_ble_eq_true rfl, Nat.le_of_ble_eq_true rfl⟩) ?_
      have K39_3 : ∀ (v_3 : Int32), v_3 = (if rf = (fX9_word n (fX9_put (fX9_put f (w + 0) (fX7_wordAt_0 isr wh rx ry kx ky)) (w + 1) sh) (k + 2)) then v_2 else 1) → ∀ ls : Array Slot, lv_has ls 7 [(0, .ref h0), (1, .int k), (2, .int w), (3, .int 4), (4, .int v_3), (5, .int 2), (6, .int rf)] → W p l e (headSpec wsX9_store rmX9_store_4).room s m ([.ref h0, .int k, .int w, .int 4] : List Value).toArray below meth c H locs 0 0 Q (F0 m 39 ls []) := by
        intro v_3 ev_3 ls hl
        refine lv_aload_n hx hb dX9_store_39 rfl (lv_at hl 0 rfl) ?_
        refine lv_iload_n hx hb dX9_store_40 rfl (lv_at hl 2 rfl) ?_
        refine lv_iload hx hb dX9_store_41 (lv_at hl 5 rfl) ?_
        refine lv_iadd hx hb dX9_store_43 ?_
        refine lv_iload hx hb dX9_store_44 (lv_at hl 6 rfl) ?_
        have hPc := hP.sub (ws' := [(h0, .inr (7, [.ref h1, .int n, x2, .ref h4])), (h1, .inl (cA, 1000, .inl (fX9_put (fX9_put f (w + 0) (fX7_wordAt_0 isr wh rx ry kx ky)) (w + 1) sh)))]) [0, 1] rfl
        have hDc := hD.sub (ws' := [(h0, .inr (7, [.ref h1, .int n, x2, .ref h4])), (h1, .inl (cA, 1000, .inl (fX9_put (fX9_put f (w + 0) (fX7_wordAt_0 isr wh rx ry kx ky)) (w + 1) sh)))]) [0, 1] (by decide) rfl
        have hKc := hK.sub (tys' := [(cA, .int)]) [0] rfl
        refine wk_v (β := Unit) (ok := fun _ => True) (wc := [(h0, .inr (7, [.ref h1, .int n, x2, .ref h4])), (h1, .inl (cA, 1000, .inl (fX9_put (fX9_put f (w + 0) (fX7_wordAt_0 isr wh rx ry kx ky)) (w + 1) sh)))]) (wr := [(h4, .inr (5, [.ref h5, .ref h6, .int isr, .int wh, .int sh])), (h5, .inr (6, [.int rl, .int rf, .int ra, .int rx, .int ry])), (h6, .inr (6, [.int kl, .int kf, .int ka, .int kx, .int ky]))]) (w1 := fun _ => [(h0, .inr (7, [.ref h1, .int n, x2, .ref h4])), (h1, .inl (cA, 1000, .inl (fX9_put (fX9_put (fX9_put f (w + 0) (fX7_wordAt_0 isr wh rx ry kx ky)) (w + 1) sh) (w + 2) rf)))]) (ws2 := fun _ => [(h0, .inr (7, [.ref h1, .int n, x2, .ref h4])), (h1, .inl (cA, 1000, .inl (fX9_put (fX9_put (fX9_put f (w + 0) (fX7_wordAt_0 isr wh rx ry kx ky)) (w + 1) sh) (w + 2) rf))), (h4, .inr (5, [.ref h5, .ref h6, .int isr, .int wh, .int sh])), (h5, .inr (6, [.int rl, .int rf, .int ra, .int rx, .int ry])), (h6, .inr (6, [.int kl, .int kf, .int ka, .int kx, .int ky]))]) (va_runV (As := [.int (w + 2), .int rf]) (rest := []) ⟨hx, hb, hml, hown, hts⟩ (kX9_put l D H.size h0 h1 cA x2 (.ref h4) n (fX9_put (fX9_put f (w + 0) (fX7_wordAt_0 isr wh rx ry kx ky)) (w + 1) sh) (w + 2) rf ) (cwV 2 hts gX9_store_X9_put rfl rfl rfl (by decide +kernel) ⟨Nat.le_of_ble_eq_true rfl, Nat.le_of_ble_eq_true rfl⟩) ⟨Pw_blind, (va_recv hKc hPc (ci := 7) (q0 := 0) rfl rfl), fun U hU hW => Pw_at hKc hPc hDc hN hU hW⟩ rfl rfl hl.1 rfl (lv_room (Nat.le_of_ble_eq_true rfl)) dX9_store_46 ⟨Nat.le_of_ble_eq_true rfl, Nat.le_of_ble_eq_true rfl⟩) hP hD hS hA [0, 1] [2, 3, 4] [3, 4, 0, 1, 2] rfl rfl (by decide) (by decide) (fun _ => rfl) (by decide) (fun _ _ H locs hP hD hS => ?_)
        have hP : va_P D vwCl [(h0, .inr (7, [.ref h1, .int n, x2, .ref h4])), (h1, .inl (cA, 1000, .inl (fX9_put (fX9_put (fX9_put f (w + 0) (fX7_wordAt_0 isr wh rx ry kx ky)) (w + 1) sh) (w + 2) rf))), (h4, .inr (5, [.ref h5, .ref h6, .int isr, .int wh, .int sh])), (h5, .inr (6, [.int rl, .int rf, .int ra, .int rx, .int ry])), (h6, .inr (6, [.int kl, .int kf, .int ka, .int kx, .int ky]))] H := hP
        have hD : va_D A [(h0, .inr (7, [.ref h1, .int n, x2, .ref h4])), (h1, .inl (cA, 1000, .inl (fX9_put (fX9_put (fX9_put f (w + 0) (fX7_wordAt_0 isr wh rx ry kx ky)) (w + 1) sh) (w + 2) rf))), (h4, .inr (5, [.ref h5, .ref h6, .int isr, .int wh, .int sh])), (h5, .inr (6, [.int rl, .int rf, .int ra, .int rx, .int ry])), (h6, .inr (6, [.int kl, .int kf, .int ka, .int kx, .int ky]))] := hD
        refine lv_iinc (v := 3) (lv' := [(5, .int 3), (0, .ref h0), (1, .int k), (2, .int w), (3, .int 4), (4, .int v_3), (6, .int rf)]) hx hb dX9_store_49 hl (k := 5) rfl (by decide) (by decide) rfl (fun ls hl => ?_)
        refine lv_goto (tgt := 6) hx hb dX9_store_52 (by decide) ?_
        refine lv_iload hx hb dX9_store_6 (lv_at hl 0 rfl) ?_
        refine lv_iload_n hx hb dX9_store_8 rfl (lv_at hl 4 rfl) ?_
        refine lv_icmp_ge (tgt := 55) hx hb dX9_store_9 (by decide) (fun h => absurd h (by decide)) (fun _ => ?_)
        refine lv_aload_n hx hb dX9_store_12 rfl (lv_at hl 1 rfl) ?_
        refine va_get (D := D) (ci := 7) (v := .ref h4) (C := RX9) (T := TX9) (N := 4) hx hb hts w_X9 hown hK hP 0 rfl rfl 3 (by decide) f_29 (fun _ h9 => h9) rfl dX9_store_13 ?_
        refine lv_iload hx hb dX9_store_16 (lv_at hl 0 rfl) ?_
        have hPc := hP.sub (ws' := [(h4, .inr (5, [.ref h5, .ref h6, .int isr, .int wh, .int sh])), (h5, .inr (6, [.int rl, .int rf, .int ra, .int rx, .int ry])), (h6, .inr (6, [.int kl, .int kf, .int ka, .int kx, .int ky]))]) [2, 3, 4] rfl
        have hDc := hD.sub (ws' := [(h4, .inr (5, [.ref h5, .ref h6, .int isr, .int wh, .int sh])), (h5, .inr (6, [.int rl, .int rf, .int ra, .int rx, .int ry])), (h6, .inr (6, [.int kl, .int kf, .int ka, .int kx, .int ky]))]) [2, 3, 4] (by decide) rfl
        have hKc := hK.sub (tys' := []) [] rfl
        refine rd_i (va_runV (As := [.int 3]) (rest := []) ⟨hx, hb, hml, hown, hts⟩ (kX7_wordAt_3 l D H.size h4 h5 h6 isr wh sh rl rf ra rx ry kl kf ka kx ky ) (cwV 1 hts gX9_store_X7_wordAt rfl rfl rfl (by decide +kernel) ⟨Nat.le_of_ble_eq_true rfl, Nat.le_of_ble_eq_true rfl⟩) ⟨Pw_blind, (va_recv hKc hPc (ci := 5) (q0 := 0) rfl rfl), fun U hU hW => Pw_at hKc hPc hDc hN hU hW⟩ rfl rfl hl.1 rfl (lv_room (Nat.le_of_ble_eq_true rfl)) dX9_store_18 ⟨Nat.le_of_ble_eq_true rfl, Nat.le_of_ble_eq_true rfl⟩) ?_
        refine lv_istore (lv' := [(6, .int kf), (5, .int 3), (0, .ref h0), (1, .int k), (2, .int w), (3, .int 4), (4, .int v_3)]) hx hb dX9_store_21 hl (by decide) rfl (fun ls hl => ?_)
        refine lv_iload hx hb dX9_store_23 (lv_at hl 0 rfl) ?_
        refine lv_aload_n hx hb dX9_store_25 rfl (lv_at hl 2 rfl) ?_
        refine lv_iload_n hx hb dX9_store_26 rfl (lv_at hl 3 rfl) ?_
        refine lv_iload hx hb dX9_store_27 (lv_at hl 1 rfl) ?_
        refine lv_iadd hx hb dX9_store_29 ?_
        have hPc := hP.sub (ws' := [(h0, .inr (7, [.ref h1, .int n, x2, .ref h4])), (h1, .inl (cA, 1000, .inl (fX9_put (fX9_put (fX9_put f (w + 0) (fX7_wordAt_0 isr wh rx ry kx ky)) (w + 1) sh) (w + 2) rf)))]) [0, 1] rfl
        have hDc := hD.sub (ws' := [(h0, .inr (7, [.ref h1, .int n, x2, .ref h4])), (h1, .inl (cA, 1000, .inl (fX9_put (fX9_put (fX9_put f (w + 0) (fX7_wordAt_0 isr wh rx ry kx ky)) (w + 1) sh) (w + 2) rf)))]) [0, 1] (by decide) rfl
        have hKc := hK.sub (tys' := [(cA, .int)]) [0] rfl
        refine rd_i (va_runV (As := [.int (k + 3)]) (rest := [.int kf]) ⟨hx, hb, hml, hown, hts⟩ (kX9_word l D H.size h0 h1 cA x2 (.ref h4) n (fX9_put (fX9_put (fX9_put f (w + 0) (fX7_wordAt_0 isr wh rx ry kx ky)) (w + 1) sh) (w + 2) rf) (k + 3) ) (cwV 1 hts gX9_store_X9_word rfl rfl rfl (by decide +kernel) ⟨Nat.le_of_ble_eq_true rfl, Nat.le_of_ble_eq_true rfl⟩) ⟨Pw_blind, (va_recv hKc hPc (ci := 7) (q0 := 0) rfl rfl), fun U hU hW => Pw_at hKc hPc hDc hN hU hW⟩ rfl rfl hl.1 rfl (lv_room (Nat.le_of_ble_eq_true rfl)) dX9_store_30 ⟨Nat.le_of_ble_eq_true rfl, Nat.le_of_ble_eq_true rfl⟩) ?_
        have K39_4 : ∀ (v_4 : Int32), v_4 = (if kf = (fX9_word n (fX9_put (fX9_put (fX9_put f (w + 0) (fX7_wordAt_0 isr wh rx ry kx ky)) (w + 1) sh) (w + 2) rf) (k + 3)) then v_3 else 1) → ∀ ls : Array Slot, lv_has ls 7 [(0, .ref h0), (1, .int k), (2, .int w), (3, .int 4), (4, .int v_4), (5, .int 3), (6, .int kf)] → W p l e (headSpec wsX9_store rmX9_store_4).room s m ([.ref h0, .int k, .int w, .int 4] : List Value).toArray below meth c H locs 0 0 Q (F0 m 39 ls []) := by
          intro v_4 ev_4 ls hl
          refine lv_aload_n hx hb dX9_store_39 rfl (lv_at hl 0 rfl) ?_
          refine lv_iload_n hx hb dX9_store_40 rfl (lv_at hl 2 rfl) ?_
          refine lv_iload hx hb dX9_store_41 (lv_at hl 5 rfl) ?_
          refine lv_iadd hx hb dX9_store_43 ?_
          refine lv_iload hx hb dX9_store_44 (lv_at hl 6 rfl) ?_
          have hPc := hP.sub (ws' := [(h0, .inr (7, [.ref h1, .int n, x2, .ref h4])), (h1, .inl (cA, 1000, .inl (fX9_put (fX9_put (fX9_put f (w + 0) (fX7_wordAt_0 isr wh rx ry kx ky)) (w + 1) sh) (w + 2) rf)))]) [0, 1] rfl
          have hDc := hD.sub (ws' := [(h0, .inr (7, [.ref h1, .int n, x2, .ref h4])), (h1, .inl (cA, 1000, .inl (fX9_put (fX9_put (fX9_put f (w + 0) (fX7_wordAt_0 isr wh rx ry kx ky)) (w + 1) sh) (w + 2) rf)))]) [0, 1] (by decide) rfl
          have hKc := hK.sub (tys' := [(cA, .int)]) [0] rfl
          refine wk_v (β := Unit) (ok := fun _ => True) (wc := [(h0, .inr (7, [.ref h1, .int n, x2, .ref h4])), (h1, .inl (cA, 1000, .inl (fX9_put (fX9_put (fX9_put f (w + 0) (fX7_wordAt_0 isr wh rx ry kx ky)) (w + 1) sh) (w + 2) rf)))]) (wr := [(h4, .inr (5, [.ref h5, .ref h6, .int isr, .int wh, .int sh])), (h5, .inr (6, [.int rl, .int rf, .int ra, .int rx, .int ry])), (h6, .inr (6, [.int kl, .int kf, .int ka, .int kx, .int ky]))]) (w1 := fun _ => [(h0, .inr (7, [.ref h1, .int n, x2, .ref h4])), (h1, .inl (cA, 1000, .inl (fX9_put (fX9_put (fX9_put (fX9_put f (w + 0) (fX7_wordAt_0 isr wh rx ry kx ky)) (w + 1) sh) (w + 2) rf) (w + 3) kf)))]) (ws2 := fun _ => [(h0, .inr (7, [.ref h1, .int n, x2, .ref h4])), (h1, .inl (cA, 1000, .inl (fX9_put (fX9_put (fX9_put (fX9_put f (w + 0) (fX7_wordAt_0 isr wh rx ry kx ky)) (w + 1) sh) (w + 2) rf) (w + 3) kf))), (h4, .inr (5, [.ref h5, .ref h6, .int isr, .int wh, .int sh])), (h5, .inr (6, [.int rl, .int rf, .int ra, .int rx, .int ry])), (h6, .inr (6, [.int kl, .int kf, .int ka, .int kx, .int ky]))]) (va_runV (As := [.int (w + 3), .int kf]) (rest := []) ⟨hx, hb, hml, hown, hts⟩ (kX9_put l D H.size h0 h1 cA x2 (.ref h4) n (fX9_put (fX9_put (fX9_put f (w + 0) (fX7_wordAt_0 isr wh rx ry kx ky)) (w + 1) sh) (w + 2) rf) (w + 3) kf ) (cwV 2 hts gX9_store_X9_put rfl rfl rfl (by decide +kernel) ⟨Nat.le_of_ble_eq_true rfl, Nat.le_of_ble_eq_true rfl⟩) ⟨Pw_blind, (va_recv hKc hPc (ci := 7) (q0 := 0) rfl rfl), fun U hU hW => Pw_at hKc hPc hDc hN hU hW⟩ rfl rfl hl.1 rfl (lv_room (Nat.le_of_ble_eq_true rfl)) dX9_store_46 ⟨Nat.le_of_ble_eq_true rfl, Nat.le_of_ble_eq_true rfl⟩) hP hD hS hA [0, 1] [2, 3, 4] [3, 4, 0, 1, 2] rfl rfl (by decide) (by decide) (fun _ => rfl) (by decide) (fun _ _ H locs hP hD hS => ?_)
          have hP : va_P D vwCl [(h0, .inr (7, [.ref h1, .int n, x2, .ref h4])), (h1, .inl (cA, 1000, .inl (fX9_put (fX9_put (fX9_put (fX9_put f (w + 0) (fX7_wordAt_0 isr wh rx ry kx ky)) (w + 1) sh) (w + 2) rf) (w + 3) kf))), (h4, .inr (5, [.ref h5, .ref h6, .int isr, .int wh, .int sh])), (h5, .inr (6, [.int rl, .int rf, .int ra, .int rx, .int ry])), (h6, .inr (6, [.int kl, .int kf, .int ka, .int kx, .int ky]))] H := hP
          have hD : va_D A [(h0, .inr (7, [.ref h1, .int n, x2, .ref h4])), (h1, .inl (cA, 1000, .inl (fX9_put (fX9_put (fX9_put (fX9_put f (w + 0) (fX7_wordAt_0 isr wh rx ry kx ky)) (w + 1) sh) (w + 2) rf) (w + 3) kf))), (h4, .inr (5, [.ref h5, .ref h6, .int isr, .int wh, .int sh])), (h5, .inr (6, [.int rl, .int rf, .int ra, .int rx, .int ry])), (h6, .inr (6, [.int kl, .int kf, .int ka, .int kx, .int ky]))] := hD
          refine lv_iinc (v := 4) (lv' := [(5, .int 4), (0, .ref h0), (1, .int k), (2, .int w), (3, .int 4), (4, .int v_4), (6, .int kf)]) hx hb dX9_store_49 hl (k := 5) rfl (by decide) (by decide) rfl (fun ls hl => ?_)
          refine lv_goto (tgt := 6) hx hb dX9_store_52 (by decide) ?_
          refine lv_iload hx hb dX9_store_6 (lv_at hl 0 rfl) ?_
          refine lv_iload_n hx hb dX9_store_8 rfl (lv_at hl 4 rfl) ?_
          refine lv_icmp_ge (tgt := 55) hx hb dX9_store_9 (by decide) (fun _ => ?_) (fun h => absurd h (by decide))
          refine lv_iload hx hb dX9_store_55 (lv_at hl 5 rfl) ?_
          have hF : (fX9_store_4 n f isr wh sh rf rx ry kf kx ky k w) = (v_4, (fX9_put (fX9_put (fX9_put (fX9_put f (w + 0) (fX7_wordAt_0 isr wh rx ry kx ky)) (w + 1) sh) (w + 2) rf) (w + 3) kf)) := by subst ev_4; subst ev_3; subst ev_2; subst ev_1; exact rfl
          subst hAe
          subst hQe
          exact W.zret (v := v_4) hx hb hr (isB.nar (by rw [ev_4]; exact (isB.ite (by rw [ev_3]; exact (isB.ite (by rw [ev_2]; exact (isB.ite (by rw [ev_1]; exact (isB.ite (Or.inl rfl) (Or.inr rfl))) (Or.inr rfl))) (Or.inr rfl))) (Or.inr rfl)))) (fun t ht hW => ⟨⟨_, _, rfl, ⟨(), trivial, by rw [hF], by rw [hF]⟩, by rw [ht]; exact hP, hD⟩, hS.F ht⟩) hS.2.2 dX9_store_57
        refine lv_icmp_eq (tgt := 39) hx hb dX9_store_33 (by decide) (fun c33 => ?_) (fun c33 => ?_)
        · exact K39_4 _ (if_pos c33).symm ls (lv_sub hl [2, 3, 4, 5, 6, 1, 0] rfl)
        · refine lv_iconst (v := 1) hx hb dX9_store_36 (by decide) ?_
          refine lv_istore (lv' := [(4, .int 1), (6, .int kf), (5, .int 3), (0, .ref h0), (1, .int k), (2, .int w), (3, .int 4)]) hx hb dX9_store_37 hl (by decide) rfl (fun ls hl => ?_)
          exact K39_4 _ (if_neg c33).symm ls (lv_sub hl [3, 4, 5, 6, 0, 2, 1] rfl)
      refine lv_icmp_eq (tgt := 39) hx hb dX9_store_33 (by decide) (fun c33 => ?_) (fun c33 => ?_)
      · exact K39_3 _ (if_pos c33).symm ls (lv_sub hl [2, 3, 4, 5, 6, 1, 0] rfl)
      · refine lv_iconst (v := 1) hx hb dX9_store_36 (by decide) ?_
        refine lv_istore (lv' := [(4, .int 1), (6, .int rf), (5, .int 2), (0, .ref h0), (1, .int k), (2, .int w), (3, .int 4)]) hx hb dX9_store_37 hl (by decide) rfl (fun ls hl => ?_)
        exact K39_3 _ (if_neg c33).symm ls (lv_sub hl [3, 4, 5, 6, 0, 2, 1] rfl)
    refine lv_icmp_eq (tgt := 39) hx hb dX9_store_33 (by decide) (fun c33 => ?_) (fun c33 => ?_)
    · exact K39_2 _ (if_pos c33).symm ls (lv_sub hl [2, 3, 4, 5, 6, 1, 0] rfl)
    · refine lv_iconst (v := 1) hx hb dX9_store_36 (by decide) ?_
      refine lv_istore (lv' := [(4, .int 1), (6, .int sh), (5, .int 1), (0, .ref h0), (1, .int k), (2, .int w), (3, .int 4)]) hx hb dX9_store_37 hl (by decide) rfl (fun ls hl => ?_)
      exact K39_2 _ (if_neg c33).symm ls (lv_sub hl [3, 4, 5, 6, 0, 2, 1] rfl)
  refine lv_icmp_eq (tgt := 39) hx hb dX9_store_33 (by decide) (fun c33 => ?_) (fun c33 => ?_)
  · exact K39_1 _ (if_pos c33).symm ls (lv_sub hl [3, 4, 5, 6, 2, 1, 0] rfl)
  · refine lv_iconst (v := 1) hx hb dX9_store_36 (by decide) ?_
    refine lv_istore (lv' := [(4, .int 1), (6, .int (fX7_wordAt_0 isr wh rx ry kx ky)), (5, .int 0), (0, .ref h0), (1, .int k), (2, .int w), (3, .int 4)]) hx hb dX9_store_37 hl (by decide) rfl (fun ls hl => ?_)
    exact K39_1 _ (if_neg c33).symm ls (lv_sub hl [3, 4, 5, 6, 0, 2, 1] rfl)

abbrev rmX9_load_6 : Room := { frames := 1, cells := 0, slots := 0, locals := 22 }
abbrev qX9_load_6 (D : va_G) (sz : Nat) (h0 : Nat) (h1 : Nat) (h4 : Nat) (h5 : Nat) (h6 : Nat) (cA : ClassId) (x2 : Value) (n : Int32) (f : Nat → Int32) (isr : Int32) (wh : Int32) (sh : Int32) (rl : Int32) (rf : Int32) (ra : Int32) (rx : Int32) (ry : Int32) (kl : Int32) (kf : Int32) (ka : Int32) (kx : Int32) (ky : Int32) (k : Int32) : Array Value → State → Outcome → State → Prop := va_Qv (fun w_9 => ∃ _u : Unit, True ∧ w_9 = [(h0, .inr (7, [.ref h1, .int n, x2, .ref h4])), (h1, .inl (cA, 1000, .inl f)), (h4, .inr (5, [.ref h5, .ref h6, .int 1, .int (((fX9_word n f k) / 16) &&& 48), .int (fX9_word n f (k + 1))])), (h5, .inr (6, [.int rl, .int (fX9_word n f (k + 2)), .int (fX9_word n f ((k + 6) - 2)), .int (fX9_has ((fX9_word n f k) / 16) 2), .int (fX9_has (((fX9_word n f k) / 16) / 4) 2)])), (h6, .inr (6, [.int kl, .int (fX9_word n f (k + 3)), .int (fX9_word n f ((k + 6) - 1)), .int (fX9_has ((fX9_word n f k) / 16) 1), .int (fX9_has (((fX9_word n f k) / 16) / 4) 1)]))]) (Bq D (va_A [(h0, .inr (7, [.ref h1, .int n, x2, .ref h4])), (h1, .inl (cA, 1000, .inl f)), (h4, .inr (5, [.ref h5, .ref h6, .int isr, .int wh, .int sh])), (h5, .inr (6, [.int rl, .int rf, .int ra, .int rx, .int ry])), (h6, .inr (6, [.int kl, .int kf, .int ka, .int kx, .int ky]))] sz)) (va_A [(h0, .inr (7, [.ref h1, .int n, x2, .ref h4])), (h1, .inl (cA, 1000, .inl f)), (h4, .inr (5, [.ref h5, .ref h6, .int isr, .int wh, .int sh])), (h5, .inr (6, [.int rl, .int rf, .int ra, .int rx, .int ry])), (h6, .inr (6, [.int kl, .int kf, .int ka, .int kx, .int ky]))] sz)
set_option maxHeartbeats 4000000 in
set_option maxRecDepth 100000 in
theorem kX9_load_6 (l : Launch) (D : va_G) (sz : Nat) (h0 : Nat) (h1 : Nat) (h4 : Nat) (h5 : Nat) (h6 : Nat) (cA : ClassId) (x2 : Value) (n : Int32) (f : Nat → Int32) (isr : Int32) (wh : Int32) (sh : Int32) (rl : Int32) (rf : Int32) (ra : Int32) (rx : Int32) (ry : Int32) (kl : Int32) (kf : Int32) (ka : Int32) (kx : Int32) (ky : Int32) (k : Int32) : Met l yX9_load wsX9_load rmX9_load_6 (va_Pc [.ref h0, .int k, .int 6] (Pw D [(cA, .int)] [(h0, .inr (7, [.ref h1, .int n, x2, .ref h4])), (h1, .inl (cA, 1000, .inl f)), (h4, .inr (5, [.ref h5, .ref h6, .int isr, .int wh, .int sh])), (h5, .inr (6, [.int rl, .int rf, .int ra, .int rx, .int ry])), (h6, .inr (6, [.int kl, .int kf, .int ka, .int kx, .int ky]))] sz)) (qX9_load_6 D sz h0 h1 h4 h5 h6 cA x2 n f isr wh sh rl rf ra rx ry kl kf ka kx ky k) 0 0 (va_A [(h0, .inr (7, [.ref h1, .int n, x2, .ref h4])), (h1, .inl (cA, 1000, .inl f)), (h4, .inr (5, [.ref h5, .ref h6, .int isr, .int wh, .int sh])), (h5, .inr (6, [.int rl, .int rf, .int ra, .int rx, .int ry])), (h6, .inr (6, [.int kl, .int kf, .int ka, .int kx, .int ky]))] sz) := by
  refine Met.ofW (cc := cX9_load) (maxL := 6) (ret := none) (by decide) rfl ?_
  intro p e s m args below meth c s₁ B hml hv
  obtain ⟨rfl, hsz, hP, hK, hD0, hN⟩ := hv
  have hx := B.exec
  have hb := B.bytes
  have hr := B.returns
  have hts := atoms_spec (ws := wsX9_load) B.pre
  have hown : s.vm.findClass RX9 = some m.cls := findClass_of_methodNamed B.named
  have hlocks := B.notSynchronized
  subst hsz
  obtain ⟨Q, hQe⟩ : ∃ Q, Q = MQ below (qX9_load_6 D s.heap.size h0 h1 h4 h5 h6 cA x2 n f isr wh sh rl rf ra rx ry kl kf ka kx ky k) ([.ref h0, .int k, .int 6] : List Value).toArray s 0 0 (va_A [(h0, .inr (7, [.ref h1, .int n, x2, .ref h4])), (h1, .inl (cA, 1000, .inl f)), (h4, .inr (5, [.ref h5, .ref h6, .int isr, .int wh, .int sh])), (h5, .inr (6, [.int rl, .int rf, .int ra, .int rx, .int ry])), (h6, .inr (6, [.int kl, .int kf, .int ka, .int kx, .int ky]))] s.heap.size) := ⟨_, rfl⟩
  rw [← hQe]
  obtain ⟨A, hAe⟩ : ∃ A, A = va_A [(h0, .inr (7, [.ref h1, .int n, x2, .ref h4])), (h1, .inl (cA, 1000, .inl f)), (h4, .inr (5, [.ref h5, .ref h6, .int isr, .int wh, .int sh])), (h5, .inr (6, [.int rl, .int rf, .int ra, .int rx, .int ry])), (h6, .inr (6, [.int kl, .int kf, .int ka, .int kx, .int ky]))] s.heap.size := ⟨_, rfl⟩
  have hD : va_D A [(h0, .inr (7, [.ref h1, .int n, x2, .ref h4])), (h1, .inl (cA, 1000, .inl f)), (h4, .inr (5, [.ref h5, .ref h6, .int isr, .int wh, .int sh])), (h5, .inr (6, [.int rl, .int rf, .int ra, .int rx, .int ry])), (h6, .inr (6, [.int kl, .int kf, .int ka, .int kx, .int ky]))] := by rw [hAe]; exact hD0.self
  have hA : ∀ q : Nat, s.heap.size ≤ q → A q := by rw [hAe]; exact mo_A
  have hS : va_S A s.heap s.heap [] := va_S.rf
  obtain ⟨H, hHe⟩ : ∃ H, H = s.heap := ⟨_, rfl⟩
  obtain ⟨locs, hLe⟩ : ∃ L : List Loc, L = [] := ⟨_, rfl⟩
  have hP : va_P D vwCl [(h0, .inr (7, [.ref h1, .int n, x2, .ref h4])), (h1, .inl (cA, 1000, .inl f)), (h4, .inr (5, [.ref h5, .ref h6, .int isr, .int wh, .int sh])), (h5, .inr (6, [.int rl, .int rf, .int ra, .int rx, .int ry])), (h6, .inr (6, [.int kl, .int kf, .int ka, .int kx, .int ky]))] H := by rw [hHe]; exact hP
  have hS : va_S A s.heap H locs := by rw [hHe, hLe]; exact hS
  have hl := lv_entry ([.ref h0, .int k, .int 6]) (n := 6) (Nat.le_of_ble_eq_true rfl)
  rw [lg_entry_eq]
  generalize (lg_sl ([.ref h0, .int k, .int 6]) ++ List.replicate (6 - (lg_sl ([.ref h0, .int k, .int 6])).length) Slot.unset).toArray = ls at hl ⊢
  have hl : lv_has ls 6 [(0, .ref h0), (1, .int k), (2, .int 6)] := hl
  refine hStart hHe hLe ?_
  clear hHe hLe
  have w_X9 : ∀ w ∈ wsX90, w ∈ wsX9_load := by decide +kernel
  have f_29 := hts (.fieldLink RX9 29 "ReferenceMover" "reference" "LReferenceMover$Reference;") (by decide +kernel)
  have w_X7 : ∀ w ∈ wsX70, w ∈ wsX9_load := by decide +kernel
  have f_144 := hts (.fieldLink RX9 144 "ReferenceMover$Reference" "isRange" "Z") (by decide +kernel)
  have f_148 := hts (.fieldLink RX9 148 "ReferenceMover$Reference" "whole" "I") (by decide +kernel)
  have f_151 := hts (.fieldLink RX9 151 "ReferenceMover$Reference" "sheet" "I") (by decide +kernel)
  have f_154 := hts (.fieldLink RX9 154 "ReferenceMover$Reference" "rows" "LReferenceMover$Span;") (by decide +kernel)
  have f_164 := hts (.fieldLink RX9 164 "ReferenceMover$Reference" "columns" "LReferenceMover$Span;") (by decide +kernel)
  refine lv_iload_n hx hb dX9_load_0 rfl (lv_at hl 2 rfl) ?_
  refine lv_bipush (v := 6) hx hb dX9_load_1 (by decide) ?_
  refine lv_icmp_ne (tgt := 10) hx hb dX9_load_3 (by decide) (fun h => absurd h (by decide)) (fun _ => ?_)
  refine lv_iconst (v := 1) hx hb dX9_load_6 (by decide) ?_
  refine lv_goto (tgt := 11) hx hb dX9_load_7 (by decide) ?_
  refine lv_istore_n (lv' := [(3, .int 1), (0, .ref h0), (1, .int k), (2, .int 6)]) hx hb dX9_load_11 rfl hl (by decide) rfl (fun ls hl => ?_)
  refine lv_aload_n hx hb dX9_load_12 rfl (lv_at hl 1 rfl) ?_
  refine lv_iload_n hx hb dX9_load_13 rfl (lv_at hl 2 rfl) ?_
  have hPc := hP.sub (ws' := [(h0, .inr (7, [.ref h1, .int n, x2, .ref h4])), (h1, .inl (cA, 1000, .inl f))]) [0, 1] rfl
  have hDc := hD.sub (ws' := [(h0, .inr (7, [.ref h1, .int n, x2, .ref h4])), (h1, .inl (cA, 1000, .inl f))]) [0, 1] (by decide) rfl
  have hKc := hK.sub (tys' := [(cA, .int)]) [0] rfl
  refine rd_i (va_runV (As := [.int k]) (rest := []) ⟨hx, hb, hml, hown, hts⟩ (kX9_word l D H.size h0 h1 cA x2 (.ref h4) n f k ) (cwV 1 hts gX9_load_X9_word rfl rfl rfl (by decide +kernel) ⟨Nat.le_of_ble_eq_true rfl, Nat.le_of_ble_eq_true rfl⟩) ⟨Pw_blind, (va_recv hKc hPc (ci := 7) (q0 := 0) rfl rfl), fun U hU hW => Pw_at hKc hPc hDc hN hU hW⟩ rfl rfl hl.1 rfl (lv_room (Nat.le_of_ble_eq_true rfl)) dX9_load_14 ⟨Nat.le_of_ble_eq_true rfl, Nat.le_of_ble_eq_true rfl⟩) ?_
  refine lv_bipush (v := 16) hx hb dX9_load_17 (by decide) ?_
  refine lv_idiv hx hb dX9_load_19 (by decide) ?_
  refine lv_istore (lv' := [(4, .int ((fX9_word n f k) / 16)), (3, .int 1), (0, .ref h0), (1, .int k), (2, .int 6)]) hx hb dX9_load_20 hl (by decide) rfl (fun ls hl => ?_)
  refine lv_iload_n hx hb dX9_load_22 rfl (lv_at hl 1 rfl) ?_
  refine lv_if_eq (tgt := 33) hx hb dX9_load_23 (by decide) (fun h => absurd h (by decide)) (fun _ => ?_)
  refine lv_iload hx hb dX9_load_26 (lv_at hl 0 rfl) ?_
  refine lv_iconst (v := 4) hx hb dX9_load_28 (by decide) ?_
  refine lv_idiv hx hb dX9_load_29 (by decide) ?_
  refine lv_goto (tgt := 35) hx hb dX9_load_30 (by decide) ?_
  refine lv_istore (lv' := [(5, .int (((fX9_word n f k) / 16) / 4)), (4, .int ((fX9_word n f k) / 16)), (3, .int 1), (0, .ref h0), (1, .int k), (2, .int 6)]) hx hb dX9_load_35 hl (by decide) rfl (fun ls hl => ?_)
  refine lv_aload_n hx hb dX9_load_37 rfl (lv_at hl 3 rfl) ?_
  refine va_get (D := D) (ci := 7) (v := .ref h4) (C := RX9) (T := TX9) (N := 4) hx hb hts w_X9 hown hK hP 0 rfl rfl 3 (by decide) f_29 (fun _ h9 => h9) rfl dX9_load_38 ?_
  refine lv_iload_n hx hb dX9_load_41 rfl (lv_at hl 2 rfl) ?_
  refine va_put (D := D) (ci := 5) (v := .int 1) (ty := .boolean) (C := RX7) (T := TX7) (N := 5) hx hb hts w_X7 tyX7 tyX7_ok nmX7 hown hK hP hD hS 2 rfl rfl 2 (by decide) f_144 (fun _ h9 => h9) rfl (by decide +kernel) rfl rfl (Nat.le_of_ble_eq_true rfl) dX9_load_42 (fun H locs hP hD hS => ?_)
  have hP : va_P D vwCl [(h0, .inr (7, [.ref h1, .int n, x2, .ref h4])), (h1, .inl (cA, 1000, .inl f)), (h4, .inr (5, [.ref h5, .ref h6, .int 1, .int wh, .int sh])), (h5, .inr (6, [.int rl, .int rf, .int ra, .int rx, .int ry])), (h6, .inr (6, [.int kl, .int kf, .int ka, .int kx, .int ky]))] H := hP
  have hD : va_D A [(h0, .inr (7, [.ref h1, .int n, x2, .ref h4])), (h1, .inl (cA, 1000, .inl f)), (h4, .inr (5, [.ref h5, .ref h6, .int 1, .int wh, .int sh])), (h5, .inr (6, [.int rl, .int rf, .int ra, .int rx, .int ry])), (h6, .inr (6, [.int kl, .int kf, .int ka, .int kx, .int ky]))] := hD
  refine lv_aload_n hx hb dX9_load_45 rfl (lv_at hl 3 rfl) ?_
  refine va_get (D := D) (ci := 7) (v := .ref h4) (C := RX9) (T := TX9) (N := 4) hx hb hts w_X9 hown hK hP 0 rfl rfl 3 (by decide) f_29 (fun _ h9 => h9) rfl dX9_load_46 ?_
  refine lv_iload hx hb dX9_load_49 (lv_at hl 1 rfl) ?_
  refine lv_bipush (v := 48) hx hb dX9_load_51 (by decide) ?_
  refine lv_iand hx hb dX9_load_53 ?_
  refine va_put (D := D) (ci := 5) (v := .int (((fX9_word n f k) / 16) &&& 48)) (ty := .int) (C := RX7) (T := TX7) (N := 5) hx hb hts w_X7 tyX7 tyX7_ok nmX7 hown hK hP hD hS 2 rfl rfl 3 (by decide) f_148 (fun _ h9 => h9) rfl (by decide +kernel) rfl rfl (Nat.le_of_ble_eq_true rfl) dX9_load_54 (fun H locs hP hD hS => ?_)
  have hP : va_P D vwCl [(h0, .inr (7, [.ref h1, .int n, x2, .ref h4])), (h1, .inl (cA, 1000, .inl f)), (h4, .inr (5, [.ref h5, .ref h6, .int 1, .int (((fX9_word n f k) / 16) &&& 48), .int sh])), (h5, .inr (6, [.int rl, .int rf, .int ra, .int rx, .int ry])), (h6, .inr (6, [.int kl, .int kf, .int ka, .int kx, .int ky]))] H := hP
  have hD : va_D A [(h0, .inr (7, [.ref h1, .int n, x2, .ref h4])), (h1, .inl (cA, 1000, .inl f)), (h4, .inr (5, [.ref h5, .ref h6, .int 1, .int (((fX9_word n f k) / 16) &&& 48), .int sh])), (h5, .inr (6, [.int rl, .int rf, .int ra, .int rx, .int ry])), (h6, .inr (6, [.int kl, .int kf, .int ka, .int kx, .int ky]))] := hD
  refine lv_aload_n hx hb dX9_load_57 rfl (lv_at hl 3 rfl) ?_
  refine va_get (D := D) (ci := 7) (v := .ref h4) (C := RX9) (T := TX9) (N := 4) hx hb hts w_X9 hown hK hP 0 rfl rfl 3 (by decide) f_29 (fun _ h9 => h9) rfl dX9_load_58 ?_
  refine lv_aload_n hx hb dX9_load_61 rfl (lv_at hl 3 rfl) ?_
  refine lv_iload_n hx hb dX9_load_62 rfl (lv_at hl 4 rfl) ?_
  refine lv_iconst (v := 1) hx hb dX9_load_63 (by decide) ?_
  refine lv_iadd hx hb dX9_load_64 ?_
  have hPc := hP.sub (ws' := [(h0, .inr (7, [.ref h1, .int n, x2, .ref h4])), (h1, .inl (cA, 1000, .inl f))]) [0, 1] rfl
  have hDc := hD.sub (ws' := [(h0, .inr (7, [.ref h1, .int n, x2, .ref h4])), (h1, .inl (cA, 1000, .inl f))]) [0, 1] (by decide) rfl
  have hKc := hK.sub (tys' := [(cA, .int)]) [0] rfl
  refine rd_i (va_runV (As := [.int (k + 1)]) (rest := [.ref h4]) ⟨hx, hb, hml, hown, hts⟩ (kX9_word l D H.size h0 h1 cA x2 (.ref h4) n f (k + 1) ) (cwV 1 hts gX9_load_X9_word rfl rfl rfl (by decide +kernel) ⟨Nat.le_of_ble_eq_true rfl, Nat.le_of_ble_eq_true rfl⟩) ⟨Pw_blind, (va_recv hKc hPc (ci := 7) (q0 := 0) rfl rfl), fun U hU hW => Pw_at hKc hPc hDc hN hU hW⟩ rfl rfl hl.1 rfl (lv_room (Nat.le_of_ble_eq_true rfl)) dX9_load_65 ⟨Nat.le_of_ble_eq_true rfl, Nat.le_of_ble_eq_true rfl⟩) ?_
  refine va_put (D := D) (ci := 5) (v := .int (fX9_word n f (k + 1))) (ty := .int) (C := RX7) (T := TX7) (N := 5) hx hb hts w_X7 tyX7 tyX7_ok nmX7 hown hK hP hD hS 2 rfl rfl 4 (by decide) f_151 (fun _ h9 => h9) rfl (by decide +kernel) rfl rfl (Nat.le_of_ble_eq_true rfl) dX9_load_68 (fun H locs hP hD hS => ?_)
  have hP : va_P D vwCl [(h0, .inr (7, [.ref h1, .int n, x2, .ref h4])), (h1, .inl (cA, 1000, .inl f)), (h4, .inr (5, [.ref h5, .ref h6, .int 1, .int (((fX9_word n f k) / 16) &&& 48), .int (fX9_word n f (k + 1))])), (h5, .inr (6, [.int rl, .int rf, .int ra, .int rx, .int ry])), (h6, .inr (6, [.int kl, .int kf, .int ka, .int kx, .int ky]))] H := hP
  have hD : va_D A [(h0, .inr (7, [.ref h1, .int n, x2, .ref h4])), (h1, .inl (cA, 1000, .inl f)), (h4, .inr (5, [.ref h5, .ref h6, .int 1, .int (((fX9_word n f k) / 16) &&& 48), .int (fX9_word n f (k + 1))])), (h5, .inr (6, [.int rl, .int rf, .int ra, .int rx, .int ry])), (h6, .inr (6, [.int kl, .int kf, .int ka, .int kx, .int ky]))] := hD
  refine lv_aload_n hx hb dX9_load_71 rfl (lv_at hl 3 rfl) ?_
  refine va_get (D := D) (ci := 7) (v := .ref h4) (C := RX9) (T := TX9) (N := 4) hx hb hts w_X9 hown hK hP 0 rfl rfl 3 (by decide) f_29 (fun _ h9 => h9) rfl dX9_load_72 ?_
  refine va_get (D := D) (ci := 5) (v := .ref h5) (C := RX7) (T := TX7) (N := 5) hx hb hts w_X7 hown hK hP 2 rfl rfl 0 (by decide) f_154 (fun _ h9 => h9) rfl dX9_load_75 ?_
  refine lv_aload_n hx hb dX9_load_78 rfl (lv_at hl 3 rfl) ?_
  refine lv_iload_n hx hb dX9_load_79 rfl (lv_at hl 4 rfl) ?_
  refine lv_iconst (v := 2) hx hb dX9_load_80 (by decide) ?_
  refine lv_iadd hx hb dX9_load_81 ?_
  have hPc := hP.sub (ws' := [(h0, .inr (7, [.ref h1, .int n, x2, .ref h4])), (h1, .inl (cA, 1000, .inl f))]) [0, 1] rfl
  have hDc := hD.sub (ws' := [(h0, .inr (7, [.ref h1, .int n, x2, .ref h4])), (h1, .inl (cA, 1000, .inl f))]) [0, 1] (by decide) rfl
  have hKc := hK.sub (tys' := [(cA, .int)]) [0] rfl
  refine rd_i (va_runV (As := [.int (k + 2)]) (rest := [.ref h5]) ⟨hx, hb, hml, hown, hts⟩ (kX9_word l D H.size h0 h1 cA x2 (.ref h4) n f (k + 2) ) (cwV 1 hts gX9_load_X9_word rfl rfl rfl (by decide +kernel) ⟨Nat.le_of_ble_eq_true rfl, Nat.le_of_ble_eq_true rfl⟩) ⟨Pw_blind, (va_recv hKc hPc (ci := 7) (q0 := 0) rfl rfl), fun U hU hW => Pw_at hKc hPc hDc hN hU hW⟩ rfl rfl hl.1 rfl (lv_room (Nat.le_of_ble_eq_true rfl)) dX9_load_82 ⟨Nat.le_of_ble_eq_true rfl, Nat.le_of_ble_eq_true rfl⟩) ?_
  refine lv_iload hx hb dX9_load_85 (lv_at hl 1 rfl) ?_
  refine lv_iconst (v := 2) hx hb dX9_load_87 (by decide) ?_
  have hPc := hP.sub (ws' := []) [] rfl
  have hDc := hD.sub (ws' := []) [] (by decide) rfl
  have hKc := hK.sub (tys' := []) [] rfl
  refine rd_i (va_runS (As := [.int ((fX9_word n f k) / 16), .int 2]) (rest := [.int (fX9_word n f (k + 2)), .ref h5]) ⟨hx, hb, hml, hown, hts⟩ (kX9_has l D H.size ((fX9_word n f k) / 16) 2 ) (va_cwS 2 hts gX9_load_X9_has rfl rfl rfl (by decide +kernel) ⟨Nat.le_of_ble_eq_true rfl, Nat.le_of_ble_eq_true rfl⟩) ⟨Pw_blind, fun U hU hW => Pw_at hKc hPc hDc hN hU hW⟩ rfl rfl hl.1 rfl (lv_room (Nat.le_of_ble_eq_true rfl)) dX9_load_88 ⟨Nat.le_of_ble_eq_true rfl, Nat.le_of_ble_eq_true rfl⟩) ?_
  have hPc := hP.sub (ws' := [(h5, .inr (6, [.int rl, .int rf, .int ra, .int rx, .int ry]))]) [3] rfl
  have hDc := hD.sub (ws' := [(h5, .inr (6, [.int rl, .int rf, .int ra, .int rx, .int ry]))]) [3] (by decide) rfl
  have hKc := hK.sub (tys' := []) [] rfl
  refine wk_v (β := Unit) (ok := fun _ => True) (wc := [(h5, .inr (6, [.int rl, .int rf, .int ra, .int rx, .int ry]))]) (wr := [(h0, .inr (7, [.ref h1, .int n, x2, .ref h4])), (h1, .inl (cA, 1000, .inl f)), (h4, .inr (5, [.ref h5, .ref h6, .int 1, .int (((fX9_word n f k) / 16) &&& 48), .int (fX9_word n f (k + 1))])), (h6, .inr (6, [.int kl, .int kf, .int ka, .int kx, .int ky]))]) (w1 := fun _ => [(h5, .inr (6, [.int rl, .int (fX9_word n f (k + 2)), .int ra, .int (fX9_has ((fX9_word n f k) / 16) 2), .int ry]))]) (ws2 := fun _ => [(h0, .inr (7, [.ref h1, .int n, x2, .ref h4])), (h1, .inl (cA, 1000, .inl f)), (h4, .inr (5, [.ref h5, .ref h6, .int 1, .int (((fX9_word n f k) / 16) &&& 48), .int (fX9_word n f (k + 1))])), (h5, .inr (6, [.int rl, .int (fX9_word n f (k + 2)), .int ra, .int (fX9_has ((fX9_word n f k) / 16) 2), .int ry])), (h6, .inr (6, [.int kl, .int kf, .int ka, .int kx, .int ky]))]) (va_runV (As := [.int (fX9_word n f (k + 2)), .int (fX9_has ((fX9_word n f k) / 16) 2)]) (rest := []) ⟨hx, hb, hml, hown, hts⟩ (kX8_setFirst l D H.size h5 rl rf ra rx ry (fX9_word n f (k + 2)) (fX9_has ((fX9_word n f k) / 16) 2) (zb_X9_has _ _)) (cwV 2 hts gX9_load_X8_setFirst rfl rfl rfl (by decide +kernel) ⟨Nat.le_of_ble_eq_true rfl, Nat.le_of_ble_eq_true rfl⟩) ⟨Pw_blind, (va_recv hKc hPc (ci := 6) (q0 := 0) rfl rfl), fun U hU hW => Pw_at hKc hPc hDc hN hU hW⟩ rfl rfl hl.1 rfl (lv_room (Nat.le_of_ble_eq_true rfl)) dX9_load_91 ⟨Nat.le_of_ble_eq_true rfl, Nat.le_of_ble_eq_true rfl⟩) hP hD hS hA [3] [0, 1, 2, 4] [0, 1, 2, 4, 3] rfl rfl (by decide) (by decide) (fun _ => rfl) (by decide) (fun _ _ H locs hP hD hS => ?_)
  have hP : va_P D vwCl [(h0, .inr (7, [.ref h1, .int n, x2, .ref h4])), (h1, .inl (cA, 1000, .inl f)), (h4, .inr (5, [.ref h5, .ref h6, .int 1, .int (((fX9_word n f k) / 16) &&& 48), .int (fX9_word n f (k + 1))])), (h5, .inr (6, [.int rl, .int (fX9_word n f (k + 2)), .int ra, .int (fX9_has ((fX9_word n f k) / 16) 2), .int ry])), (h6, .inr (6, [.int kl, .int kf, .int ka, .int kx, .int ky]))] H := hP
  have hD : va_D A [(h0, .inr (7, [.ref h1, .int n, x2, .ref h4])), (h1, .inl (cA, 1000, .inl f)), (h4, .inr (5, [.ref h5, .ref h6, .int 1, .int (((fX9_word n f k) / 16) &&& 48), .int (fX9_word n f (k + 1))])), (h5, .inr (6, [.int rl, .int (fX9_word n f (k + 2)), .int ra, .int (fX9_has ((fX9_word n f k) / 16) 2), .int ry])), (h6, .inr (6, [.int kl, .int kf, .int ka, .int kx, .int ky]))] := hD
  refine lv_aload_n hx hb dX9_load_94 rfl (lv_at hl 3 rfl) ?_
  refine va_get (D := D) (ci := 7) (v := .ref h4) (C := RX9) (T := TX9) (N := 4) hx hb hts w_X9 hown hK hP 0 rfl rfl 3 (by decide) f_29 (fun _ h9 => h9) rfl dX9_load_95 ?_
  refine va_get (D := D) (ci := 5) (v := .ref h6) (C := RX7) (T := TX7) (N := 5) hx hb hts w_X7 hown hK hP 2 rfl rfl 1 (by decide) f_164 (fun _ h9 => h9) rfl dX9_load_98 ?_
  refine lv_aload_n hx hb dX9_load_101 rfl (lv_at hl 3 rfl) ?_
  refine lv_iload_n hx hb dX9_load_102 rfl (lv_at hl 4 rfl) ?_
  refine lv_iconst (v := 3) hx hb dX9_load_103 (by decide) ?_
  refine lv_iadd hx hb dX9_load_104 ?_
  have hPc := hP.sub (ws' := [(h0, .inr (7, [.ref h1, .int n, x2, .ref h4])), (h1, .inl (cA, 1000, .inl f))]) [0, 1] rfl
  have hDc := hD.sub (ws' := [(h0, .inr (7, [.ref h1, .int n, x2, .ref h4])), (h1, .inl (cA, 1000, .inl f))]) [0, 1] (by decide) rfl
  have hKc := hK.sub (tys' := [(cA, .int)]) [0] rfl
  refine rd_i (va_runV (As := [.int (k + 3)]) (rest := [.ref h6]) ⟨hx, hb, hml, hown, hts⟩ (kX9_word l D H.size h0 h1 cA x2 (.ref h4) n f (k + 3) ) (cwV 1 hts gX9_load_X9_word rfl rfl rfl (by decide +kernel) ⟨Nat.le_of_ble_eq_true rfl, Nat.le_of_ble_eq_true rfl⟩) ⟨Pw_blind, (va_recv hKc hPc (ci := 7) (q0 := 0) rfl rfl), fun U hU hW => Pw_at hKc hPc hDc hN hU hW⟩ rfl rfl hl.1 rfl (lv_room (Nat.le_of_ble_eq_true rfl)) dX9_load_105 ⟨Nat.le_of_ble_eq_true rfl, Nat.le_of_ble_eq_true rfl⟩) ?_
  refine lv_iload hx hb dX9_load_108 (lv_at hl 1 rfl) ?_
  refine lv_iconst (v := 1) hx hb dX9_load_110 (by decide) ?_
  have hPc := hP.sub (ws' := []) [] rfl
  have hDc := hD.sub (ws' := []) [] (by decide) rfl
  have hKc := hK.sub (tys' := []) [] rfl
  refine rd_i (va_runS (As := [.int ((fX9_word n f k) / 16), .int 1]) (rest := [.int (fX9_word n f (k + 3)), .ref h6]) ⟨hx, hb, hml, hown, hts⟩ (kX9_has l D H.size ((fX9_word n f k) / 16) 1 ) (va_cwS 2 hts gX9_load_X9_has rfl rfl rfl (by decide +kernel) ⟨Nat.le_of_ble_eq_true rfl, Nat.le_of_ble_eq_true rfl⟩) ⟨Pw_blind, fun U hU hW => Pw_at hKc hPc hDc hN hU hW⟩ rfl rfl hl.1 rfl (lv_room (Nat.le_of_ble_eq_true rfl)) dX9_load_111 ⟨Nat.le_of_ble_eq_true rfl, Nat.le_of_ble_eq_true rfl⟩) ?_
  have hPc := hP.sub (ws' := [(h6, .inr (6, [.int kl, .int kf, .int ka, .int kx, .int ky]))]) [4] rfl
  have hDc := hD.sub (ws' := [(h6, .inr (6, [.int kl, .int kf, .int ka, .int kx, .int ky]))]) [4] (by decide) rfl
  have hKc := hK.sub (tys' := []) [] rfl
  refine wk_v (β := Unit) (ok := fun _ => True) (wc := [(h6, .inr (6, [.int kl, .int kf, .int ka, .int kx, .int ky]))]) (wr := [(h0, .inr (7, [.ref h1, .int n, x2, .ref h4])), (h1, .inl (cA, 1000, .inl f)), (h4, .inr (5, [.ref h5, .ref h6, .int 1, .int (((fX9_word n f k) / 16) &&& 48), .int (fX9_word n f (k + 1))])), (h5, .inr (6, [.int rl, .int (fX9_word n f (k + 2)), .int ra, .int (fX9_has ((fX9_word n f k) / 16) 2), .int ry]))]) (w1 := fun _ => [(h6, .inr (6, [.int kl, .int (fX9_word n f (k + 3)), .int ka, .int (fX9_has ((fX9_word n f k) / 16) 1), .int ky]))]) (ws2 := fun _ => [(h0, .inr (7, [.ref h1, .int n, x2, .ref h4])), (h1, .inl (cA, 1000, .inl f)), (h4, .inr (5, [.ref h5, .ref h6, .int 1, .int (((fX9_word n f k) / 16) &&& 48), .int (fX9_word n f (k + 1))])), (h5, .inr (6, [.int rl, .int (fX9_word n f (k + 2)), .int ra, .int (fX9_has ((fX9_word n f k) / 16) 2), .int ry])), (h6, .inr (6, [.int kl, .int (fX9_word n f (k + 3)), .int ka, .int (fX9_has ((fX9_word n f k) / 16) 1), .int ky]))]) (va_runV (As := [.int (fX9_word n f (k + 3)), .int (fX9_has ((fX9_word n f k) / 16) 1)]) (rest := []) ⟨hx, hb, hml, hown, hts⟩ (kX8_setFirst l D H.size h6 kl kf ka kx ky (fX9_word n f (k + 3)) (fX9_has ((fX9_word n f k) / 16) 1) (zb_X9_has _ _)) (cwV 2 hts gX9_load_X8_setFirst rfl rfl rfl (by decide +kernel) ⟨Nat.le_of_ble_eq_true rfl, Nat.le_of_ble_eq_true rfl⟩) ⟨Pw_blind, (va_recv hKc hPc (ci := 6) (q0 := 0) rfl rfl), fun U hU hW => Pw_at hKc hPc hDc hN hU hW⟩ rfl rfl hl.1 rfl (lv_room (Nat.le_of_ble_eq_true rfl)) dX9_load_114 ⟨Nat.le_of_ble_eq_true rfl, Nat.le_of_ble_eq_true rfl⟩) hP hD hS hA [4] [0, 1, 2, 3] [0, 1, 2, 3, 4] rfl rfl (by decide) (by decide) (fun _ => rfl) (by decide) (fun _ _ H locs hP hD hS => ?_)
  have hP : va_P D vwCl [(h0, .inr (7, [.ref h1, .int n, x2, .ref h4])), (h1, .inl (cA, 1000, .inl f)), (h4, .inr (5, [.ref h5, .ref h6, .int 1, .int (((fX9_word n f k) / 16) &&& 48), .int (fX9_word n f (k + 1))])), (h5, .inr (6, [.int rl, .int (fX9_word n f (k + 2)), .int ra, .int (fX9_has ((fX9_word n f k) / 16) 2), .int ry])), (h6, .inr (6, [.int kl, .int (fX9_word n f (k + 3)), .int ka, .int (fX9_has ((fX9_word n f k) / 16) 1), .int ky]))] H := hP
  have hD : va_D A [(h0, .inr (7, [.ref h1, .int n, x2, .ref h4])), (h1, .inl (cA, 1000, .inl f)), (h4, .inr (5, [.ref h5, .ref h6, .int 1, .int (((fX9_word n f k) / 16) &&& 48), .int (fX9_word n f (k + 1))])), (h5, .inr (6, [.int rl, .int (fX9_word n f (k + 2)), .int ra, .int (fX9_has ((fX9_word n f k) / 16) 2), .int ry])), (h6, .inr (6, [.int kl, .int (fX9_word n f (k + 3)), .int ka, .int (fX9_has ((fX9_word n f k) / 16) 1), .int ky]))] := hD
  refine lv_aload_n hx hb dX9_load_117 rfl (lv_at hl 3 rfl) ?_
  refine va_get (D := D) (ci := 7) (v := .ref h4) (C := RX9) (T := TX9) (N := 4) hx hb hts w_X9 hown hK hP 0 rfl rfl 3 (by decide) f_29 (fun _ h9 => h9) rfl dX9_load_118 ?_
  refine va_get (D := D) (ci := 5) (v := .ref h5) (C := RX7) (T := TX7) (N := 5) hx hb hts w_X7 hown hK hP 2 rfl rfl 0 (by decide) f_154 (fun _ h9 => h9) rfl dX9_load_121 ?_
  refine lv_aload_n hx hb dX9_load_124 rfl (lv_at hl 3 rfl) ?_
  refine lv_iload_n hx hb dX9_load_125 rfl (lv_at hl 4 rfl) ?_
  refine lv_iload_n hx hb dX9_load_126 rfl (lv_at hl 5 rfl) ?_
  refine lv_iadd hx hb dX9_load_127 ?_
  refine lv_iconst (v := 2) hx hb dX9_load_128 (by decide) ?_
  refine lv_isub hx hb dX9_load_129 ?_
  have hPc := hP.sub (ws' := [(h0, .inr (7, [.ref h1, .int n, x2, .ref h4])), (h1, .inl (cA, 1000, .inl f))]) [0, 1] rfl
  have hDc := hD.sub (ws' := [(h0, .inr (7, [.ref h1, .int n, x2, .ref h4])), (h1, .inl (cA, 1000, .inl f))]) [0, 1] (by decide) rfl
  have hKc := hK.sub (tys' := [(cA, .int)]) [0] rfl
  refine rd_i (va_runV (As := [.int ((k + 6) - 2)]) (rest := [.ref h5]) ⟨hx, hb, hml, hown, hts⟩ (kX9_word l D H.size h0 h1 cA x2 (.ref h4) n f ((k + 6) - 2) ) (cwV 1 hts gX9_load_X9_word rfl rfl rfl (by decide +kernel) ⟨Nat.le_of_ble_eq_true rfl, Nat.le_of_ble_eq_true rfl⟩) ⟨Pw_blind, (va_recv hKc hPc (ci := 7) (q0 := 0) rfl rfl), fun U hU hW => Pw_at hKc hPc hDc hN hU hW⟩ rfl rfl hl.1 rfl (lv_room (Nat.le_of_ble_eq_true rfl)) dX9_load_130 ⟨Nat.le_of_ble_eq_true rfl, Nat.le_of_ble_eq_true rfl⟩) ?_
  refine lv_iload hx hb dX9_load_133 (lv_at hl 0 rfl) ?_
  refine lv_iconst (v := 2) hx hb dX9_load_135 (by decide) ?_
  have hPc := hP.sub (ws' := []) [] rfl
  have hDc := hD.sub (ws' := []) [] (by decide) rfl
  have hKc := hK.sub (tys' := []) [] rfl
  refine rd_i (va_runS (As := [.int (((fX9_word n f k) / 16) / 4), .int 2]) (rest := [.int (fX9_word n f ((k + 6) - 2)), .ref h5]) ⟨hx, hb, hml, hown, hts⟩ (kX9_has l D H.size (((fX9_word n f k) / 16) / 4) 2 ) (va_cwS 2 hts gX9_load_X9_has rfl rfl rfl (by decide +kernel) ⟨Nat.le_of_ble_eq_true rfl, Nat.le_of_ble_eq_true rfl⟩) ⟨Pw_blind, fun U hU hW => Pw_at hKc hPc hDc hN hU hW⟩ rfl rfl hl.1 rfl (lv_room (Nat.le_of_ble_eq_true rfl)) dX9_load_136 ⟨Nat.le_of_ble_eq_true rfl, Nat.le_of_ble_eq_true rfl⟩) ?_
  have hPc := hP.sub (ws' := [(h5, .inr (6, [.int rl, .int (fX9_word n f (k + 2)), .int ra, .int (fX9_has ((fX9_word n f k) / 16) 2), .int ry]))]) [3] rfl
  have hDc := hD.sub (ws' := [(h5, .inr (6, [.int rl, .int (fX9_word n f (k + 2)), .int ra, .int (fX9_has ((fX9_word n f k) / 16) 2), .int ry]))]) [3] (by decide) rfl
  have hKc := hK.sub (tys' := []) [] rfl
  refine wk_v (β := Unit) (ok := fun _ => True) (wc := [(h5, .inr (6, [.int rl, .int (fX9_word n f (k + 2)), .int ra, .int (fX9_has ((fX9_word n f k) / 16) 2), .int ry]))]) (wr := [(h0, .inr (7, [.ref h1, .int n, x2, .ref h4])), (h1, .inl (cA, 1000, .inl f)), (h4, .inr (5, [.ref h5, .ref h6, .int 1, .int (((fX9_word n f k) / 16) &&& 48), .int (fX9_word n f (k + 1))])), (h6, .inr (6, [.int kl, .int (fX9_word n f (k + 3)), .int ka, .int (fX9_has ((fX9_word n f k) / 16) 1), .int ky]))]) (w1 := fun _ => [(h5, .inr (6, [.int rl, .int (fX9_word n f (k + 2)), .int (fX9_word n f ((k + 6) - 2)), .int (fX9_has ((fX9_word n f k) / 16) 2), .int (fX9_has (((fX9_word n f k) / 16) / 4) 2)]))]) (ws2 := fun _ => [(h0, .inr (7, [.ref h1, .int n, x2, .ref h4])), (h1, .inl (cA, 1000, .inl f)), (h4, .inr (5, [.ref h5, .ref h6, .int 1, .int (((fX9_word n f k) / 16) &&& 48), .int (fX9_word n f (k + 1))])), (h5, .inr (6, [.int rl, .int (fX9_word n f (k + 2)), .int (fX9_word n f ((k + 6) - 2)), .int (fX9_has ((fX9_word n f k) / 16) 2), .int (fX9_has (((fX9_word n f k) / 16) / 4) 2)])), (h6, .inr (6, [.int kl, .int (fX9_word n f (k + 3)), .int ka, .int (fX9_has ((fX9_word n f k) / 16) 1), .int ky]))]) (va_runV (As := [.int (fX9_word n f ((k + 6) - 2)), .int (fX9_has (((fX9_word n f k) / 16) / 4) 2)]) (rest := []) ⟨hx, hb, hml, hown, hts⟩ (kX8_setLast l D H.size h5 rl (fX9_word n f (k + 2)) ra (fX9_has ((fX9_word n f k) / 16) 2) ry (fX9_word n f ((k + 6) - 2)) (fX9_has (((fX9_word n f k) / 16) / 4) 2) (zb_X9_has _ _)) (cwV 2 hts gX9_load_X8_setLast rfl rfl rfl (by decide +kernel) ⟨Nat.le_of_ble_eq_true rfl, Nat.le_of_ble_eq_true rfl⟩) ⟨Pw_blind, (va_recv hKc hPc (ci := 6) (q0 := 0) rfl rfl), fun U hU hW => Pw_at hKc hPc hDc hN hU hW⟩ rfl rfl hl.1 rfl (lv_room (Nat.le_of_ble_eq_true rfl)) dX9_load_139 ⟨Nat.le_of_ble_eq_true rfl, Nat.le_of_ble_eq_true rfl⟩) hP hD hS hA [3] [0, 1, 2, 4] [0, 1, 2, 4, 3] rfl rfl (by decide) (by decide) (fun _ => rfl) (by decide) (fun _ _ H locs hP hD hS => ?_)
  have hP : va_P D vwCl [(h0, .inr (7, [.ref h1, .int n, x2, .ref h4])), (h1, .inl (cA, 1000, .inl f)), (h4, .inr (5, [.ref h5, .ref h6, .int 1, .int (((fX9_word n f k) / 16) &&& 48), .int (fX9_word n f (k + 1))])), (h5, .inr (6, [.int rl, .int (fX9_word n f (k + 2)), .int (fX9_word n f ((k + 6) - 2)), .int (fX9_has ((fX9_word n f k) / 16) 2), .int (fX9_has (((fX9_word n f k) / 16) / 4) 2)])), (h6, .inr (6, [.int kl, .int (fX9_word n f (k + 3)), .int ka, .int (fX9_has ((fX9_word n f k) / 16) 1), .int ky]))] H := hP
  have hD : va_D A [(h0, .inr (7, [.ref h1, .int n, x2, .ref h4])), (h1, .inl (cA, 1000, .inl f)), (h4, .inr (5, [.ref h5, .ref h6, .int 1, .int (((fX9_word n f k) / 16) &&& 48), .int (fX9_word n f (k + 1))])), (h5, .inr (6, [.int rl, .int (fX9_word n f (k + 2)), .int (fX9_word n f ((k + 6) - 2)), .int (fX9_has ((fX9_word n f k) / 16) 2), .int (fX9_has (((fX9_word n f k) / 16) / 4) 2)])), (h6, .inr (6, [.int kl, .int (fX9_word n f (k + 3)), .int ka, .int (fX9_has ((fX9_word n f k) / 16) 1), .int ky]))] := hD
  refine lv_aload_n hx hb dX9_load_142 rfl (lv_at hl 3 rfl) ?_
  refine va_get (D := D) (ci := 7) (v := .ref h4) (C := RX9) (T := TX9) (N := 4) hx hb hts w_X9 hown hK hP 0 rfl rfl 3 (by decide) f_29 (fun _ h9 => h9) rfl dX9_load_143 ?_
  refine va_get (D := D) (ci := 5) (v := .ref h6) (C := RX7) (T := TX7) (N := 5) hx hb hts w_X7 hown hK hP 2 rfl rfl 1 (by decide) f_164 (fun _ h9 => h9) rfl dX9_load_146 ?_
  refine lv_aload_n hx hb dX9_load_149 rfl (lv_at hl 3 rfl) ?_
  refine lv_iload_n hx hb dX9_load_150 rfl (lv_at hl 4 rfl) ?_
  refine lv_iload_n hx hb dX9_load_151 rfl (lv_at hl 5 rfl) ?_
  refine lv_iadd hx hb dX9_load_152 ?_
  refine lv_iconst (v := 1) hx hb dX9_load_153 (by decide) ?_
  refine lv_isub hx hb dX9_load_154 ?_
  have hPc := hP.sub (ws' := [(h0, .inr (7, [.ref h1, .int n, x2, .ref h4])), (h1, .inl (cA, 1000, .inl f))]) [0, 1] rfl
  have hDc := hD.sub (ws' := [(h0, .inr (7, [.ref h1, .int n, x2, .ref h4])), (h1, .inl (cA, 1000, .inl f))]) [0, 1] (by decide) rfl
  have hKc := hK.sub (tys' := [(cA, .int)]) [0] rfl
  refine rd_i (va_runV (As := [.int ((k + 6) - 1)]) (rest := [.ref h6]) ⟨hx, hb, hml, hown, hts⟩ (kX9_word l D H.size h0 h1 cA x2 (.ref h4) n f ((k + 6) - 1) ) (cwV 1 hts gX9_load_X9_word rfl rfl rfl (by decide +kernel) ⟨Nat.le_of_ble_eq_true rfl, Nat.le_of_ble_eq_true rfl⟩) ⟨Pw_blind, (va_recv hKc hPc (ci := 7) (q0 := 0) rfl rfl), fun U hU hW => Pw_at hKc hPc hDc hN hU hW⟩ rfl rfl hl.1 rfl (lv_room (Nat.le_of_ble_eq_true rfl)) dX9_load_155 ⟨Nat.le_of_ble_eq_true rfl, Nat.le_of_ble_eq_true rfl⟩) ?_
  refine lv_iload hx hb dX9_load_158 (lv_at hl 0 rfl) ?_
  refine lv_iconst (v := 1) hx hb dX9_load_160 (by decide) ?_
  have hPc := hP.sub (ws' := []) [] rfl
  have hDc := hD.sub (ws' := []) [] (by decide) rfl
  have hKc := hK.sub (tys' := []) [] rfl
  refine rd_i (va_runS (As := [.int (((fX9_word n f k) / 16) / 4), .int 1]) (rest := [.int (fX9_word n f ((k + 6) - 1)), .ref h6]) ⟨hx, hb, hml, hown, hts⟩ (kX9_has l D H.size (((fX9_word n f k) / 16) / 4) 1 ) (va_cwS 2 hts gX9_load_X9_has rfl rfl rfl (by decide +kernel) ⟨Nat.le_of_ble_eq_true rfl, Nat.le_of_ble_eq_true rfl⟩) ⟨Pw_blind, fun U hU hW => Pw_at hKc hPc hDc hN hU hW⟩ rfl rfl hl.1 rfl (lv_room (Nat.le_of_ble_eq_true rfl)) dX9_load_161 ⟨Nat.le_of_ble_eq_true rfl, Nat.le_of_ble_eq_true rfl⟩) ?_
  have hPc := hP.sub (ws' := [(h6, .inr (6, [.int kl, .int (fX9_word n f (k + 3)), .int ka, .int (fX9_has ((fX9_word n f k) / 16) 1), .int ky]))]) [4] rfl
  have hDc := hD.sub (ws' := [(h6, .inr (6, [.int kl, .int (fX9_word n f (k + 3)), .int ka, .int (fX9_has ((fX9_word n f k) / 16) 1), .int ky]))]) [4] (by decide) rfl
  have hKc := hK.sub (tys' := []) [] rfl
  refine wk_v (β := Unit) (ok := fun _ => True) (wc := [(h6, .inr (6, [.int kl, .int (fX9_word n f (k + 3)), .int ka, .int (fX9_has ((fX9_word n f k) / 16) 1), .int ky]))]) (wr := [(h0, .inr (7, [.ref h1, .int n, x2, .ref h4])), (h1, .inl (cA, 1000, .inl f)), (h4, .inr (5, [.ref h5, .ref h6, .int 1, .int (((fX9_word n f k) / 16) &&& 48), .int (fX9_word n f (k + 1))])), (h5, .inr (6, [.int rl, .int (fX9_word n f (k + 2)), .int (fX9_word n f ((k + 6) - 2)), .int (fX9_has ((fX9_word n f k) / 16) 2), .int (fX9_has (((fX9_word n f k) / 16) / 4) 2)]))]) (w1 := fun _ => [(h6, .inr (6, [.int kl, .int (fX9_word n f (k + 3)), .int (fX9_word n f ((k + 6) - 1)), .int (fX9_has ((fX9_word n f k) / 16) 1), .int (fX9_has (((fX9_word n f k) / 16) / 4) 1)]))]) (ws2 := fun _ => [(h0, .inr (7, [.ref h1, .int n, x2, .ref h4])), (h1, .inl (cA, 1000, .inl f)), (h4, .inr (5, [.ref h5, .ref h6, .int 1, .int (((fX9_word n f k) / 16) &&& 48), .int (fX9_word n f (k + 1))])), (h5, .inr (6, [.int rl, .int (fX9_word n f (k + 2)), .int (fX9_word n f ((k + 6) - 2)), .int (fX9_has ((fX9_word n f k) / 16) 2), .int (fX9_has (((fX9_word n f k) / 16) / 4) 2)])), (h6, .inr (6, [.int kl, .int (fX9_word n f (k + 3)), .int (fX9_word n f ((k + 6) - 1)), .int (fX9_has ((fX9_word n f k) / 16) 1), .int (fX9_has (((fX9_word n f k) / 16) / 4) 1)]))]) (va_runV (As := [.int (fX9_word n f ((k + 6) - 1)), .int (fX9_has (((fX9_word n f k) / 16) / 4) 1)]) (rest := []) ⟨hx, hb, hml, hown, hts⟩ (kX8_setLast l D H.size h6 kl (fX9_word n f (k + 3)) ka (fX9_has ((fX9_word n f k) / 16) 1) ky (fX9_word n f ((k + 6) - 1)) (fX9_has (((fX9_word n f k) / 16) / 4) 1) (zb_X9_has _ _)) (cwV 2 hts gX9_load_X8_setLast rfl rfl rfl (by decide +kernel) ⟨Nat.le_of_ble_eq_true rfl, Nat.le_of_ble_eq_true rfl⟩) ⟨Pw_blind, (va_recv hKc hPc (ci := 6) (q0 := 0) rfl rfl), fun U hU hW => Pw_at hKc hPc hDc hN hU hW⟩ rfl rfl hl.1 rfl (lv_room (Nat.le_of_ble_eq_true rfl)) dX9_load_164 ⟨Nat.le_of_ble_eq_true rfl, Nat.le_of_ble_eq_true rfl⟩) hP hD hS hA [4] [0, 1, 2, 3] [0, 1, 2, 3, 4] rfl rfl (by decide) (by decide) (fun _ => rfl) (by decide) (fun _ _ H locs hP hD hS => ?_)
  have hP : va_P D vwCl [(h0, .inr (7, [.ref h1, .int n, x2, .ref h4])), (h1, .inl (cA, 1000, .inl f)), (h4, .inr (5, [.ref h5, .ref h6, .int 1, .int (((fX9_word n f k) / 16) &&& 48), .int (fX9_word n f (k + 1))])), (h5, .inr (6, [.int rl, .int (fX9_word n f (k + 2)), .int (fX9_word n f ((k + 6) - 2)), .int (fX9_has ((fX9_word n f k) / 16) 2), .int (fX9_has (((fX9_word n f k) / 16) / 4) 2)])), (h6, .inr (6, [.int kl, .int (fX9_word n f (k + 3)), .int (fX9_word n f ((k + 6) - 1)), .int (fX9_has ((fX9_word n f k) / 16) 1), .int (fX9_has (((fX9_word n f k) / 16) / 4) 1)]))] H := hP
  have hD : va_D A [(h0, .inr (7, [.ref h1, .int n, x2, .ref h4])), (h1, .inl (cA, 1000, .inl f)), (h4, .inr (5, [.ref h5, .ref h6, .int 1, .int (((fX9_word n f k) / 16) &&& 48), .int (fX9_word n f (k + 1))])), (h5, .inr (6, [.int rl, .int (fX9_word n f (k + 2)), .int (fX9_word n f ((k + 6) - 2)), .int (fX9_has ((fX9_word n f k) / 16) 2), .int (fX9_has (((fX9_word n f k) / 16) / 4) 2)])), (h6, .inr (6, [.int kl, .int (fX9_word n f (k + 3)), .int (fX9_word n f ((k + 6) - 1)), .int (fX9_has ((fX9_word n f k) / 16) 1), .int (fX9_has (((fX9_word n f k) / 16) / 4) 1)]))] := hD
  subst hAe
  subst hQe
  exact W.vret hx hb hr (fun t ht hW => ⟨⟨_, rfl, ⟨(), trivial, rfl⟩, by rw [ht]; exact hP, hD⟩, hS.F ht⟩) hS.2.2 dX9_load_167

def fX9_store_6 (n : Int32) (f : Nat → Int32) (isr : Int32) (wh : Int32) (sh : Int32) (rf : Int32) (ra : Int32) (rx : Int32) (ry : Int32) (kf : Int32) (ka : Int32) (kx : Int32) (ky : Int32) (k : Int32) (w : Int32) : Int32 × (Nat → Int32) := let v_1 : Int32 := (if (fX7_wordAt_0 isr wh rx ry kx ky) = (fX9_word n f (k + 0)) then 0 else 1); let v_2 : Int32 := (if sh = (fX9_word n (fX9_put f (w + 0) (fX7_wordAt_0 isr wh rx ry kx ky)) (k + 1)) then v_1 else 1); let v_3 : Int32 := (if rf = (fX9_word n (fX9_put (fX9_put f (w + 0) (fX7_wordAt_0 isr wh rx ry kx ky)) (w + 1) sh) (k + 2)) then v_2 else 1); let v_4 : Int32 := (if kf = (fX9_word n (fX9_put (fX9_put (fX9_put f (w + 0) (fX7_wordAt_0 isr wh rx ry kx ky)) (w + 1) sh) (w + 2) rf) (k + 3)) then v_3 else 1); let v_5 : Int32 := (if ra = (fX9_word n (fX9_put (fX9_put (fX9_put (fX9_put f (w + 0) (fX7_wordAt_0 isr wh rx ry kx ky)) (w + 1) sh) (w + 2) rf) (w + 3) kf) (k + 4)) then v_4 else 1); let v_6 : Int32 := (if ka = (fX9_word n (fX9_put (fX9_put (fX9_put (fX9_put (fX9_put f (w + 0) (fX7_wordAt_0 isr wh rx ry kx ky)) (w + 1) sh) (w + 2) rf) (w + 3) kf) (w + 4) ra) (k + 5)) then v_5 else 1); (v_6, (fX9_put (fX9_put (fX9_put (fX9_put (fX9_put (fX9_put f (w + 0) (fX7_wordAt_0 isr wh rx ry kx ky)) (w + 1) sh) (w + 2) rf) (w + 3) kf) (w + 4) ra) (w + 5) ka))
theorem zb_X9_store_6 (n : Int32) (f : Nat → Int32) (isr : Int32) (wh : Int32) (sh : Int32) (rf : Int32) (ra : Int32) (rx : Int32) (ry : Int32) (kf : Int32) (ka : Int32) (kx : Int32) (ky : Int32) (k : Int32) (w : Int32) : isB (fX9_store_6 n f isr wh sh rf ra rx ry kf ka kx ky k w).1 := by
  unfold fX9_store_6
  (try dsimp only)
  repeat' split
  all_goals first | exact Or.inl rfl | exact Or.inr rfl
abbrev rmX9_store_6 : Room := { frames := 4, cells := 0, slots := 0, locals := 83 }
abbrev qX9_store_6 (D : va_G) (sz : Nat) (h0 : Nat) (h1 : Nat) (h4 : Nat) (h5 : Nat) (h6 : Nat) (cA : ClassId) (x2 : Value) (n : Int32) (f : Nat → Int32) (isr : Int32) (wh : Int32) (sh : Int32) (rl : Int32) (rf : Int32) (ra : Int32) (rx : Int32) (ry : Int32) (kl : Int32) (kf : Int32) (ka : Int32) (kx : Int32) (ky : Int32) (k : Int32) (w : Int32) : Array Value → State → Outcome → State → Prop := va_Qi (fun r_9 w_9 => ∃ _u : Unit, True ∧ r_9 = (fX9_store_6 n f isr wh sh rf ra rx ry kf ka kx ky k w).1 ∧ w_9 = [(h0, .inr (7, [.ref h1, .int n, x2, .ref h4])), (h1, .inl (cA, 1000, .inl (fX9_store_6 n f isr wh sh rf ra rx ry kf ka kx ky k w).2)), (h4, .inr (5, [.ref h5, .ref h6, .int isr, .int wh, .int sh])), (h5, .inr (6, [.int rl, .int rf, .int ra, .int rx, .int ry])), (h6, .inr (6, [.int kl, .int kf, .int ka, .int kx, .int ky]))]) (Bq D (va_A [(h0, .inr (7, [.ref h1, .int n, x2, .ref h4])), (h1, .inl (cA, 1000, .inl f)), (h4, .inr (5, [.ref h5, .ref h6, .int isr, .int wh, .int sh])), (h5, .inr (6, [.int rl, .int rf, .int ra, .int rx, .int ry])), (h6, .inr (6, [.int kl, .int kf, .int ka, .int kx, .int ky]))] sz)) (va_A [(h0, .inr (7, [.ref h1, .int n, x2, .ref h4])), (h1, .inl (cA, 1000, .inl f)), (h4, .inr (5, [.ref h5, .ref h6, .int isr, .int wh, .int sh])), (h5, .inr (6, [.int rl, .int rf, .int ra, .int rx, .int ry])), (h6, .inr (6, [.int kl, .int kf, .int ka, .int kx, .int ky]))] sz)
set_option maxHeartbeats 4000000 in
set_option maxRecDepth 100000 in
theorem kX9_store_6 (l : Launch) (D : va_G) (sz : Nat) (h0 : Nat) (h1 : Nat) (h4 : Nat) (h5 : Nat) (h6 : Nat) (cA : ClassId) (x2 : Value) (n : Int32) (f : Nat → Int32) (isr : Int32) (wh : Int32) (sh : Int32) (rl : Int32) (rf : Int32) (ra : Int32) (rx : Int32) (ry : Int32) (kl : Int32) (kf : Int32) (ka : Int32) (kx : Int32) (ky : Int32) (k : Int32) (w : Int32) : Met l yX9_store wsX9_store rmX9_store_6 (va_Pc [.ref h0, .int k, .int w, .int 6] (Pw D [(cA, .int)] [(h0, .inr (7, [.ref h1, .int n, x2, .ref h4])), (h1, .inl (cA, 1000, .inl f)), (h4, .inr (5, [.ref h5, .ref h6, .int isr, .int wh, .int sh])), (h5, .inr (6, [.int rl, .int rf, .int ra, .int rx, .int ry])), (h6, .inr (6, [.int kl, .int kf, .int ka, .int kx, .int ky]))] sz)) (qX9_store_6 D sz h0 h1 h4 h5 h6 cA x2 n f isr wh sh rl rf ra rx ry kl kf ka kx ky k w) 0 0 (va_A [(h0, .inr (7, [.ref h1, .int n, x2, .ref h4])), (h1, .inl (cA, 1000, .inl f)), (h4, .inr (5, [.ref h5, .ref h6, .int isr, .int wh, .int sh])), (h5, .inr (6, [.int rl, .int rf, .int ra, .int rx, .int ry])), (h6, .inr (6, [.int kl, .int kf, .int ka, .int kx, .int ky]))] sz) := by
  refine Met.ofW (cc := cX9_store) (maxL := 7) (ret := (some .boolean)) (by decide) rfl ?_
  intro p e s m args below meth c s₁ B hml hv
  obtain ⟨rfl, hsz, hP, hK, hD0, hN⟩ := hv
  have hx := B.exec
  have hb := B.bytes
  have hr := B.returns
  have hts := atoms_spec (ws := wsX9_store) B.pre
  have hown : s.vm.findClass RX9 = some m.cls := findClass_of_methodNamed B.named
  have hlocks := B.notSynchronized
  subst hsz
  obtain ⟨Q, hQe⟩ : ∃ Q, Q = MQ below (qX9_store_6 D s.heap.size h0 h1 h4 h5 h6 cA x2 n f isr wh sh rl rf ra rx ry kl kf ka kx ky k w) ([.ref h0, .int k, .int w, .int 6] : List Value).toArray s 0 0 (va_A [(h0, .inr (7, [.ref h1, .int n, x2, .ref h4])), (h1, .inl (cA, 1000, .inl f)), (h4, .inr (5, [.ref h5, .ref h6, .int isr, .int wh, .int sh])), (h5, .inr (6, [.int rl, .int rf, .int ra, .int rx, .int ry])), (h6, .inr (6, [.int kl, .int kf, .int ka, .int kx, .int ky]))] s.heap.size) := ⟨_, rfl⟩
  rw [← hQe]
  obtain ⟨A, hAe⟩ : ∃ A, A = va_A [(h0, .inr (7, [.ref h1, .int n, x2, .ref h4])), (h1, .inl (cA, 1000, .inl f)), (h4, .inr (5, [.ref h5, .ref h6, .int isr, .int wh, .int sh])), (h5, .inr (6, [.int rl, .int rf, .int ra, .int rx, .int ry])), (h6, .inr (6, [.int kl, .int kf, .int ka, .int kx, .int ky]))] s.heap.size := ⟨_, rfl⟩
  have hD : va_D A [(h0, .inr (7, [.ref h1, .int n, x2, .ref h4])), (h1, .inl (cA, 1000, .inl f)), (h4, .inr (5, [.ref h5, .ref h6, .int isr, .int wh, .int sh])), (h5, .inr (6, [.int rl, .int rf, .int ra, .int rx, .int ry])), (h6, .inr (6, [.int kl, .int kf, .int ka, .int kx, .int ky]))] := by rw [hAe]; exact hD0.self
  have hA : ∀ q : Nat, s.heap.size ≤ q → A q := by rw [hAe]; exact mo_A
  have hS : va_S A s.heap s.heap [] := va_S.rf
  obtain ⟨H, hHe⟩ : ∃ H, H = s.heap := ⟨_, rfl⟩
  obtain ⟨locs, hLe⟩ : ∃ L : List Loc, L = [] := ⟨_, rfl⟩
  have hP : va_P D vwCl [(h0, .inr (7, [.ref h1, .int n, x2, .ref h4])), (h1, .inl (cA, 1000, .inl f)), (h4, .inr (5, [.ref h5, .ref h6, .int isr, .int wh, .int sh])), (h5, .inr (6, [.int rl, .int rf, .int ra, .int rx, .int ry])), (h6, .inr (6, [.int kl, .int kf, .int ka, .int kx, .int ky]))] H := by rw [hHe]; exact hP
  have hS : va_S A s.heap H locs := by rw [hHe, hLe]; exact hS
  have hl := lv_entry ([.ref h0, .int k, .int w, .int 6]) (n := 7) (Nat.le_of_ble_eq_true rfl)
  rw [lg_entry_eq]
  generalize (lg_sl ([.ref h0, .int k, .int w, .int 6]) ++ List.replicate (7 - (lg_sl ([.ref h0, .int k, .int w, .int 6])).length) Slot.unset).toArray = ls at hl ⊢
  have hl : lv_has ls 7 [(0, .ref h0), (1, .int k), (2, .int w), (3, .int 6)] := hl
  refine hStart hHe hLe ?_
  clear hHe hLe
  have w_X9 : ∀ w ∈ wsX90, w ∈ wsX9_store := by decide +kernel
  have f_29 := hts (.fieldLink RX9 29 "ReferenceMover" "reference" "LReferenceMover$Reference;") (by decide +kernel)
  refine lv_iconst (v := 0) hx hb dX9_store_0 (by decide) ?_
  refine lv_istore (lv' := [(4, .int 0), (0, .ref h0), (1, .int k), (2, .int w), (3, .int 6)]) hx hb dX9_store_1 hl (by decide) rfl (fun ls hl => ?_)
  refine lv_iconst (v := 0) hx hb dX9_store_3 (by decide) ?_
  refine lv_istore (lv' := [(5, .int 0), (4, .int 0), (0, .ref h0), (1, .int k), (2, .int w), (3, .int 6)]) hx hb dX9_store_4 hl (by decide) rfl (fun ls hl => ?_)
  refine lv_iload hx hb dX9_store_6 (lv_at hl 0 rfl) ?_
  refine lv_iload_n hx hb dX9_store_8 rfl (lv_at hl 5 rfl) ?_
  refine lv_icmp_ge (tgt := 55) hx hb dX9_store_9 (by decide) (fun h => absurd h (by decide)) (fun _ => ?_)
  refine lv_aload_n hx hb dX9_store_12 rfl (lv_at hl 2 rfl) ?_
  refine va_get (D := D) (ci := 7) (v := .ref h4) (C := RX9) (T := TX9) (N := 4) hx hb hts w_X9 hown hK hP 0 rfl rfl 3 (by decide) f_29 (fun _ h9 => h9) rfl dX9_store_13 ?_
  refine lv_iload hx hb dX9_store_16 (lv_at hl 0 rfl) ?_
  have hPc := hP.sub (ws' := [(h4, .inr (5, [.ref h5, .ref h6, .int isr, .int wh, .int sh])), (h5, .inr (6, [.int rl, .int rf, .int ra, .int rx, .int ry])), (h6, .inr (6, [.int kl, .int kf, .int ka, .int kx, .int ky]))]) [2, 3, 4] rfl
  have hDc := hD.sub (ws' := [(h4, .inr (5, [.ref h5, .ref h6, .int isr, .int wh, .int sh])), (h5, .inr (6, [.int rl, .int rf, .int ra, .int rx, .int ry])), (h6, .inr (6, [.int kl, .int kf, .int ka, .int kx, .int ky]))]) [2, 3, 4] (by decide) rfl
  have hKc := hK.sub (tys' := []) [] rfl
  refine rd_i (va_runV (As := [.int 0]) (rest := []) ⟨hx, hb, hml, hown, hts⟩ (kX7_wordAt_0 l D H.size h4 h5 h6 isr wh sh rl rf ra rx ry kl kf ka kx ky ) (cwV 1 hts gX9_store_X7_wordAt rfl rfl rfl (by decide +kernel) ⟨Nat.le_of_ble_eq_true rfl, Nat.le_of_ble_eq_true rfl⟩) ⟨Pw_blind, (va_recv hKc hPc (ci := 5) (q0 := 0) rfl rfl), fun U hU hW => Pw_at hKc hPc hDc hN hU hW⟩ rfl rfl hl.1 rfl (lv_room (Nat.le_of_ble_eq_true rfl)) dX9_store_18 ⟨Nat.le_of_ble_eq_true rfl, Nat.le_of_ble_eq_true rfl⟩) ?_
  refine lv_istore (lv' := [(6, .int (fX7_wordAt_0 isr wh rx ry kx ky)), (5, .int 0), (4, .int 0), (0, .ref h0), (1, .int k), (2, .int w), (3, .int 6)]) hx hb dX9_store_21 hl (by decide) rfl (fun ls hl => ?_)
  refine lv_iload hx hb dX9_store_23 (lv_at hl 0 rfl) ?_
  refine lv_aload_n hx hb dX9_store_25 rfl (lv_at hl 3 rfl) ?_
  refine lv_iload_n hx hb dX9_store_26 rfl (lv_at hl 4 rfl) ?_
  refine lv_iload hx hb dX9_store_27 (lv_at hl 1 rfl) ?_
  refine lv_iadd hx hb dX9_store_29 ?_
  have hPc := hP.sub (ws' := [(h0, .inr (7, [.ref h1, .int n, x2, .ref h4])), (h1, .inl (cA, 1000, .inl f))]) [0, 1] rfl
  have hDc := hD.sub (ws' := [(h0, .inr (7, [.ref h1, .int n, x2, .ref h4])), (h1, .inl (cA, 1000, .inl f))]) [0, 1] (by decide) rfl
  have hKc := hK.sub (tys' := [(cA, .int)]) [0] rfl
  refine rd_i (va_runV (As := [.int (k + 0)]) (rest := [.int (fX7_wordAt_0 isr wh rx ry kx ky)]) ⟨hx, hb, hml, hown, hts⟩ (kX9_word l D H.size h0 h1 cA x2 (.ref h4) n f (k + 0) ) (cwV 1 hts gX9_store_X9_word rfl rfl rfl (by decide +kernel) ⟨Nat.le_of_ble_eq_true rfl, Nat.le_of_ble_eq_true rfl⟩) ⟨Pw_blind, (va_recv hKc hPc (ci := 7) (q0 := 0) rfl rfl), fun U hU hW => Pw_at hKc hPc hDc hN hU hW⟩ rfl rfl hl.1 rfl (lv_room (Nat.le_of_ble_eq_true rfl)) dX9_store_30 ⟨Nat.le_of_ble_eq_true rfl, Nat.le_of_ble_eq_true rfl⟩) ?_
  have K39_1 : ∀ (v_1 : Int32), v_1 = (if (fX7_wordAt_0 isr wh rx ry kx ky) = (fX9_word n f (k + 0)) then 0 else 1) → ∀ ls : Array Slot, lv_has ls 7 [(0, .ref h0), (1, .int k), (2, .int w), (3, .int 6), (4, .int v_1), (5, .int 0), (6, .int (fX7_wordAt_0 isr wh rx ry kx ky))] → W p l e (headSpec wsX9_store rmX9_store_6).room s m ([.ref h0, .int k, .int w, .int 6] : List Value).toArray below meth c H locs 0 0 Q (F0 m 39 ls []) := by
    intro v_1 ev_1 ls hl
    refine lv_aload_n hx hb dX9_store_39 rfl (lv_at hl 0 rfl) ?_
    refine lv_iload_n hx hb dX9_store_40 rfl (lv_at hl 2 rfl) ?_
    refine lv_iload hx hb dX9_store_41 (lv_at hl 5 rfl) ?_
    refine lv_iadd hx hb dX9_store_43 ?_
    refine lv_iload hx hb dX9_store_44 (lv_at hl 6 rfl) ?_
    have hPc := hP.sub (ws' := [(h0, .inr (7, [.ref h1, .int n, x2, .ref h4])), (h1, .inl (cA, 1000, .inl f))]) [0, 1] rfl
    have hDc := hD.sub (ws' := [(h0, .inr (7, [.ref h1, .int n, x2, .ref h4])), (h1, .inl (cA, 1000, .inl f))]) [0, 1] (by decide) rfl
    have hKc := hK.sub (tys' := [(cA, .int)]) [0] rfl
    refine wk_v (β := Unit) (ok := fun _ => True) (wc := [(h0, .inr (7, [.ref h1, .int n, x2, .ref h4])), (h1, .inl (cA, 1000, .inl f))]) (wr := [(h4, .inr (5, [.ref h5, .ref h6, .int isr, .int wh, .int sh])), (h5, .inr (6, [.int rl, .int rf, .int ra, .int rx, .int ry])), (h6, .inr (6, [.int kl, .int kf, .int ka, .int kx, .int ky]))]) (w1 := fun _ => [(h0, .inr (7, [.ref h1, .int n, x2, .ref h4])), (h1, .inl (cA, 1000, .inl (fX9_put f (w + 0) (fX7_wordAt_0 isr wh rx ry kx ky))))]) (ws2 := fun _ => [(h0, .inr (7, [.ref h1, .int n, x2, .ref h4])), (h1, .inl (cA, 1000, .inl (fX9_put f (w + 0) (fX7_wordAt_0 isr wh rx ry kx ky)))), (h4, .inr (5, [.ref h5, .ref h6, .int isr, .int wh, .int sh])), (h5, .inr (6, [.int rl, .int rf, .int ra, .int rx, .int ry])), (h6, .inr (6, [.int kl, .int kf, .int ka, .int kx, .int ky]))]) (va_runV (As := [.int (w + 0), .int (fX7_wordAt_0 isr wh rx ry kx ky)]) (rest := []) ⟨hx, hb, hml, hown, hts⟩ (kX9_put l D H.size h0 h1 cA x2 (.ref h4) n f (w + 0) (fX7_wordAt_0 isr wh rx ry kx ky) ) (cwV 2 hts gX9_store_X9_put rfl rfl rfl (by decide +kernel) ⟨Nat.le_of_ble_eq_true rfl, Nat.le_of_ble_eq_true rfl⟩) ⟨Pw_blind, (va_recv hKc hPc (ci := 7) (q0 := 0) rfl rfl), fun U hU hW => Pw_at hKc hPc hDc hN hU hW⟩ rfl rfl hl.1 rfl (lv_room (Nat.le_of_ble_eq_true rfl)) dX9_store_46 ⟨Nat.le_of_ble_eq_true rfl, Nat.le_of_ble_eq_true rfl⟩) hP hD hS hA [0, 1] [2, 3, 4] [3, 4, 0, 1, 2] rfl rfl (by decide) (by decide) (fun _ => rfl) (by decide) (fun _ _ H locs hP hD hS => ?_)
    have hP : va_P D vwCl [(h0, .inr (7, [.ref h1, .int n, x2, .ref h4])), (h1, .inl (cA, 1000, .inl (fX9_put f (w + 0) (fX7_wordAt_0 isr wh rx ry kx ky)))), (h4, .inr (5, [.ref h5, .ref h6, .int isr, .int wh, .int sh])), (h5, .inr (6, [.int rl, .int rf, .int ra, .int rx, .int ry])), (h6, .inr (6, [.int kl, .int kf, .int ka, .int kx, .int ky]))] H := hP
    have hD : va_D A [(h0, .inr (7, [.ref h1, .int n, x2, .ref h4])), (h1, .inl (cA, 1000, .inl (fX9_put f (w + 0) (fX7_wordAt_0 isr wh rx ry kx ky)))), (h4, .inr (5, [.ref h5, .ref h6, .int isr, .int wh, .int sh])), (h5, .inr (6, [.int rl, .int rf, .int ra, .int rx, .int ry])), (h6, .inr (6, [.int kl, .int kf, .int ka, .int kx, .int ky]))] := hD
    refine lv_iinc (v := 1) (lv' := [(5, .int 1), (0, .ref h0), (1, .int k), (2, .int w), (3, .int 6), (4, .int v_1), (6, .int (fX7_wordAt_0 isr wh rx ry kx ky))]) hx hb dX9_store_49 hl (k := 5) rfl (by decide) (by decide) rfl (fun ls hl => ?_)
    refine lv_goto (tgt := 6) hx hb dX9_store_52 (by decide) ?_
    refine lv_iload hx hb dX9_store_6 (lv_at hl 0 rfl) ?_
    refine lv_iload_n hx hb dX9_store_8 rfl (lv_at hl 4 rfl) ?_
    refine lv_icmp_ge (tgt := 55) hx hb dX9_store_9 (by decide) (fun h => absurd h (by decide)) (fun _ => ?_)
    refine lv_aload_n hx hb dX9_store_12 rfl (lv_at hl 1 rfl) ?_
    refine va_get (D := D) (ci := 7) (v := .ref h4) (C := RX9) (T := TX9) (N := 4) hx hb hts w_X9 hown hK hP 0 rfl rfl 3 (by decide) f_29 (fun _ h9 => h9) rfl dX9_store_13 ?_
    refine lv_iload hx hb dX9_store_16 (lv_at hl 0 rfl) ?_
    have hPc := hP.sub (ws' := [(h4, .inr (5, [.ref h5, .ref h6, .int isr, .int wh, .int sh])), (h5, .inr (6, [.int rl, .int rf, .int ra, .int rx, .int ry])), (h6, .inr (6, [.int kl, .int kf, .int ka, .int kx, .int ky]))]) [2, 3, 4] rfl
    have hDc := hD.sub (ws' := [(h4, .inr (5, [.ref h5, .ref h6, .int isr, .int wh, .int sh])), (h5, .inr (6, [.int rl, .int rf, .int ra, .int rx, .int ry])), (h6, .inr (6, [.int kl, .int kf, .int ka, .int kx, .int ky]))]) [2, 3, 4] (by decide) rfl
    have hKc := hK.sub (tys' := []) [] rfl
    refine rd_i (va_runV (As := [.int 1]) (rest := []) ⟨hx, hb, hml, hown, hts⟩ (kX7_wordAt_1 l D H.size h4 h5 h6 isr wh sh rl rf ra rx ry kl kf ka kx ky ) (cwV 1 hts gX9_store_X7_wordAt rfl rfl rfl (by decide +kernel) ⟨Nat.le_of_ble_eq_true rfl, Nat.le_of_ble_eq_true rfl⟩) ⟨Pw_blind, (va_recv hKc hPc (ci := 5) (q0 := 0) rfl rfl), fun U hU hW => Pw_at hKc hPc hDc hN hU hW⟩ rfl rfl hl.1 rfl (lv_room (Nat.le_of_ble_eq_true rfl)) dX9_store_18 ⟨Nat.le_of_ble_eq_true rfl, Nat.le_of_ble_eq_true rfl⟩) ?_
    refine lv_istore (lv' := [(6, .int sh), (5, .int 1), (0, .ref h0), (1, .int k), (2, .int w), (3, .int 6), (4, .int v_1)]) hx hb dX9_store_21 hl (by decide) rfl (fun ls hl => ?_)
    refine lv_iload hx hb dX9_store_23 (lv_at hl 0 rfl) ?_
    refine lv_aload_n hx hb dX9_store_25 rfl (lv_at hl 2 rfl) ?_
    refine lv_iload_n hx hb dX9_store_26 rfl (lv_at hl 3 rfl) ?_
    refine lv_iload hx hb dX9_store_27 (lv_at hl 1 rfl) ?_
    refine lv_iadd hx hb dX9_store_29 ?_
    have hPc := hP.sub (ws' := [(h0, .inr (7, [.ref h1, .int n, x2, .ref h4])), (h1, .inl (cA, 1000, .inl (fX9_put f (w + 0) (fX7_wordAt_0 isr wh rx ry kx ky))))]) [0, 1] rfl
    have hDc := hD.sub (ws' := [(h0, .inr (7, [.ref h1, .int n, x2, .ref h4])), (h1, .inl (cA, 1000, .inl (fX9_put f (w + 0) (fX7_wordAt_0 isr wh rx ry kx ky))))]) [0, 1] (by decide) rfl
    have hKc := hK.sub (tys' := [(cA, .int)]) [0] rfl
    refine rd_i (va_runV (As := [.int (k + 1)]) (rest := [.int sh]) ⟨hx, hb, hml, hown, hts⟩ (kX9_word l D H.size h0 h1 cA x2 (.ref h4) n (fX9_put f (w + 0) (fX7_wordAt_0 isr wh rx ry kx ky)) (k + 1) ) (cwV 1 hts gX9_store_X9_word rfl rfl rfl (by decide +kernel) ⟨Nat.le_of_ble_eq_true rfl, Nat.le_of_ble_eq_true rfl⟩) ⟨Pw_blind, (va_recv hKc hPc (ci := 7) (q0 := 0) rfl rfl), fun U hU hW => Pw_at hKc hPc hDc hN hU hW⟩ rfl rfl hl.1 rfl (lv_room (Nat.le_of_ble_eq_true rfl)) dX9_store_30 ⟨Nat.le_of_ble_eq_true rfl, Nat.le_of_ble_eq_true rfl⟩) ?_
    have K39_2 : ∀ (v_2 : Int32), v_2 = (if sh = (fX9_word n (fX9_put f (w + 0) (fX7_wordAt_0 isr wh rx ry kx ky)) (k + 1)) then v_1 else 1) → ∀ ls : Array Slot, lv_has ls 7 [(0, .ref h0), (1, .int k), (2, .int w), (3, .int 6), (4, .int v_2), (5, .int 1), (6, .int sh)] → W p l e (headSpec wsX9_store rmX9_store_6).room s m ([.ref h0, .int k, .int w, .int 6] : List Value).toArray below meth c H locs 0 0 Q (F0 m 39 ls []) := by
      intro v_2 ev_2 ls hl
      refine lv_aload_n hx hb dX9_store_39 rfl (lv_at hl 0 rfl) ?_
      refine lv_iload_n hx hb dX9_store_40 rfl (lv_at hl 2 rfl) ?_
      refine lv_iload hx hb dX9_store_41 (lv_at hl 5 rfl) ?_
      refine lv_iadd hx hb dX9_store_43 ?_
      refine lv_iload hx hb dX9_store_44 (lv_at hl 6 rfl) ?_
      have hPc := hP.sub (ws' := [(h0, .inr (7, [.ref h1, .int n, x2, .ref h4])), (h1, .inl (cA, 1000, .inl (fX9_put f (w + 0) (fX7_wordAt_0 isr wh rx ry kx ky))))]) [0, 1] rfl
      have hDc := hD.sub (ws' := [(h0, .inr (7, [.ref h1, .int n, x2, .ref h4])), (h1, .inl (cA, 1000, .inl (fX9_put f (w + 0) (fX7_wordAt_0 isr wh rx ry kx ky))))]) [0, 1] (by decide) rfl
      have hKc := hK.sub (tys' := [(cA, .int)]) [0] rfl
      refine wk_v (β := Unit) (ok := fun _ => True) (wc := [(h0, .inr (7, [.ref h1, .int n, x2, .ref h4])), (h1, .inl (cA, 1000, .inl (fX9_put f (w + 0) (fX7_wordAt_0 isr wh rx ry kx ky))))]) (wr := [(h4, .inr (5, [.ref h5, .ref h6, .int isr, .int wh, .int sh])), (h5, .inr (6, [.int rl, .int rf, .int ra, .int rx, .int ry])), (h6, .inr (6, [.int kl, .int kf, .int ka, .int kx, .int ky]))]) (w1 := fun _ => [(h0, .inr (7, [.ref h1, .int n, x2, .ref h4])), (h1, .inl (cA, 1000, .inl (fX9_put (fX9_put f (w + 0) (fX7_wordAt_0 isr wh rx ry kx ky)) (w + 1) sh)))]) (ws2 := fun _ => [(h0, .inr (7, [.ref h1, .int n, x2, .ref h4])), (h1, .inl (cA, 1000, .inl (fX9_put (fX9_put f (w + 0) (fX7_wordAt_0 isr wh rx ry kx ky)) (w + 1) sh))), (h4, .inr (5, [.ref h5, .ref h6, .int isr, .int wh, .int sh])), (h5, .inr (6, [.int rl, .int rf, .int ra, .int rx, .int ry])), (h6, .inr (6, [.int kl, .int kf, .int ka, .int kx, .int ky]))]) (va_runV (As := [.int (w + 1), .int sh]) (rest := []) ⟨hx, hb, hml, hown, hts⟩ (kX9_put l D H.size h0 h1 cA x2 (.ref h4) n (fX9_put f (w + 0) (fX7_wordAt_0 isr wh rx ry kx ky)) (w + 1) sh ) (cwV 2 hts gX9_store_X9_put rfl rfl rfl (by decide +kernel) ⟨Nat.le_of_ble_eq_true rfl, Nat.le_of_ble_eq_true rfl⟩) ⟨Pw_blind, (va_recv hKc hPc (ci := 7) (q0 := 0) rfl rfl), fun U hU hW => Pw_at hKc hPc hDc hN hU hW⟩ rfl rfl hl.1 rfl (lv_room (Nat.le_of_ble_eq_true rfl)) dX9_store_46 ⟨Nat.le_of_ble_eq_true rfl, Nat.le_of_ble_eq_true rfl⟩) hP hD hS hA [0, 1] [2, 3, 4] [3, 4, 0, 1, 2] rfl rfl (by decide) (by decide) (fun _ => rfl) (by decide) (fun _ _ H locs hP hD hS => ?_)
      have hP : va_P D vwCl [(h0, .inr (7, [.ref h1, .int n, x2, .ref h4])), (h1, .inl (cA, 1000, .inl (fX9_put (fX9_put f (w + 0) (fX7_wordAt_0 isr wh rx ry kx ky)) (w + 1) sh))), (h4, .inr (5, [.ref h5, .ref h6, .int isr, .int wh, .int sh])), (h5, .inr (6, [.int rl, .int rf, .int ra, .int rx, .int ry])), (h6, .inr (6, [.int kl, .int kf, .int ka, .int kx, .int ky]))] H := hP
      have hD : va_D A [(h0, .inr (7, [.ref h1, .int n, x2, .ref h4])), (h1, .inl (cA, 1000, .inl (fX9_put (fX9_put f (w + 0) (fX7_wordAt_0 isr wh rx ry kx ky)) (w + 1) sh))), (h4, .inr (5, [.ref h5, .ref h6, .int isr, .int wh, .int sh])), (h5, .inr (6, [.int rl, .int rf, .int ra, .int rx, .int ry])), (h6, .inr (6, [.int kl, .int kf, .int ka, .int kx, .int ky]))] := hD
      refine lv_iinc (v := 2) (lv' := [(5, .int 2), (0, .ref h0), (1, .int k), (2, .int w), (3, .int 6), (4, .int v_2), (6, .int sh)]) hx hb dX9_store_49 hl (k := 5) rfl (by decide) (by decide) rfl (fun ls hl => ?_)
      refine lv_goto (tgt := 6) hx hb dX9_store_52 (by decide) ?_
      refine lv_iload hx hb dX9_store_6 (lv_at hl 0 rfl) ?_
      refine lv_iload_n hx hb dX9_store_8 rfl (lv_at hl 4 rfl) ?_
      refine lv_icmp_ge (tgt := 55) hx hb dX9_store_9 (by decide) (fun h => absurd h (by decide)) (fun _ => ?_)
      refine lv_aload_n hx hb dX9_store_12 rfl (lv_at hl 1 rfl) ?_
      refine va_get (D := D) (ci := 7) (v := .ref h4) (C := RX9) (T := TX9) (N := 4) hx hb hts w_X9 hown hK hP 0 rfl rfl 3 (by decide) f_29 (fun _ h9 => h9) rfl dX9_store_13 ?_
      refine lv_iload hx hb dX9_store_16 (lv_at hl 0 rfl) ?_
      have hPc := hP.sub (ws' := [(h4, .inr (5, [.ref h5, .ref h6, .int isr, .int wh, .int sh])), (h5, .inr (6, [.int rl, .int rf, .int ra, .int rx, .int ry])), (h6, .inr (6, [.int kl, .int kf, .int ka, .int kx, .int ky]))]) [2, 3, 4] rfl
      have hDc := hD.sub (ws' := [(h4, .inr (5, [.ref h5, .ref h6, .int isr, .int wh, .int sh])), (h5, .inr (6, [.int rl, .int rf, .int ra, .int rx, .int ry])), (h6, .inr (6, [.int kl, .int kf, .int ka, .int kx, .int ky]))]) [2, 3, 4] (by decide) rfl
      have hKc := hK.sub (tys' := []) [] rfl
      refine rd_i (va_runV (As := [.int 2]) (rest := []) ⟨hx, hb, hml, hown, hts⟩ (kX7_wordAt_2 l D H.size h4 h5 h6 isr wh sh rl rf ra rx ry kl kf ka kx ky ) (cwV 1 hts gX9_store_X7_wordAt rfl rfl rfl (by decide +kernel) ⟨Nat.le_of_ble_eq_true rfl, Nat.le_of_ble_eq_true rfl⟩) ⟨Pw_blind, (va_recv hKc hPc (ci := 5) (q0 := 0) rfl rfl), fun U hU hW => Pw_at hKc hPc hDc hN hU hW⟩ rfl rfl hl.1 rfl (lv_room (Nat.le_of_ble_eq_true rfl)) dX9_store_18 ⟨Nat.le_of_ble_eq_true rfl, Nat.le_of_ble_eq_true rfl⟩) ?_
      refine lv_istore (lv' := [(6, .int rf), (5, .int 2), (0, .ref h0), (1, .int k), (2, .int w), (3, .int 6), (4, .int v_2)]) hx hb dX9_store_21 hl (by decide) rfl (fun ls hl => ?_)
      refine lv_iload hx hb dX9_store_23 (lv_at hl 0 rfl) ?_
      refine lv_aload_n hx hb dX9_store_25 rfl (lv_at hl 2 rfl) ?_
      refine lv_iload_n hx hb dX9_store_26 rfl (lv_at hl 3 rfl) ?_
      refine lv_iload hx hb dX9_store_27 (lv_at hl 1 rfl) ?_
      refine lv_iadd hx hb dX9_store_29 ?_
      have hPc := hP.sub (ws' := [(h0, .inr (7, [.ref h1, .int n, x2, .ref h4])), (h1, .inl (cA, 1000, .inl (fX9_put (fX9_put f (w + 0) (fX7_wordAt_0 isr wh rx ry kx ky)) (w + 1) sh)))]) [0, 1] rfl
      have hDc := hD.sub (ws' := [(h0, .inr (7, [.ref h1, .int n, x2, .ref h4])), (h1, .inl (cA, 1000, .inl (fX9_put (fX9_put f (w + 0) (fX7_wordAt_0 isr wh rx ry kx ky)) (w + 1) sh)))]) [0, 1] (by decide) rfl
      have hKc := hK.sub (tys' := [(cA, .int)]) [0] rfl
      refine rd_i (va_runV (As := [.int (k + 2)]) (rest := [.int rf]) ⟨hx, hb, hml, hown, hts⟩ (kX9_word l D H.size h0 h1 cA x2 (.ref h4) n (fX9_put (fX9_put f (w + 0) (fX7_wordAt_0 isr wh rx ry kx ky)) (w + 1) sh) (k + 2) ) (cwV 1 hts gX9_store_X9_word rfl rfl rfl (by decide +kernel) ⟨Nat.le_of_ble_eq_true rfl, Nat.le_of_ble_eq_true rfl⟩) ⟨Pw_blind, (va_recv hKc hPc (ci := 7) (q0 := 0) rfl rfl), fun U hU hW => Pw_at hKc hPc hDc hN hU hW⟩ rfl rfl hl.1 rfl (lv_room (Nat.le_of_ble_eq_true rfl)) dX9_store_30 ⟨Nat.le_of_ble_eq_true rfl, Nat.le_of_ble_eq_true rfl⟩) ?_
      have K39_3 : ∀ (v_3 : Int32), v_3 = (if rf = (fX9_word n (fX9_put (fX9_put f (w + 0) (fX7_wordAt_0 isr wh rx ry kx ky)) (w + 1) sh) (k + 2)) then v_2 else 1) → ∀ ls : Array Slot, lv_has ls 7 [(0, .ref h0), (1, .int k), (2, .int w), (3, .int 6), (4, .int v_3), (5, .int 2), (6, .int rf)] → W p l e (headSpec wsX9_store rmX9_store_6).room s m ([.ref h0, .int k, .int w, .int 6] : List Value).toArray below meth c H locs 0 0 Q (F0 m 39 ls []) := by
        intro v_3 ev_3 ls hl
        refine lv_aload_n hx hb dX9_store_39 rfl (lv_at hl 0 rfl) ?_
        refine lv_iload_n hx hb dX9_store_40 rfl (lv_at hl 2 rfl) ?_
        refine lv_iload hx hb dX9_store_41 (lv_at hl 5 rfl) ?_
        refine lv_iadd hx hb dX9_store_43 ?_
        refine lv_iload hx hb dX9_store_44 (lv_at hl 6 rfl) ?_
        have hPc := hP.sub (ws' := [(h0, .inr (7, [.ref h1, .int n, x2, .ref h4])), (h1, .inl (cA, 1000, .inl (fX9_put (fX9_put f (w + 0) (fX7_wordAt_0 isr wh rx ry kx ky)) (w + 1) sh)))]) [0, 1] rfl
        have hDc := hD.sub (ws' := [(h0, .inr (7, [.ref h1, .int n, x2, .ref h4])), (h1, .inl (cA, 1000, .inl (fX9_put (fX9_put f (w + 0) (fX7_wordAt_0 isr wh rx ry kx ky)) (w + 1) sh)))]) [0, 1] (by decide) rfl
        have hKc := hK.sub (tys' := [(cA, .int)]) [0] rfl
        refine wk_v (β := Unit) (ok := fun _ => True) (wc := [(h0, .inr (7, [.ref h1, .int n, x2, .ref h4])), (h1, .inl (cA, 1000, .inl (fX9_put (fX9_put f (w + 0) (fX7_wordAt_0 isr wh rx ry kx ky)) (w + 1) sh)))]) (wr := [(h4, .inr (5, [.ref h5, .ref h6, .int isr, .int wh, .int sh])), (h5, .inr (6, [.int rl, .int rf, .int ra, .int rx, .int ry])), (h6, .inr (6, [.int kl, .int kf, .int ka, .int kx, .int ky]))]) (w1 := fun _ => [(h0, .inr (7, [.ref h1, .int n, x2, .ref h4])), (h1, .inl (cA, 1000, .inl (fX9_put (fX9_put (fX9_put f (w + 0) (fX7_wordAt_0 isr wh rx ry kx ky)) (w + 1) sh) (w + 2) rf)))]) (ws2 := fun _ => [(h0, .inr (7, [.ref h1, .int n, x2, .ref h4])), (h1, .inl (cA, 1000, .inl (fX9_put (fX9_put (fX9_put f (w + 0) (fX7_wordAt_0 isr wh rx ry kx ky)) (w + 1) sh) (w + 2) rf))), (h4, .inr (5, [.ref h5, .ref h6, .int isr, .int wh, .int sh])), (h5, .inr (6, [.int rl, .int rf, .int ra, .int rx, .int ry])), (h6, .inr (6, [.int kl, .int kf, .int ka, .int kx, .int ky]))]) (va_runV (As := [.int (w + 2), .int rf]) (rest := []) ⟨hx, hb, hml, hown, hts⟩ (kX9_put l D H.size h0 h1 cA x2 (.ref h4) n (fX9_put (fX9_put f (w + 0) (fX7_wordAt_0 isr wh rx ry kx ky)) (w + 1) sh) (w + 2) rf ) (cwV 2 hts gX9_store_X9_put rfl rfl rfl (by decide +kernel) ⟨Nat.le_of_ble_eq_true rfl, Nat.le_of_ble_eq_true rfl⟩) ⟨Pw_blind, (va_recv hKc hPc (ci := 7) (q0 := 0) rfl rfl), fun U hU hW => Pw_at hKc hPc hDc hN hU hW⟩ rfl rfl hl.1 rfl (lv_room (Nat.le_of_ble_eq_true rfl)) dX9_store_46 ⟨Nat.le_of_ble_eq_true rfl, Nat.le_of_ble_eq_true rfl⟩) hP hD hS hA [0, 1] [2, 3, 4] [3, 4, 0, 1, 2] rfl rfl (by decide) (by decide) (fun _ => rfl) (by decide) (fun _ _ H locs hP hD hS => ?_)
        have hP : va_P D vwCl [(h0, .inr (7, [.ref h1, .int n, x2, .ref h4])), (h1, .inl (cA, 1000, .inl (fX9_put (fX9_put (fX9_put f (w + 0) (fX7_wordAt_0 isr wh rx ry kx ky)) (w + 1) sh) (w + 2) rf))), (h4, .inr (5, [.ref h5, .ref h6, .int isr, .int wh, .int sh])), (h5, .inr (6, [.int rl, .int rf, .int ra, .int rx, .int ry])), (h6, .inr (6, [.int kl, .int kf, .int ka, .int kx, .int ky]))] H := hP
        have hD : va_D A [(h0, .inr (7, [.ref h1, .int n, x2, .ref h4])), (h1, .inl (cA, 1000, .inl (fX9_put (fX9_put (fX9_put f (w + 0) (fX7_wordAt_0 isr wh rx ry kx ky)) (w + 1) sh) (w + 2) rf))), (h4, .inr (5, [.ref h5, .ref h6, .int isr, .int wh, .int sh])), (h5, .inr (6, [.int rl, .int rf, .int ra, .int rx, .int ry])), (h6, .inr (6, [.int kl, .int kf, .int ka, .int kx, .int ky]))] := hD
        refine lv_iinc (v := 3) (lv' := [(5, .int 3), (0, .ref h0), (1, .int k), (2, .int w), (3, .int 6), (4, .int v_3), (6, .int rf)]) hx hb dX9_store_49 hl (k := 5) rfl (by decide) (by decide) rfl (fun ls hl => ?_)
        refine lv_goto (tgt := 6) hx hb dX9_store_52 (by decide) ?_
        refine lv_iload hx hb dX9_store_6 (lv_at hl 0 rfl) ?_
        refine lv_iload_n hx hb dX9_store_8 rfl (lv_at hl 4 rfl) ?_
        refine lv_icmp_ge (tgt := 55) hx hb dX9_store_9 (by decide) (fun h => absurd h (by decide)) (fun _ => ?_)
        refine lv_aload_n hx hb dX9_store_12 rfl (lv_at hl 1 rfl) ?_
        refine va_get (D := D) (ci := 7) (v := .ref h4) (C := RX9) (T := TX9) (N := 4) hx hb hts w_X9 hown hK hP 0 rfl rfl 3 (by decide) f_29 (fun _ h9 => h9) rfl dX9_store_13 ?_
        refine lv_iload hx hb dX9_store_16 (lv_at hl 0 rfl) ?_
        have hPc := hP.sub (ws' := [(h4, .inr (5, [.ref h5, .ref h6, .int isr, .int wh, .int sh])), (h5, .inr (6, [.int rl, .int rf, .int ra, .int rx, .int ry])), (h6, .inr (6, [.int kl, .int kf, .int ka, .int kx, .int ky]))]) [2, 3, 4] rfl
        have hDc := hD.sub (ws' := [(h4, .inr (5, [.ref h5, .ref h6, .int isr, .int wh, .int sh])), (h5, .inr (6, [.int rl, .int rf, .int ra, .int rx, .int ry])), (h6, .inr (6, [.int kl, .int kf, .int ka, .int kx, .int ky]))]) [2, 3, 4] (by decide) rfl
        have hKc := hK.sub (tys' := []) [] rfl
        refine rd_i (va_runV (As := [.int 3]) (rest := []) ⟨hx, hb, hml, hown, hts⟩ (kX7_wordAt_3 l D H.size h4 h5 h6 isr wh sh rl rf ra rx ry kl kf ka kx ky ) (cwV 1 hts gX9_store_X7_wordAt rfl rfl rfl (by decide +kernel) ⟨Nat.le_of_ble_eq_true rfl, Nat.le_of_ble_eq_true rfl⟩) ⟨Pw_blind, (va_recv hKc hPc (ci := 5) (q0 := 0) rfl rfl), fun U hU hW => Pw_at hKc hPc hDc hN hU hW⟩ rfl rfl hl.1 rfl (lv_room (Nat.le_of_ble_eq_true rfl)) dX9_store_18 ⟨Nat.le_of_ble_eq_true rfl, Nat.le_of_ble_eq_true rfl⟩) ?_
        refine lv_istore (lv' := [(6, .int kf), (5, .int 3), (0, .ref h0), (1, .int k), (2, .int w), (3, .int 6), (4, .int v_3)]) hx hb dX9_store_21 hl (by decide) rfl (fun ls hl => ?_)
        refine lv_iload hx hb dX9_store_23 (lv_at hl 0 rfl) ?_
        refine lv_aload_n hx hb dX9_store_25 rfl (lv_at hl 2 rfl) ?_
        refine lv_iload_n hx hb dX9_store_26 rfl (lv_at hl 3 rfl) ?_
        refine lv_iload hx hb dX9_store_27 (lv_at hl 1 rfl) ?_
        refine lv_iadd hx hb dX9_store_29 ?_
        have hPc := hP.sub (ws' := [(h0, .inr (7, [.ref h1, .int n, x2, .ref h4])), (h1, .inl (cA, 1000, .inl (fX9_put (fX9_put (fX9_put f (w + 0) (fX7_wordAt_0 isr wh rx ry kx ky)) (w + 1) sh) (w + 2) rf)))]) [0, 1] rfl
        have hDc := hD.sub (ws' := [(h0, .inr (7, [.ref h1, .int n, x2, .ref h4])), (h1, .inl (cA, 1000, .inl (fX9_put (fX9_put (fX9_put f (w + 0) (fX7_wordAt_0 isr wh rx ry kx ky)) (w + 1) sh) (w + 2) rf)))]) [0, 1] (by decide) rfl
        have hKc := hK.sub (tys' := [(cA, .int)]) [0] rfl
        refine rd_i (va_runV (As := [.int (k + 3)]) (rest := [.int kf]) ⟨hx, hb, hml, hown, hts⟩ (kX9_word l D H.size h0 h1 cA x2 (.ref h4) n (fX9_put (fX9_put (fX9_put f (w + 0) (fX7_wordAt_0 isr wh rx ry kx ky)) (w + 1) sh) (w + 2) rf) (k + 3) ) (cwV 1 hts gX9_store_X9_word rfl rfl rfl (by decide +kernel) ⟨Nat.le_of_ble_eq_true rfl, Nat.le_of_ble_eq_true rfl⟩) ⟨Pw_blind, (va_recv hKc hPc (ci := 7) (q0 := 0) rfl rfl), fun U hU hW => Pw_at hKc hPc hDc hN hU hW⟩ rfl rfl hl.1 rfl (lv_room (Nat.le_of_ble_eq_true rfl)) dX9_store_30 ⟨Nat.le_of_ble_eq_true rfl, Nat.le_of_ble_eq_true rfl⟩) ?_
        have K39_4 : ∀ (v_4 : Int32), v_4 = (if kf = (fX9_word n (fX9_put (fX9_put (fX9_put f (w + 0) (fX7_wordAt_0 isr wh rx ry kx ky)) (w + 1) sh) (w + 2) rf) (k + 3)) then v_3 else 1) → ∀ ls : Array Slot, lv_has ls 7 [(0, .ref h0), (1, .int k), (2, .int w), (3, .int 6), (4, .int v_4), (5, .int 3), (6, .int kf)] → W p l e (headSpec wsX9_store rmX9_store_6).room s m ([.ref h0, .int k, .int w, .int 6] : List Value).toArray below meth c H locs 0 0 Q (F0 m 39 ls []) := by
          intro v_4 ev_4 ls hl
          refine lv_aload_n hx hb dX9_store_39 rfl (lv_at hl 0 rfl) ?_
          refine lv_iload_n hx hb dX9_store_40 rfl (lv_at hl 2 rfl) ?_
          refine lv_iload hx hb dX9_store_41 (lv_at hl 5 rfl) ?_
          refine lv_iadd hx hb dX9_store_43 ?_
          refine lv_iload hx hb dX9_store_44 (lv_at hl 6 rfl) ?_
          have hPc := hP.sub (ws' := [(h0, .inr (7, [.ref h1, .int n, x2, .ref h4])), (h1, .inl (cA, 1000, .inl (fX9_put (fX9_put (fX9_put f (w + 0) (fX7_wordAt_0 isr wh rx ry kx ky)) (w + 1) sh) (w + 2) rf)))]) [0, 1] rfl
          have hDc := hD.sub (ws' := [(h0, .inr (7, [.ref h1, .int n, x2, .ref h4])), (h1, .inl (cA, 1000, .inl (fX9_put (fX9_put (fX9_put f (w + 0) (fX7_wordAt_0 isr wh rx ry kx ky)) (w + 1) sh) (w + 2) rf)))]) [0, 1] (by decide) rfl
          have hKc := hK.sub (tys' := [(cA, .int)]) [0] rfl
          refine wk_v (β := Unit) (ok := fun _ => True) (wc := [(h0, .inr (7, [.ref h1, .int n, x2, .ref h4])), (h1, .inl (cA, 1000, .inl (fX9_put (fX9_put (fX9_put f (w + 0) (fX7_wordAt_0 isr wh rx ry kx ky)) (w + 1) sh) (w + 2) rf)))]) (wr := [(h4, .inr (5, [.ref h5, .ref h6, .int isr, .int wh, .int sh])), (h5, .inr (6, [.int rl, .int rf, .int ra, .int rx, .int ry])), (h6, .inr (6, [.int kl, .int kf, .int ka, .int kx, .int ky]))]) (w1 := fun _ => [(h0, .inr (7, [.ref h1, .int n, x2, .ref h4])), (h1, .inl (cA, 1000, .inl (fX9_put (fX9_put (fX9_put (fX9_put f (w + 0) (fX7_wordAt_0 isr wh rx ry kx ky)) (w + 1) sh) (w + 2) rf) (w + 3) kf)))]) (ws2 := fun _ => [(h0, .inr (7, [.ref h1, .int n, x2, .ref h4])), (h1, .inl (cA, 1000, .inl (fX9_put (fX9_put (fX9_put (fX9_put f (w + 0) (fX7_wordAt_0 isr wh rx ry kx ky)) (w + 1) sh) (w + 2) rf) (w + 3) kf))), (h4, .inr (5, [.ref h5, .ref h6, .int isr, .int wh, .int sh])), (h5, .inr (6, [.int rl, .int rf, .int ra, .int rx, .int ry])), (h6, .inr (6, [.int kl, .int kf, .int ka, .int kx, .int ky]))]) (va_runV (As := [.int (w + 3), .int kf]) (rest := []) ⟨hx, hb, hml, hown, hts⟩ (kX9_put l D H.size h0 h1 cA x2 (.ref h4) n (fX9_put (fX9_put (fX9_put f (w + 0) (fX7_wordAt_0 isr wh rx ry kx ky)) (w + 1) sh) (w + 2) rf) (w + 3) kf ) (cwV 2 hts gX9_store_X9_put rfl rfl rfl (by decide +kernel) ⟨Nat.le_of_ble_eq_true rfl, Nat.le_of_ble_eq_true rfl⟩) ⟨Pw_blind, (va_recv hKc hPc (ci := 7) (q0 := 0) rfl rfl), fun U hU hW => Pw_at hKc hPc hDc hN hU hW⟩ rfl rfl hl.1 rfl (lv_room (Nat.le_of_ble_eq_true rfl)) dX9_store_46 ⟨Nat.le_of_ble_eq_true rfl, Nat.le_of_ble_eq_true rfl⟩) hP hD hS hA [0, 1] [2, 3, 4] [3, 4, 0, 1, 2] rfl rfl (by decide) (by decide) (fun _ => rfl) (by decide) (fun _ _ H locs hP hD hS => ?_)
          have hP : va_P D vwCl [(h0, .inr (7, [.ref h1, .int n, x2, .ref h4])), (h1, .inl (cA, 1000, .inl (fX9_put (fX9_put (fX9_put (fX9_put f (w + 0) (fX7_wordAt_0 isr wh rx ry kx ky)) (w + 1) sh) (w + 2) rf) (w + 3) kf))), (h4, .inr (5, [.ref h5, .ref h6, .int isr, .int wh, .int sh])), (h5, .inr (6, [.int rl, .int rf, .int ra, .int rx, .int ry])), (h6, .inr (6, [.int kl, .int kf, .int ka, .int kx, .int ky]))] H := hP
          have hD : va_D A [(h0, .inr (7, [.ref h1, .int n, x2, .ref h4])), (h1, .inl (cA, 1000, .inl (fX9_put (fX9_put (fX9_put (fX9_put f (w + 0) (fX7_wordAt_0 isr wh rx ry kx ky)) (w + 1) sh) (w + 2) rf) (w + 3) kf))), (h4, .inr (5, [.ref h5, .ref h6, .int isr, .int wh, .int sh])), (h5, .inr (6, [.int rl, .int rf, .int ra, .int rx, .int ry])), (h6, .inr (6, [.int kl, .int kf, .int ka, .int kx, .int ky]))] := hD
          refine lv_iinc (v := 4) (lv' := [(5, .int 4), (0, .ref h0), (1, .int k), (2, .int w), (3, .int 6), (4, .int v_4), (6, .int kf)]) hx hb dX9_store_49 hl (k := 5) rfl (by decide) (by decide) rfl (fun ls hl => ?_)
          refine lv_goto (tgt := 6) hx hb dX9_store_52 (by decide) ?_
          refine lv_iload hx hb dX9_store_6 (lv_at hl 0 rfl) ?_
          refine lv_iload_n hx hb dX9_store_8 rfl (lv_at hl 4 rfl) ?_
          refine lv_icmp_ge (tgt := 55) hx hb dX9_store_9 (by decide) (fun h => absurd h (by decide)) (fun _ => ?_)
          refine lv_aload_n hx hb dX9_store_12 rfl (lv_at hl 1 rfl) ?_
          refine va_get (D := D) (ci := 7) (v := .ref h4) (C := RX9) (T := TX9) (N := 4) hx hb hts w_X9 hown hK hP 0 rfl rfl 3 (by decide) f_29 (fun _ h9 => h9) rfl dX9_store_13 ?_
          refine lv_iload hx hb dX9_store_16 (lv_at hl 0 rfl) ?_
          have hPc := hP.sub (ws' := [(h4, .inr (5, [.ref h5, .ref h6, .int isr, .int wh, .int sh])), (h5, .inr (6, [.int rl, .int rf, .int ra, .int rx, .int ry])), (h6, .inr (6, [.int kl, .int kf, .int ka, .int kx, .int ky]))]) [2, 3, 4] rfl
          have hDc := hD.sub (ws' := [(h4, .inr (5, [.ref h5, .ref h6, .int isr, .int wh, .int sh])), (h5, .inr (6, [.int rl, .int rf, .int ra, .int rx, .int ry])), (h6, .inr (6, [.int kl, .int kf, .int ka, .int kx, .int ky]))]) [2, 3, 4] (by decide) rfl
          have hKc := hK.sub (tys' := []) [] rfl
          refine rd_i (va_runV (As := [.int 4]) (rest := []) ⟨hx, hb, hml, hown, hts⟩ (kX7_wordAt_4 l D H.size h4 h5 h6 isr wh sh rl rf ra rx ry kl kf ka kx ky ) (cwV 1 hts gX9_store_X7_wordAt rfl rfl rfl (by decide +kernel) ⟨Nat.le_of_ble_eq_true rfl, Nat.le_of_ble_eq_true rfl⟩) ⟨Pw_blind, (va_recv hKc hPc (ci := 5) (q0 := 0) rfl rfl), fun U hU hW => Pw_at hKc hPc hDc hN hU hW⟩ rfl rfl hl.1 rfl (lv_room (Nat.le_of_ble_eq_true rfl)) dX9_store_18 ⟨Nat.le_of_ble_eq_true rfl, Nat.le_of_ble_eq_true rfl⟩) ?_
          refine lv_istore (lv' := [(6, .int ra), (5, .int 4), (0, .ref h0), (1, .int k), (2, .int w), (3, .int 6), (4, .int v_4)]) hx hb dX9_store_21 hl (by decide) rfl (fun ls hl => ?_)
          refine lv_iload hx hb dX9_store_23 (lv_at hl 0 rfl) ?_
          refine lv_aload_n hx hb dX9_store_25 rfl (lv_at hl 2 rfl) ?_
          refine lv_iload_n hx hb dX9_store_26 rfl (lv_at hl 3 rfl) ?_
          refine lv_iload hx hb dX9_store_27 (lv_at hl 1 rfl) ?_
          refine lv_iadd hx hb dX9_store_29 ?_
          have hPc := hP.sub (ws' := [(h0, .inr (7, [.ref h1, .int n, x2, .ref h4])), (h1, .inl (cA, 1000, .inl (fX9_put (fX9_put (fX9_put (fX9_put f (w + 0) (fX7_wordAt_0 isr wh rx ry kx ky)) (w + 1) sh) (w + 2) rf) (w + 3) kf)))]) [0, 1] rfl
          have hDc := hD.sub (ws' := [(h0, .inr (7, [.ref h1, .int n, x2, .ref h4])), (h1, .inl (cA, 1000, .inl (fX9_put (fX9_put (fX9_put (fX9_put f (w + 0) (fX7_wordAt_0 isr wh rx ry kx ky)) (w + 1) sh) (w + 2) rf) (w + 3) kf)))]) [0, 1] (by decide) rfl
          have hKc := hK.sub (tys' := [(cA, .int)]) [0] rfl
          refine rd_i (va_runV (As := [.int (k + 4)]) (rest := [.int ra]) ⟨hx, hb, hml, hown, hts⟩ (kX9_word l D H.size h0 h1 cA x2 (.ref h4) n (fX9_put (fX9_put (fX9_put (fX9_put f (w + 0) (fX7_wordAt_0 isr wh rx ry kx ky)) (w + 1) sh) (w + 2) rf) (w + 3) kf) (k + 4) ) (cwV 1 hts gX9_store_X9_word rfl rfl rfl (by decide +kernel) ⟨Nat.le_of_ble_eq_true rfl, Nat.le_of_ble_eq_true rfl⟩) ⟨Pw_blind, (va_recv hKc hPc (ci := 7) (q0 := 0) rfl rfl), fun U hU hW => Pw_at hKc hPc hDc hN hU hW⟩ rfl rfl hl.1 rfl (lv_room (Nat.le_of_ble_eq_true rfl)) dX9_store_30 ⟨Nat.le_of_ble_eq_true rfl, Nat.le_of_ble_eq_true rfl⟩) ?_
          have K39_5 : ∀ (v_5 : Int32), v_5 = (if ra = (fX9_word n (fX9_put (fX9_put (fX9_put (fX9_put f (w + 0) (fX7_wordAt_0 isr wh rx ry kx ky)) (w + 1) sh) (w + 2) rf) (w + 3) kf) (k + 4)) then v_4 else 1) → ∀ ls : Array Slot, lv_has ls 7 [(0, .ref h0), (1, .int k), (2, .int w), (3, .int 6), (4, .int v_5), (5, .int 4), (6, .int ra)] → W p l e (headSpec wsX9_store rmX9_store_6).room s m ([.ref h0, .int k, .int w, .int 6] : List Value).toArray below meth c H locs 0 0 Q (F0 m 39 ls []) := by
            intro v_5 ev_5 ls hl
            refine lv_aload_n hx hb dX9_store_39 rfl (lv_at hl 0 rfl) ?_
            refine lv_iload_n hx hb dX9_store_40 rfl (lv_at hl 2 rfl) ?_
            refine lv_iload hx hb dX9_store_41 (lv_at hl 5 rfl) ?_
            refine lv_iadd hx hb dX9_store_43 ?_
            refine lv_iload hx hb dX9_store_44 (lv_at hl 6 rfl) ?_
            have hPc := hP.sub (ws' := [(h0, .inr (7, [.ref h1, .int n, x2, .ref h4])), (h1, .inl (cA, 1000, .inl (fX9_put (fX9_put (fX9_put (fX9_put f (w + 0) (fX7_wordAt_0 isr wh rx ry kx ky)) (w + 1) sh) (w + 2) rf) (w + 3) kf)))]) [0, 1] rfl
            have hDc := hD.sub (ws' := [(h0, .inr (7, [.ref h1, .int n, x2, .ref h4])), (h1, .inl (cA, 1000, .inl (fX9_put (fX9_put (fX9_put (fX9_put f (w + 0) (fX7_wordAt_0 isr wh rx ry kx ky)) (w + 1) sh) (w + 2) rf) (w + 3) kf)))]) [0, 1] (by decide) rfl
            have hKc := hK.sub (tys' := [(cA, .int)]) [0] rfl
            refine wk_v (β := Unit) (ok := fun _ => True) (wc := [(h0, .inr (7, [.ref h1, .int n, x2, .ref h4])), (h1, .inl (cA, 1000, .inl (fX9_put (fX9_put (fX9_put (fX9_put f (w + 0) (fX7_wordAt_0 isr wh rx ry kx ky)) (w + 1) sh) (w + 2) rf) (w + 3) kf)))]) (wr := [(h4, .inr (5, [.ref h5, .ref h6, .int isr, .int wh, .int sh])), (h5, .inr (6, [.int rl, .int rf, .int ra, .int rx, .int ry])), (h6, .inr (6, [.int kl, .int kf, .int ka, .int kx, .int ky]))]) (w1 := fun _ => [(h0, .inr (7, [.ref h1, .int n, x2, .ref h4])), (h1, .inl (cA, 1000, .inl (fX9_put (fX9_put (fX9_put (fX9_put (fX9_put f (w + 0) (fX7_wordAt_0 isr wh rx ry kx ky)) (w + 1) sh) (w + 2) rf) (w + 3) kf) (w + 4) ra)))]) (ws2 := fun _ => [(h0, .inr (7, [.ref h1, .int n, x2, .ref h4])), (h1, .inl (cA, 1000, .inl (fX9_put (fX9_put (fX9_put (fX9_put (fX9_put f (w + 0) (fX7_wordAt_0 isr wh rx ry kx ky)) (w + 1) sh) (w + 2) rf) (w + 3) kf) (w + 4) ra))), (h4, .inr (5, [.ref h5, .ref h6, .int isr, .int wh, .int sh])), (h5, .inr (6, [.int rl, .int rf, .int ra, .int rx, .int ry])), (h6, .inr (6, [.int kl, .int kf, .int ka, .int kx, .int ky]))]) (va_runV (As := [.int (w + 4), .int ra]) (rest := []) ⟨hx, hb, hml, hown, hts⟩ (kX9_put l D H.size h0 h1 cA x2 (.ref h4) n (fX9_put (fX9_put (fX9_put (fX9_put f (w + 0) (fX7_wordAt_0 isr wh rx ry kx ky)) (w + 1) sh) (w + 2) rf) (w + 3) kf) (w + 4) ra ) (cwV 2 hts gX9_store_X9_put rfl rfl rfl (by decide +kernel) ⟨Nat.le_of_ble_eq_true rfl, Nat.le_of_ble_eq_true rfl⟩) ⟨Pw_blind, (va_recv hKc hPc (ci := 7) (q0 := 0) rfl rfl), fun U hU hW => Pw_at hKc hPc hDc hN hU hW⟩ rfl rfl hl.1 rfl (lv_room (Nat.le_of_ble_eq_true rfl)) dX9_store_46 ⟨Nat.le_of_ble_eq_true rfl, Nat.le_of_ble_eq_true rfl⟩) hP hD hS hA [0, 1] [2, 3, 4] [3, 4, 0, 1, 2] rfl rfl (by decide) (by decide) (fun _ => rfl) (by decide) (fun _ _ H locs hP hD hS => ?_)
            have hP : va_P D vwCl [(h0, .inr (7, [.ref h1, .int n, x2, .ref h4])), (h1, .inl (cA, 1000, .inl (fX9_put (fX9_put (fX9_put (fX9_put (fX9_put f (w + 0) (fX7_wordAt_0 isr wh rx ry kx ky)) (w + 1) sh) (w + 2) rf) (w + 3) kf) (w + 4) ra))), (h4, .inr (5, [.ref h5, .ref h6, .int isr, .int wh, .int sh])), (h5, .inr (6, [.int rl, .int rf, .int ra, .int rx, .int ry])), (h6, .inr (6, [.int kl, .int kf, .int ka, .int kx, .int ky]))] H := hP
            have hD : va_D A [(h0, .inr (7, [.ref h1, .int n, x2, .ref h4])), (h1, .inl (cA, 1000, .inl (fX9_put (fX9_put (fX9_put (fX9_put (fX9_put f (w + 0) (fX7_wordAt_0 isr wh rx ry kx ky)) (w + 1) sh) (w + 2) rf) (w + 3) kf) (w + 4) ra))), (h4, .inr (5, [.ref h5, .ref h6, .int isr, .int wh, .int sh])), (h5, .inr (6, [.int rl, .int rf, .int ra, .int rx, .int ry])), (h6, .inr (6, [.int kl, .int kf, .int ka, .int kx, .int ky]))] := hD
            refine lv_iinc (v := 5) (lv' := [(5, .int 5), (0, .ref h0), (1, .int k), (2, .int w), (3, .int 6), (4, .int v_5), (6, .int ra)]) hx hb dX9_store_49 hl (k := 5) rfl (by decide) (by decide) rfl (fun ls hl => ?_)
            refine lv_goto (tgt := 6) hx hb dX9_store_52 (by decide) ?_
            refine lv_iload hx hb dX9_store_6 (lv_at hl 0 rfl) ?_
            refine lv_iload_n hx hb dX9_store_8 rfl (lv_at hl 4 rfl) ?_
            refine lv_icmp_ge (tgt := 55) hx hb dX9_store_9 (by decide) (fun h => absurd h (by decide)) (fun _ => ?_)
            refine lv_aload_n hx hb dX9_store_12 rfl (lv_at hl 1 rfl) ?_
            refine va_get (D := D) (ci := 7) (v := .ref h4) (C := RX9) (T := TX9) (N := 4) hx hb hts w_X9 hown hK hP 0 rfl rfl 3 (by decide) f_29 (fun _ h9 => h9) rfl dX9_store_13 ?_
            refine lv_iload hx hb dX9_store_16 (lv_at hl 0 rfl) ?_
            have hPc := hP.sub (ws' := [(h4, .inr (5, [.ref h5, .ref h6, .int isr, .int wh, .int sh])), (h5, .inr (6, [.int rl, .int rf, .int ra, .int rx, .int ry])), (h6, .inr (6, [.int kl, .int kf, .int ka, .int kx, .int ky]))]) [2, 3, 4] rfl
            have hDc := hD.sub (ws' := [(h4, .inr (5, [.ref h5, .ref h6, .int isr, .int wh, .int sh])), (h5, .inr (6, [.int rl, .int rf, .int ra, .int rx, .int ry])), (h6, .inr (6, [.int kl, .int kf, .int ka, .int kx, .int ky]))]) [2, 3, 4] (by decide) rfl
            have hKc := hK.sub (tys' := []) [] rfl
            refine rd_i (va_runV (As := [.int 5]) (rest := []) ⟨hx, hb, hml, hown, hts⟩ (kX7_wordAt_5 l D H.size h4 h5 h6 isr wh sh rl rf ra rx ry kl kf ka kx ky ) (cwV 1 hts gX9_store_X7_wordAt rfl rfl rfl (by decide +kernel) ⟨Nat.le_of_ble_eq_true rfl, Nat.le_of_ble_eq_true rfl⟩) ⟨Pw_blind, (va_recv hKc hPc (ci := 5) (q0 := 0) rfl rfl), fun U hU hW => Pw_at hKc hPc hDc hN hU hW⟩ rfl rfl hl.1 rfl (lv_room (Nat.le_of_ble_eq_true rfl)) dX9_store_18 ⟨Nat.le_of_ble_eq_true rfl, Nat.le_of_ble_eq_true rfl⟩) ?_
            refine lv_istore (lv' := [(6, .int ka), (5, .int 5), (0, .ref h0), (1, .int k), (2, .int w), (3, .int 6), (4, .int v_5)]) hx hb dX9_store_21 hl (by decide) rfl (fun ls hl => ?_)
            refine lv_iload hx hb dX9_store_23 (lv_at hl 0 rfl) ?_
            refine lv_aload_n hx hb dX9_store_25 rfl (lv_at hl 2 rfl) ?_
            refine lv_iload_n hx hb dX9_store_26 rfl (lv_at hl 3 rfl) ?_
            refine lv_iload hx hb dX9_store_27 (lv_at hl 1 rfl) ?_
            refine lv_iadd hx hb dX9_store_29 ?_
            have hPc := hP.sub (ws' := [(h0, .inr (7, [.ref h1, .int n, x2, .ref h4])), (h1, .inl (cA, 1000, .inl (fX9_put (fX9_put (fX9_put (fX9_put (fX9_put f (w + 0) (fX7_wordAt_0 isr wh rx ry kx ky)) (w + 1) sh) (w + 2) rf) (w + 3) kf) (w + 4) ra)))]) [0, 1] rfl
            have hDc := hD.sub (ws' := [(h0, .inr (7, [.ref h1, .int n, x2, .ref h4])), (h1, .inl (cA, 1000, .inl (fX9_put (fX9_put (fX9_put (fX9_put (fX9_put f (w + 0) (fX7_wordAt_0 isr wh rx ry kx ky)) (w + 1) sh) (w + 2) rf) (w + 3) kf) (w + 4) ra)))]) [0, 1] (by decide) rfl
            have hKc := hK.sub (tys' := [(cA, .int)]) [0] rfl
            refine rd_i (va_runV (As := [.int (k + 5)]) (rest := [.int ka]) ⟨hx, hb, hml, hown, hts⟩ (kX9_word l D H.size h0 h1 cA x2 (.ref h4) n (fX9_put (fX9_put (fX9_put (fX9_put (fX9_put f (w + 0) (fX7_wordAt_0 isr wh rx ry kx ky)) (w + 1) sh) (w + 2) rf) (w + 3) kf) (w + 4) ra) (k + 5) ) (cwV 1 hts gX9_store_X9_word rfl rfl rfl (by decide +kernel) ⟨Nat.le_of_ble_eq_true rfl, Nat.le_of_ble_eq_true rfl⟩) ⟨Pw_blind, (va_recv hKc hPc (ci := 7) (q0 := 0) rfl rfl), fun U hU hW => Pw_at hKc hPc hDc hN hU hW⟩ rfl rfl hl.1 rfl (lv_room (Nat.le_of_ble_eq_true rfl)) dX9_store_30 ⟨Nat.le_of_ble_eq_true rfl, Nat.le_of_ble_eq_true rfl⟩) ?_
            have K39_6 : ∀ (v_6 : Int32), v_6 = (if ka = (fX9_word n (fX9_put (fX9_put (fX9_put (fX9_put (fX9_put f (w + 0) (fX7_wordAt_0 isr wh rx ry kx ky)) (w + 1) sh) (w + 2) rf) (w + 3) kf) (w + 4) ra) (k + 5)) then v_5 else 1) → ∀ ls : Array Slot, lv_has ls 7 [(0, .ref h0), (1, .int k), (2, .int w), (3, .int 6), (4, .int v_6), (5, .int 5), (6, .int ka)] → W p l e (headSpec wsX9_store rmX9_store_6).room s m ([.ref h0, .int k, .int w, .int 6] : List Value).toArray below meth c H locs 0 0 Q (F0 m 39 ls []) := by
              intro v_6 ev_6 ls hl
              refine lv_aload_n hx hb dX9_store_39 rfl (lv_at hl 0 rfl) ?_
              refine lv_iload_n hx hb dX9_store_40 rfl (lv_at hl 2 rfl) ?_
              refine lv_iload hx hb dX9_store_41 (lv_at hl 5 rfl) ?_
              refine lv_iadd hx hb dX9_store_43 ?_
              refine lv_iload hx hb dX9_store_44 (lv_at hl 6 rfl) ?_
              have hPc := hP.sub (ws' := [(h0, .inr (7, [.ref h1, .int n, x2, .ref h4])), (h1, .inl (cA, 1000, .inl (fX9_put (fX9_put (fX9_put (fX9_put (fX9_put f (w + 0) (fX7_wordAt_0 isr wh rx ry kx ky)) (w + 1) sh) (w + 2) rf) (w + 3) kf) (w + 4) ra)))]) [0, 1] rfl
              have hDc := hD.sub (ws' := [(h0, .inr (7, [.ref h1, .int n, x2, .ref h4])), (h1, .inl (cA, 1000, .inl (fX9_put (fX9_put (fX9_put (fX9_put (fX9_put f (w + 0) (fX7_wordAt_0 isr wh rx ry kx ky)) (w + 1) sh) (w + 2) rf) (w + 3) kf) (w + 4) ra)))]) [0, 1] (by decide) rfl
              have hKc := hK.sub (tys' := [(cA, .int)]) [0] rfl
              refine wk_v (β := Unit) (ok := fun _ => True) (wc := [(h0, .inr (7, [.ref h1, .int n, x2, .ref h4])), (h1, .inl (cA, 1000, .inl (fX9_put (fX9_put (fX9_put (fX9_put (fX9_put f (w + 0) (fX7_wordAt_0 isr wh rx ry kx ky)) (w + 1) sh) (w + 2) rf) (w + 3) kf) (w + 4) ra)))]) (wr := [(h4, .inr (5, [.ref h5, .ref h6, .int isr, .int wh, .int sh])), (h5, .inr (6, [.int rl, .int rf, .int ra, .int rx, .int ry])), (h6, .inr (6, [.int kl, .int kf, .int ka, .int kx, .int ky]))]) (w1 := fun _ => [(h0, .inr (7, [.ref h1, .int n, x2, .ref h4])), (h1, .inl (cA, 1000, .inl (fX9_put (fX9_put (fX9_put (fX9_put (fX9_put (fX9_put f (w + 0) (fX7_wordAt_0 isr wh rx ry kx ky)) (w + 1) sh) (w + 2) rf) (w + 3) kf) (w + 4) ra) (w + 5) ka)))]) (ws2 := fun _ => [(h0, .inr (7, [.ref h1, .int n, x2, .ref h4])), (h1, .inl (cA, 1000, .inl (fX9_put (fX9_put (fX9_put (fX9_put (fX9_put (fX9_put f (w + 0) (fX7_wordAt_0 isr wh rx ry kx ky)) (w + 1) sh) (w + 2) rf) (w + 3) kf) (w + 4) ra) (w + 5) ka))), (h4, .inr (5, [.ref h5, .ref h6, .int isr, .int wh, .int sh])), (h5, .inr (6, [.int rl, .int rf, .int ra, .int rx, .int ry])), (h6, .inr (6, [.int kl, .int kf, .int ka, .int kx, .int ky]))]) (va_runV (As := [.int (w + 5), .int ka]) (rest := []) ⟨hx, hb, hml, hown, hts⟩ (kX9_put l D H.size h0 h1 cA x2 (.ref h4) n (fX9_put (fX9_put (fX9_put (fX9_put (fX9_put f (w + 0) (fX7_wordAt_0 isr wh rx ry kx ky)) (w + 1) sh) (w + 2) rf) (w + 3) kf) (w + 4) ra) (w + 5) ka ) (cwV 2 hts gX9_store_X9_put rfl rfl rfl (by decide +kernel) ⟨Nat.le_of_ble_eq_true rfl, Nat.le_of_ble_eq_true rfl⟩) ⟨Pw_blind, (va_recv hKc hPc (ci := 7) (q0 := 0) rfl rfl), fun U hU hW => Pw_at hKc hPc hDc hN hU hW⟩ rfl rfl hl.1 rfl (lv_room (Nat.le_of_ble_eq_true rfl)) dX9_store_46 ⟨Nat.le_of_ble_eq_true rfl, Nat.le_of_ble_eq_true rfl⟩) hP hD hS hA [0, 1] [2, 3, 4] [3, 4, 0, 1, 2] rfl rfl (by decide) (by decide) (fun _ => rfl) (by decide) (fun _ _ H locs hP hD hS => ?_)
              have hP : va_P D vwCl [(h0, .inr (7, [.ref h1, .int n, x2, .ref h4])), (h1, .inl (cA, 1000, .inl (fX9_put (fX9_put (fX9_put (fX9_put (fX9_put (fX9_put f (w + 0) (fX7_wordAt_0 isr wh rx ry kx ky)) (w + 1) sh) (w + 2) rf) (w + 3) kf) (w + 4) ra) (w + 5) ka))), (h4, .inr (5, [.ref h5, .ref h6, .int isr, .int wh, .int sh])), (h5, .inr (6, [.int rl, .int rf, .int ra, .int rx, .int ry])), (h6, .inr (6, [.int kl, .int kf, .int ka, .int kx, .int ky]))] H := hP
              have hD : va_D A [(h0, .inr (7, [.ref h1, .int n, x2, .ref h4])), (h1, .inl (cA, 1000, .inl (fX9_put (fX9_put (fX9_put (fX9_put (fX9_put (fX9_put f (w + 0) (fX7_wordAt_0 isr wh rx ry kx ky)) (w + 1) sh) (w + 2) rf) (w + 3) kf) (w + 4) ra) (w + 5) ka))), (h4, .inr (5, [.ref h5, .ref h6, .int isr, .int wh, .int sh])), (h5, .inr (6, [.int rl, .int rf, .int ra, .int rx, .int ry])), (h6, .inr (6, [.int kl, .int kf, .int ka, .int kx, .int ky]))] := hD
              refine lv_iinc (v := 6) (lv' := [(5, .int 6), (0, .ref h0), (1, .int k), (2, .int w), (3, .int 6), (4, .int v_6), (6, .int ka)]) hx hb dX9_store_49 hl (k := 5) rfl (by decide) (by decide) rfl (fun ls hl => ?_)
              refine lv_goto (tgt := 6) hx hb dX9_store_52 (by decide) ?_
              refine lv_iload hx hb dX9_store_6 (lv_at hl 0 rfl) ?_
              refine lv_iload_n hx hb dX9_store_8 rfl (lv_at hl 4 rfl) ?_
              refine lv_icmp_ge (tgt := 55) hx hb dX9_store_9 (by decide) (fun _ => ?_) (fun h => absurd h (by decide))
              refine lv_iload hx hb dX9_store_55 (lv_at hl 5 rfl) ?_
              have hF : (fX9_store_6 n f isr wh sh rf ra rx ry kf ka kx ky k w) = (v_6, (fX9_put (fX9_put (fX9_put (fX9_put (fX9_put (fX9_put f (w + 0) (fX7_wordAt_0 isr wh rx ry kx ky)) (w + 1) sh) (w + 2) rf) (w + 3) kf) (w + 4) ra) (w + 5) ka)) := by subst ev_6; subst ev_5; subst ev_4; subst ev_3; subst ev_2; subst ev_1; exact rfl
              subst hAe
              subst hQe
              exact W.zret (v := v_6) hx hb hr (isB.nar (by rw [ev_6]; exact (isB.ite (by rw [ev_5]; exact (isB.ite (by rw [ev_4]; exact (isB.ite (by rw [ev_3]; exact (isB.ite (by rw [ev_2]; exact (isB.ite (by rw [ev_1]; exact (isB.ite (Or.inl rfl) (Or.inr rfl))) (Or.inr rfl))) (Or.inr rfl))) (Or.inr rfl))) (Or.inr rfl))) (Or.inr rfl)))) (fun t ht hW => ⟨⟨_, _, rfl, ⟨(), trivial, by rw [hF], by rw [hF]⟩, by rw [ht]; exact hP, hD⟩, hS.F ht⟩) hS.2.2 dX9_store_57
            refine lv_icmp_eq (tgt := 39) hx hb dX9_store_33 (by decide) (fun c33 => ?_) (fun c33 => ?_)
            · exact K39_6 _ (if_pos c33).symm ls (lv_sub hl [2, 3, 4, 5, 6, 1, 0] rfl)
            · refine lv_iconst (v := 1) hx hb dX9_store_36 (by decide) ?_
              refine lv_istore (lv' := [(4, .int 1), (6, .int ka), (5, .int 5), (0, .ref h0), (1, .int k), (2, .int w), (3, .int 6)]) hx hb dX9_store_37 hl (by decide) rfl (fun ls hl => ?_)
              exact K39_6 _ (if_neg c33).symm ls (lv_sub hl [3, 4, 5, 6, 0, 2, 1] rfl)
          refine lv_icmp_eq (tgt := 39) hx hb dX9_store_33 (by decide) (fun c33 => ?_) (fun c33 => ?_)
          · exact K39_5 _ (if_pos c33).symm ls (lv_sub hl [2, 3, 4, 5, 6, 1, 0] rfl)
          · refine lv_iconst (v := 1) hx hb dX9_store_36 (by decide) ?_
            refine lv_istore (lv' := [(4, .int 1), (6, .int ra), (5, .int 4), (0, .ref h0), (1, .int k), (2, .int w), (3, .int 6)]) hx hb dX9_store_37 hl (by decide) rfl (fun ls hl => ?_)
            exact K39_5 _ (if_neg c33).symm ls (lv_sub hl [3, 4, 5, 6, 0, 2, 1] rfl)
        refine lv_icmp_eq (tgt := 39) hx hb dX9_store_33 (by decide) (fun c33 => ?_) (fun c33 => ?_)
        · exact K39_4 _ (if_pos c33).symm ls (lv_sub hl [2, 3, 4, 5, 6, 1, 0] rfl)
        · refine lv_iconst (v := 1) hx hb dX9_store_36 (by decide) ?_
          refine lv_istore (lv' := [(4, .int 1), (6, .int kf), (5, .int 3), (0, .ref h0), (1, .int k), (2, .int w), (3, .int 6)]) hx hb dX9_store_37 hl (by decide) rfl (fun ls hl => ?_)
          exact K39_4 _ (if_neg c33).symm ls (lv_sub hl [3, 4, 5, 6, 0, 2, 1] rfl)
      refine lv_icmp_eq (tgt := 39) hx hb dX9_store_33 (by decide) (fun c33 => ?_) (fun c33 => ?_)
      · exact K39_3 _ (if_pos c33).symm ls (lv_sub hl [2, 3, 4, 5, 6, 1, 0] rfl)
      · refine lv_iconst (v := 1) hx hb dX9_store_36 (by decide) ?_
        refine lv_istore (lv' := [(4, .int 1), (6, .int rf), (5, .int 2), (0, .ref h0), (1, .int k), (2, .int w), (3, .int 6)]) hx hb dX9_store_37 hl (by decide) rfl (fun ls hl => ?_)
        exact K39_3 _ (if_neg c33).symm ls (lv_sub hl [3, 4, 5, 6, 0, 2, 1] rfl)
    refine lv_icmp_eq (tgt := 39) hx hb dX9_store_33 (by decide) (fun c33 => ?_) (fun c33 => ?_)
    · exact K39_2 _ (if_pos c33).symm ls (lv_sub hl [2, 3, 4, 5, 6, 1, 0] rfl)
    · refine lv_iconst (v := 1) hx hb dX9_store_36 (by decide) ?_
      refine lv_istore (lv' := [(4, .int 1), (6, .int sh), (5, .int 1), (0, .ref h0), (1, .int k), (2, .int w), (3, .int 6)]) hx hb dX9_store_37 hl (by decide) rfl (fun ls hl => ?_)
      exact K39_2 _ (if_neg c33).symm ls (lv_sub hl [3, 4, 5, 6, 0, 2, 1] rfl)
  refine lv_icmp_eq (tgt := 39) hx hb dX9_store_33 (by decide) (fun c33 => ?_) (fun c33 => ?_)
  · exact K39_1 _ (if_pos c33).symm ls (lv_sub hl [3, 4, 5, 6, 2, 1, 0] rfl)
  · refine lv_iconst (v := 1) hx hb dX9_store_36 (by decide) ?_
    refine lv_istore (lv' := [(4, .int 1), (6, .int (fX7_wordAt_0 isr wh rx ry kx ky)), (5, .int 0), (0, .ref h0), (1, .int k), (2, .int w), (3, .int 6)]) hx hb dX9_store_37 hl (by decide) rfl (fun ls hl => ?_)
    exact K39_1 _ (if_neg c33).symm ls (lv_sub hl [3, 4, 5, 6, 0, 2, 1] rfl)
