abbrev rmX0_init : Room := { frames := 1, cells := 0, slots := 0, locals := 12 }
abbrev qX0_init (D : va_G) (sz : Nat) (h0 : Nat) (gs : Int32) (gt : Int32) (gl : Int32) (gb : Int32) (gr : Int32) (x1 : Int32) (x2 : Int32) (x3 : Int32) (x4 : Int32) (x5 : Int32) : Array Value → State → Outcome → State → Prop := va_Qv (fun w_9 => ∃ _u : Unit, True ∧ w_9 = [(h0, .inr (0, [.int x1, .int x2, .int x3, .int x4, .int x5]))]) (Bq D (va_A [(h0, .inr (0, [.int gs, .int gt, .int gl, .int gb, .int gr]))] sz)) (va_A [(h0, .inr (0, [.int gs, .int gt, .int gl, .int gb, .int gr]))] sz)
set_option maxHeartbeats 4000000 in
set_option maxRecDepth 100000 in
theorem kX0_init (l : Launch) (D : va_G) (sz : Nat) (h0 : Nat) (gs : Int32) (gt : Int32) (gl : Int32) (gb : Int32) (gr : Int32) (x1 : Int32) (x2 : Int32) (x3 : Int32) (x4 : Int32) (x5 : Int32) : Met l yX0_init wsX0_init rmX0_init (va_Pc [.ref h0, .int x1, .int x2, .int x3, .int x4, .int x5] (Pw D [] [(h0, .inr (0, [.int gs, .int gt, .int gl, .int gb, .int gr]))] sz)) (qX0_init D sz h0 gs gt gl gb gr x1 x2 x3 x4 x5) 0 0 (va_A [(h0, .inr (0, [.int gs, .int gt, .int gl, .int gb, .int gr]))] sz) := by
  refine Met.ofW (cc := cX0_init) (maxL := 6) (ret := none) (by decide) rfl ?_
  intro p e s m args below meth c s₁ B hml hv
  obtain ⟨rfl, hsz, hP, hK, hD0, hN⟩ := hv
  have hx := B.exec
  have hb := B.bytes
  have hr := B.returns
  have hts := atoms_spec (ws := wsX0_init) B.pre
  have hown : s.vm.findClass RX0 = some m.cls := findClass_of_methodNamed B.named
  have hlocks := B.notSynchronized
  subst hsz
  have hin : meth.name = "<init>" := (name_of_methodNamed B.named B.method).1
  obtain ⟨Q, hQe⟩ : ∃ Q, Q = MQ below (qX0_init D s.heap.size h0 gs gt gl gb gr x1 x2 x3 x4 x5) ([.ref h0, .int x1, .int x2, .int x3, .int x4, .int x5] : List Value).toArray s 0 0 (va_A [(h0, .inr (0, [.int gs, .int gt, .int gl, .int gb, .int gr]))] s.heap.size) := ⟨_, rfl⟩
  rw [← hQe]
  obtain ⟨A, hAe⟩ : ∃ A, A = va_A [(h0, .inr (0, [.int gs, .int gt, .int gl, .int gb, .int gr]))] s.heap.size := ⟨_, rfl⟩
  have hD : va_D A [(h0, .inr (0, [.int gs, .int gt, .int gl, .int gb, .int gr]))] := by rw [hAe]; exact hD0.self
  have hA : ∀ q : Nat, s.heap.size ≤ q → A q := by rw [hAe]; exact mo_A
  have hS : va_S A s.heap s.heap [] := va_S.rf
  obtain ⟨H, hHe⟩ : ∃ H, H = s.heap := ⟨_, rfl⟩
  obtain ⟨locs, hLe⟩ : ∃ L : List Loc, L = [] := ⟨_, rfl⟩
  have hP : va_P D vwCl [(h0, .inr (0, [.int gs, .int gt, .int gl, .int gb, .int gr]))] H := by rw [hHe]; exact hP
  have hS : va_S A s.heap H locs := by rw [hHe, hLe]; exact hS
  have hl := lv_entry ([.ref h0, .int x1, .int x2, .int x3, .int x4, .int x5]) (n := 6) (Nat.le_of_ble_eq_true rfl)
  rw [lg_entry_eq]
  generalize (lg_sl ([.ref h0, .int x1, .int x2, .int x3, .int x4, .int x5]) ++ List.replicate (6 - (lg_sl ([.ref h0, .int x1, .int x2, .int x3, .int x4, .int x5])).length) Slot.unset).toArray = ls at hl ⊢
  have hl : lv_has ls 6 [(0, .ref h0), (1, .int x1), (2, .int x2), (3, .int x3), (4, .int x4), (5, .int x5)] := hl
  refine hStart hHe hLe ?_
  clear hHe hLe
  have w_X0 : ∀ w ∈ wsX00, w ∈ wsX0_init := by decide +kernel
  have f_7 := hts (.fieldLink RX0 7 "ReferenceMover$Area" "sheet" "I") (by decide +kernel)
  have f_13 := hts (.fieldLink RX0 13 "ReferenceMover$Area" "top" "I") (by decide +kernel)
  have f_16 := hts (.fieldLink RX0 16 "ReferenceMover$Area" "left" "I") (by decide +kernel)
  have f_19 := hts (.fieldLink RX0 19 "ReferenceMover$Area" "bottom" "I") (by decide +kernel)
  have f_22 := hts (.fieldLink RX0 22 "ReferenceMover$Area" "right" "I") (by decide +kernel)
  refine lv_aload_n hx hb dX0_init_0 rfl (lv_at hl 0 rfl) ?_
  refine W.objInit hx hb hown (hts (.methodLink RX0 1 objectInit) (by decide +kernel)) (hts (.instanceMethod objectInit) (by decide +kernel)) (hts (.code objectInit ⟨#[0xb1]⟩ 1 none) (by decide +kernel)) rfl (by rw [hml]; exact hl.1) rfl dX0_init_1 (Nat.le_of_ble_eq_true rfl) (Nat.le_of_ble_eq_true rfl) ?_
  refine W.eq (g2 := F0 m 4 ls []) rfl ?_
  refine lv_aload_n hx hb dX0_init_4 rfl (lv_at hl 0 rfl) ?_
  refine lv_iload_n hx hb dX0_init_5 rfl (lv_at hl 1 rfl) ?_
  refine va_putF (D := D) (ci := 0) (v := .int x1) (ty := .int) (C := RX0) (T := TX0) (N := 5) hx hb hts w_X0 tyX0 tyX0_ok nmX0 hown hK hP hD hS 0 rfl rfl 0 (by decide) f_7 (fun _ h9 => h9) rfl hin rfl (by decide +kernel) rfl rfl (Nat.le_of_ble_eq_true rfl) dX0_init_6 (fun H locs hP hD hS => ?_)
  have hP : va_P D vwCl [(h0, .inr (0, [.int x1, .int gt, .int gl, .int gb, .int gr]))] H := hP
  have hD : va_D A [(h0, .inr (0, [.int x1, .int gt, .int gl, .int gb, .int gr]))] := hD
  refine lv_aload_n hx hb dX0_init_9 rfl (lv_at hl 0 rfl) ?_
  refine lv_iload_n hx hb dX0_init_10 rfl (lv_at hl 2 rfl) ?_
  refine va_putF (D := D) (ci := 0) (v := .int x2) (ty := .int) (C := RX0) (T := TX0) (N := 5) hx hb hts w_X0 tyX0 tyX0_ok nmX0 hown hK hP hD hS 0 rfl rfl 1 (by decide) f_13 (fun _ h9 => h9) rfl hin rfl (by decide +kernel) rfl rfl (Nat.le_of_ble_eq_true rfl) dX0_init_11 (fun H locs hP hD hS => ?_)
  have hP : va_P D vwCl [(h0, .inr (0, [.int x1, .int x2, .int gl, .int gb, .int gr]))] H := hP
  have hD : va_D A [(h0, .inr (0, [.int x1, .int x2, .int gl, .int gb, .int gr]))] := hD
  refine lv_aload_n hx hb dX0_init_14 rfl (lv_at hl 0 rfl) ?_
  refine lv_iload_n hx hb dX0_init_15 rfl (lv_at hl 3 rfl) ?_
  refine va_putF (D := D) (ci := 0) (v := .int x3) (ty := .int) (C := RX0) (T := TX0) (N := 5) hx hb hts w_X0 tyX0 tyX0_ok nmX0 hown hK hP hD hS 0 rfl rfl 2 (by decide) f_16 (fun _ h9 => h9) rfl hin rfl (by decide +kernel) rfl rfl (Nat.le_of_ble_eq_true rfl) dX0_init_16 (fun H locs hP hD hS => ?_)
  have hP : va_P D vwCl [(h0, .inr (0, [.int x1, .int x2, .int x3, .int gb, .int gr]))] H := hP
  have hD : va_D A [(h0, .inr (0, [.int x1, .int x2, .int x3, .int gb, .int gr]))] := hD
  refine lv_aload_n hx hb dX0_init_19 rfl (lv_at hl 0 rfl) ?_
  refine lv_iload hx hb dX0_init_20 (lv_at hl 4 rfl) ?_
  refine va_putF (D := D) (ci := 0) (v := .int x4) (ty := .int) (C := RX0) (T := TX0) (N := 5) hx hb hts w_X0 tyX0 tyX0_ok nmX0 hown hK hP hD hS 0 rfl rfl 3 (by decide) f_19 (fun _ h9 => h9) rfl hin rfl (by decide +kernel) rfl rfl (Nat.le_of_ble_eq_true rfl) dX0_init_22 (fun H locs hP hD hS => ?_)
  have hP : va_P D vwCl [(h0, .inr (0, [.int x1, .int x2, .int x3, .int x4, .int gr]))] H := hP
  have hD : va_D A [(h0, .inr (0, [.int x1, .int x2, .int x3, .int x4, .int gr]))] := hD
  refine lv_aload_n hx hb dX0_init_25 rfl (lv_at hl 0 rfl) ?_
  refine lv_iload hx hb dX0_init_26 (lv_at hl 5 rfl) ?_
  refine va_putF (D := D) (ci := 0) (v := .int x5) (ty := .int) (C := RX0) (T := TX0) (N := 5) hx hb hts w_X0 tyX0 tyX0_ok nmX0 hown hK hP hD hS 0 rfl rfl 4 (by decide) f_22 (fun _ h9 => h9) rfl hin rfl (by decide +kernel) rfl rfl (Nat.le_of_ble_eq_true rfl) dX0_init_28 (fun H locs hP hD hS => ?_)
  have hP : va_P D vwCl [(h0, .inr (0, [.int x1, .int x2, .int x3, .int x4, .int x5]))] H := hP
  have hD : va_D A [(h0, .inr (0, [.int x1, .int x2, .int x3, .int x4, .int x5]))] := hD
  subst hAe
  subst hQe
  exact W.vret hx hb hr (fun t ht hW => ⟨⟨_, rfl, ⟨(), trivial, rfl⟩, by rw [ht]; exact hP, hD⟩, hS.F ht⟩) hS.2.2 dX0_init_31

def fX0_holds (gs : Int32) (gt : Int32) (gl : Int32) (gb : Int32) (gr : Int32) (sh : Int32) (rf : Int32) (ra : Int32) (kf : Int32) (ka : Int32) (x : Int32) : Int32 := if (fX7_sheetSeenFrom sh x) = gs then (if (fX8_isWithin rf ra gt gb) = 0 then 0 else (if (fX8_isWithin kf ka gl gr) = 0 then 0 else 1)) else 0
theorem zb_X0_holds (gs : Int32) (gt : Int32) (gl : Int32) (gb : Int32) (gr : Int32) (sh : Int32) (rf : Int32) (ra : Int32) (kf : Int32) (ka : Int32) (x : Int32) : isB (fX0_holds gs gt gl gb gr sh rf ra kf ka x) := by
  unfold fX0_holds
  (try dsimp only)
  repeat' split
  all_goals first | exact Or.inl rfl | exact Or.inr rfl
abbrev rmX0_holds : Room := { frames := 1, cells := 0, slots := 0, locals := 22 }
abbrev qX0_holds (D : va_G) (sz : Nat) (h0 : Nat) (gs : Int32) (gt : Int32) (gl : Int32) (gb : Int32) (gr : Int32) (h1 : Nat) (h2 : Nat) (h3 : Nat) (isr : Int32) (wh : Int32) (sh : Int32) (rl : Int32) (rf : Int32) (ra : Int32) (rx : Int32) (ry : Int32) (kl : Int32) (kf : Int32) (ka : Int32) (kx : Int32) (ky : Int32) (x : Int32) : Array Value → State → Outcome → State → Prop := vp_Si (fun r_9 => r_9 = (fX0_holds gs gt gl gb gr sh rf ra kf ka x))
set_option maxHeartbeats 4000000 in
set_option maxRecDepth 100000 in
theorem kX0_holds (l : Launch) (D : va_G) (sz : Nat) (h0 : Nat) (gs : Int32) (gt : Int32) (gl : Int32) (gb : Int32) (gr : Int32) (h1 : Nat) (h2 : Nat) (h3 : Nat) (isr : Int32) (wh : Int32) (sh : Int32) (rl : Int32) (rf : Int32) (ra : Int32) (rx : Int32) (ry : Int32) (kl : Int32) (kf : Int32) (ka : Int32) (kx : Int32) (ky : Int32) (x : Int32) : Met l yX0_holds wsX0_holds rmX0_holds (va_Pc [.ref h0, .ref h1, .int x] (Pw D [] [(h0, .inr (0, [.int gs, .int gt, .int gl, .int gb, .int gr])), (h1, .inr (5, [.ref h2, .ref h3, .int isr, .int wh, .int sh])), (h2, .inr (6, [.int rl, .int rf, .int ra, .int rx, .int ry])), (h3, .inr (6, [.int kl, .int kf, .int ka, .int kx, .int ky]))] sz)) (qX0_holds D sz h0 gs gt gl gb gr h1 h2 h3 isr wh sh rl rf ra rx ry kl kf ka kx ky x) 0 0 (fun _ => False) := by
  refine Met.ofW (cc := cX0_holds) (maxL := 3) (ret := (some .boolean)) (by decide) rfl ?_
  intro p e s m args below meth c s₁ B hml hv
  obtain ⟨rfl, hsz, hP, hK, hD0, hN⟩ := hv
  have hx := B.exec
  have hb := B.bytes
  have hr := B.returns
  have hts := atoms_spec (ws := wsX0_holds) B.pre
  have hown : s.vm.findClass RX0 = some m.cls := findClass_of_methodNamed B.named
  have hlocks := B.notSynchronized
  subst hsz
  obtain ⟨Q, hQe⟩ : ∃ Q, Q = MQ below (qX0_holds D s.heap.size h0 gs gt gl gb gr h1 h2 h3 isr wh sh rl rf ra rx ry kl kf ka kx ky x) ([.ref h0, .ref h1, .int x] : List Value).toArray s 0 0 (fun _ => False) := ⟨_, rfl⟩
  rw [← hQe]
  have hD := hD0
  have hP : va_P D vwCl [(h0, .inr (0, [.int gs, .int gt, .int gl, .int gb, .int gr])), (h1, .inr (5, [.ref h2, .ref h3, .int isr, .int wh, .int sh])), (h2, .inr (6, [.int rl, .int rf, .int ra, .int rx, .int ry])), (h3, .inr (6, [.int kl, .int kf, .int ka, .int kx, .int ky]))] s.heap := hP
  have hl := lv_entry ([.ref h0, .ref h1, .int x]) (n := 3) (Nat.le_of_ble_eq_true rfl)
  rw [lg_entry_eq]
  generalize (lg_sl ([.ref h0, .ref h1, .int x]) ++ List.replicate (3 - (lg_sl ([.ref h0, .ref h1, .int x])).length) Slot.unset).toArray = ls at hl ⊢
  have hl : lv_has ls 3 [(0, .ref h0), (1, .ref h1), (2, .int x)] := hl
  have w_X0 : ∀ w ∈ wsX00, w ∈ wsX0_holds := by decide +kernel
  have f_7 := hts (.fieldLink RX0 7 "ReferenceMover$Area" "sheet" "I") (by decide +kernel)
  have w_X7 : ∀ w ∈ wsX70, w ∈ wsX0_holds := by decide +kernel
  have f_31 := hts (.fieldLink RX0 31 "ReferenceMover$Reference" "rows" "LReferenceMover$Span;") (by decide +kernel)
  have f_13 := hts (.fieldLink RX0 13 "ReferenceMover$Area" "top" "I") (by decide +kernel)
  have f_19 := hts (.fieldLink RX0 19 "ReferenceMover$Area" "bottom" "I") (by decide +kernel)
  have f_41 := hts (.fieldLink RX0 41 "ReferenceMover$Reference" "columns" "LReferenceMover$Span;") (by decide +kernel)
  have f_16 := hts (.fieldLink RX0 16 "ReferenceMover$Area" "left" "I") (by decide +kernel)
  have f_22 := hts (.fieldLink RX0 22 "ReferenceMover$Area" "right" "I") (by decide +kernel)
  refine lv_aload_n hx hb dX0_holds_0 rfl (lv_at hl 1 rfl) ?_
  refine lv_iload_n hx hb dX0_holds_1 rfl (lv_at hl 2 rfl) ?_
  have hPc := hP.sub (ws' := [(h1, .inr (5, [.ref h2, .ref h3, .int isr, .int wh, .int sh]))]) [1] rfl
  have hDc := hD.sub (ws' := [(h1, .inr (5, [.ref h2, .ref h3, .int isr, .int wh, .int sh]))]) [1] (by decide) rfl
  have hKc := hK.sub (tys' := []) [] rfl
  refine rd_i (va_runV (As := [.int x]) (rest := []) ⟨hx, hb, hml, hown, hts⟩ (kX7_sheetSeenFrom l D s.heap.size h1 (.ref h2) (.ref h3) isr wh sh x ) (cwV 1 hts gX0_holds_X7_sheetSeenFrom rfl rfl rfl (by decide +kernel) ⟨Nat.le_of_ble_eq_true rfl, Nat.le_of_ble_eq_true rfl⟩) ⟨Pw_blind, (va_recv hKc hPc (ci := 5) (q0 := 0) rfl rfl), fun U hU hW => Pw_at hKc hPc hDc hN hU hW⟩ rfl rfl hl.1 rfl (lv_room (Nat.le_of_ble_eq_true rfl)) dX0_holds_2 ⟨Nat.le_of_ble_eq_true rfl, Nat.le_of_ble_eq_true rfl⟩) ?_
  refine lv_aload_n hx hb dX0_holds_5 rfl (lv_at hl 0 rfl) ?_
  refine va_get (D := D) (ci := 0) (v := .int gs) (C := RX0) (T := TX0) (N := 5) hx hb hts w_X0 hown hK hP 0 rfl rfl 0 (by decide) f_7 (fun _ h9 => h9) rfl dX0_holds_6 ?_
  refine lv_icmp_ne (tgt := 52) hx hb dX0_holds_9 (by decide) (fun c9 => ?_) (fun c9 => ?_)
  · refine lv_iconst (v := 0) hx hb dX0_holds_52 (by decide) ?_
    have hF : (fX0_holds gs gt gl gb gr sh rf ra kf ka x) = 0 := by exact (if_neg c9)
    subst hQe
    exact W.zret (v := 0) hx hb hr rfl (fun t ht hW => ⟨_, rfl, hF.symm, ht⟩) (fun q h => absurd h List.not_mem_nil) dX0_holds_53
  · refine lv_aload_n hx hb dX0_holds_12 rfl (lv_at hl 1 rfl) ?_
    refine va_get (D := D) (ci := 5) (v := .ref h2) (C := RX7) (T := TX7) (N := 5) hx hb hts w_X7 hown hK hP 1 rfl rfl 0 (by decide) f_31 (fun _ h9 => h9) rfl dX0_holds_13 ?_
    refine lv_aload_n hx hb dX0_holds_16 rfl (lv_at hl 0 rfl) ?_
    refine va_get (D := D) (ci := 0) (v := .int gt) (C := RX0) (T := TX0) (N := 5) hx hb hts w_X0 hown hK hP 0 rfl rfl 1 (by decide) f_13 (fun _ h9 => h9) rfl dX0_holds_17 ?_
    refine lv_aload_n hx hb dX0_holds_20 rfl (lv_at hl 0 rfl) ?_
    refine va_get (D := D) (ci := 0) (v := .int gb) (C := RX0) (T := TX0) (N := 5) hx hb hts w_X0 hown hK hP 0 rfl rfl 3 (by decide) f_19 (fun _ h9 => h9) rfl dX0_holds_21 ?_
    have hPc := hP.sub (ws' := [(h2, .inr (6, [.int rl, .int rf, .int ra, .int rx, .int ry]))]) [2] rfl
    have hDc := hD.sub (ws' := [(h2, .inr (6, [.int rl, .int rf, .int ra, .int rx, .int ry]))]) [2] (by decide) rfl
    have hKc := hK.sub (tys' := []) [] rfl
    refine rd_i (va_runV (As := [.int gt, .int gb]) (rest := []) ⟨hx, hb, hml, hown, hts⟩ (kX8_isWithin l D s.heap.size h2 rl rf ra rx ry gt gb ) (cwV 2 hts gX0_holds_X8_isWithin rfl rfl rfl (by decide +kernel) ⟨Nat.le_of_ble_eq_true rfl, Nat.le_of_ble_eq_true rfl⟩) ⟨Pw_blind, (va_recv hKc hPc (ci := 6) (q0 := 0) rfl rfl), fun U hU hW => Pw_at hKc hPc hDc hN hU hW⟩ rfl rfl hl.1 rfl (lv_room (Nat.le_of_ble_eq_true rfl)) dX0_holds_24 ⟨Nat.le_of_ble_eq_true rfl, Nat.le_of_ble_eq_true rfl⟩) ?_
    refine lv_if_eq (tgt := 52) hx hb dX0_holds_27 (by decide) (fun c27 => ?_) (fun c27 => ?_)
    · refine lv_iconst (v := 0) hx hb dX0_holds_52 (by decide) ?_
      have hF : (fX0_holds gs gt gl gb gr sh rf ra kf ka x) = 0 := by exact ((if_pos c9).trans (if_pos c27))
      subst hQe
      exact W.zret (v := 0) hx hb hr rfl (fun t ht hW => ⟨_, rfl, hF.symm, ht⟩) (fun q h => absurd h List.not_mem_nil) dX0_holds_53
    · refine lv_aload_n hx hb dX0_holds_30 rfl (lv_at hl 1 rfl) ?_
      refine va_get (D := D) (ci := 5) (v := .ref h3) (C := RX7) (T := TX7) (N := 5) hx hb hts w_X7 hown hK hP 1 rfl rfl 1 (by decide) f_41 (fun _ h9 => h9) rfl dX0_holds_31 ?_
      refine lv_aload_n hx hb dX0_holds_34 rfl (lv_at hl 0 rfl) ?_
      refine va_get (D := D) (ci := 0) (v := .int gl) (C := RX0) (T := TX0) (N := 5) hx hb hts w_X0 hown hK hP 0 rfl rfl 2 (by decide) f_16 (fun _ h9 => h9) rfl dX0_holds_35 ?_
      refine lv_aload_n hx hb dX0_holds_38 rfl (lv_at hl 0 rfl) ?_
      refine va_get (D := D) (ci := 0) (v := .int gr) (C := RX0) (T := TX0) (N := 5) hx hb hts w_X0 hown hK hP 0 rfl rfl 4 (by decide) f_22 (fun _ h9 => h9) rfl dX0_holds_39 ?_
      have hPc := hP.sub (ws' := [(h3, .inr (6, [.int kl, .int kf, .int ka, .int kx, .int ky]))]) [3] rfl
      have hDc := hD.sub (ws' := [(h3, .inr (6, [.int kl, .int kf, .int ka, .int kx, .int ky]))]) [3] (by decide) rfl
      have hKc := hK.sub (tys' := []) [] rfl
      refine rd_i (va_runV (As := [.int gl, .int gr]) (rest := []) ⟨hx, hb, hml, hown, hts⟩ (kX8_isWithin l D s.heap.size h3 kl kf ka kx ky gl gr ) (cwV 2 hts gX0_holds_X8_isWithin rfl rfl rfl (by decide +kernel) ⟨Nat.le_of_ble_eq_true rfl, Nat.le_of_ble_eq_true rfl⟩) ⟨Pw_blind, (va_recv hKc hPc (ci := 6) (q0 := 0) rfl rfl), fun U hU hW => Pw_at hKc hPc hDc hN hU hW⟩ rfl rfl hl.1 rfl (lv_room (Nat.le_of_ble_eq_true rfl)) dX0_holds_42 ⟨Nat.le_of_ble_eq_true rfl, Nat.le_of_ble_eq_true rfl⟩) ?_
      refine lv_if_eq (tgt := 52) hx hb dX0_holds_45 (by decide) (fun c45 => ?_) (fun c45 => ?_)
      · refine lv_iconst (v := 0) hx hb dX0_holds_52 (by decide) ?_
        have hF : (fX0_holds gs gt gl gb gr sh rf ra kf ka x) = 0 := by exact ((if_pos c9).trans ((if_neg c27).trans (if_pos c45)))
        subst hQe
        exact W.zret (v := 0) hx hb hr rfl (fun t ht hW => ⟨_, rfl, hF.symm, ht⟩) (fun q h => absurd h List.not_mem_nil) dX0_holds_53
      · refine lv_iconst (v := 1) hx hb dX0_holds_48 (by decide) ?_
        refine lv_goto (tgt := 53) hx hb dX0_holds_49 (by decide) ?_
        have hF : (fX0_holds gs gt gl gb gr sh rf ra kf ka x) = 1 := by exact ((if_pos c9).trans ((if_neg c27).trans (if_neg c45)))
        subst hQe
        exact W.zret (v := 1) hx hb hr rfl (fun t ht hW => ⟨_, rfl, hF.symm, ht⟩) (fun q h => absurd h List.not_mem_nil) dX0_holds_53

abbrev rmX1_init : Room := { frames := 1, cells := 0, slots := 0, locals := 12 }
abbrev qX1_init (D : va_G) (sz : Nat) (h0 : Nat) : Array Value → State → Outcome → State → Prop := va_Qv (fun w_9 => ∃ _u : Unit, True ∧ w_9 = []) (Bq D (va_A [] sz)) (va_A [] sz)
set_option maxHeartbeats 4000000 in
set_option maxRecDepth 100000 in
theorem kX1_init (l : Launch) (D : va_G) (sz : Nat) (h0 : Nat) : Met l yX1_init wsX1_init rmX1_init (va_Pc [.ref h0] (Pw D [] [] sz)) (qX1_init D sz h0) 0 0 (va_A [] sz) := by
  refine Met.ofW (cc := cX1_init) (maxL := 1) (ret := none) (by decide) rfl ?_
  intro p e s m args below meth c s₁ B hml hv
  obtain ⟨rfl, hsz, hP, hK, hD0, hN⟩ := hv
  have hx := B.exec
  have hb := B.bytes
  have hr := B.returns
  have hts := atoms_spec (ws := wsX1_init) B.pre
  have hown : s.vm.findClass RX1 = some m.cls := findClass_of_methodNamed B.named
  have hlocks := B.notSynchronized
  subst hsz
  have hin : meth.name = "<init>" := (name_of_methodNamed B.named B.method).1
  obtain ⟨Q, hQe⟩ : ∃ Q, Q = MQ below (qX1_init D s.heap.size h0) ([.ref h0] : List Value).toArray s 0 0 (va_A [] s.heap.size) := ⟨_, rfl⟩
  rw [← hQe]
  obtain ⟨A, hAe⟩ : ∃ A, A = va_A [] s.heap.size := ⟨_, rfl⟩
  have hD : va_D A [] := by rw [hAe]; exact hD0.self
  have hA : ∀ q : Nat, s.heap.size ≤ q → A q := by rw [hAe]; exact mo_A
  have hS : va_S A s.heap s.heap [] := va_S.rf
  obtain ⟨H, hHe⟩ : ∃ H, H = s.heap := ⟨_, rfl⟩
  obtain ⟨locs, hLe⟩ : ∃ L : List Loc, L = [] := ⟨_, rfl⟩
  have hP : va_P D vwCl [] H := by rw [hHe]; exact hP
  have hS : va_S A s.heap H locs := by rw [hHe, hLe]; exact hS
  have hl := lv_entry ([.ref h0]) (n := 1) (Nat.le_of_ble_eq_true rfl)
  rw [lg_entry_eq]
  generalize (lg_sl ([.ref h0]) ++ List.replicate (1 - (lg_sl ([.ref h0])).length) Slot.unset).toArray = ls at hl ⊢
  have hl : lv_has ls 1 [(0, .ref h0)] := hl
  refine hStart hHe hLe ?_
  clear hHe hLe
  refine lv_aload_n hx hb dX1_init_0 rfl (lv_at hl 0 rfl) ?_
  refine W.objInit hx hb hown (hts (.methodLink RX1 1 objectInit) (by decide +kernel)) (hts (.instanceMethod objectInit) (by decide +kernel)) (hts (.code objectInit ⟨#[0xb1]⟩ 1 none) (by decide +kernel)) rfl (by rw [hml]; exact hl.1) rfl dX1_init_1 (Nat.le_of_ble_eq_true rfl) (Nat.le_of_ble_eq_true rfl) ?_
  refine W.eq (g2 := F0 m 4 ls []) rfl ?_
  subst hAe
  subst hQe
  exact W.vret hx hb hr (fun t ht hW => ⟨⟨_, rfl, ⟨(), trivial, rfl⟩, by rw [ht]; exact hP, hD⟩, hS.F ht⟩) hS.2.2 dX1_init_4

abbrev rmX2_init : Room := { frames := 2, cells := 0, slots := 0, locals := 32 }
abbrev qX2_init (D : va_G) (sz : Nat) (h0 : Nat) (a1 : Int32) (a2 : Int32) (x : Int32) (y : Int32) : Array Value → State → Outcome → State → Prop := va_Qv (fun w_9 => ∃ _u : Unit, True ∧ w_9 = [(h0, .inr (1, [.int x, .int y]))]) (Bq D (va_A [(h0, .inr (1, [.int a1, .int a2]))] sz)) (va_A [(h0, .inr (1, [.int a1, .int a2]))] sz)
set_option maxHeartbeats 4000000 in
set_option maxRecDepth 100000 in
theorem kX2_init (l : Launch) (D : va_G) (sz : Nat) (h0 : Nat) (a1 : Int32) (a2 : Int32) (x : Int32) (y : Int32) : Met l yX2_init wsX2_init rmX2_init (va_Pc [.ref h0, .int x, .int y] (Pw D [] [(h0, .inr (1, [.int a1, .int a2]))] sz)) (qX2_init D sz h0 a1 a2 x y) 0 0 (va_A [(h0, .inr (1, [.int a1, .int a2]))] sz) := by
  refine Met.ofW (cc := cX2_init) (maxL := 3) (ret := none) (by decide) rfl ?_
  intro p e s m args below meth c s₁ B hml hv
  obtain ⟨rfl, hsz, hP, hK, hD0, hN⟩ := hv
  have hx := B.exec
  have hb := B.bytes
  have hr := B.returns
  have hts := atoms_spec (ws := wsX2_init) B.pre
  have hown : s.vm.findClass RX2 = some m.cls := findClass_of_methodNamed B.named
  have hlocks := B.notSynchronized
  subst hsz
  have hin : meth.name = "<init>" := (name_of_methodNamed B.named B.method).1
  obtain ⟨Q, hQe⟩ : ∃ Q, Q = MQ below (qX2_init D s.heap.size h0 a1 a2 x y) ([.ref h0, .int x, .int y] : List Value).toArray s 0 0 (va_A [(h0, .inr (1, [.int a1, .int a2]))] s.heap.size) := ⟨_, rfl⟩
  rw [← hQe]
  obtain ⟨A, hAe⟩ : ∃ A, A = va_A [(h0, .inr (1, [.int a1, .int a2]))] s.heap.size := ⟨_, rfl⟩
  have hD : va_D A [(h0, .inr (1, [.int a1, .int a2]))] := by rw [hAe]; exact hD0.self
  have hA : ∀ q : Nat, s.heap.size ≤ q → A q := by rw [hAe]; exact mo_A
  have hS : va_S A s.heap s.heap [] := va_S.rf
  obtain ⟨H, hHe⟩ : ∃ H, H = s.heap := ⟨_, rfl⟩
  obtain ⟨locs, hLe⟩ : ∃ L : List Loc, L = [] := ⟨_, rfl⟩
  have hP : va_P D vwCl [(h0, .inr (1, [.int a1, .int a2]))] H := by rw [hHe]; exact hP
  have hS : va_S A s.heap H locs := by rw [hHe, hLe]; exact hS
  have hl := lv_entry ([.ref h0, .int x, .int y]) (n := 3) (Nat.le_of_ble_eq_true rfl)
  rw [lg_entry_eq]
  generalize (lg_sl ([.ref h0, .int x, .int y]) ++ List.replicate (3 - (lg_sl ([.ref h0, .int x, .int y])).length) Slot.unset).toArray = ls at hl ⊢
  have hl : lv_has ls 3 [(0, .ref h0), (1, .int x), (2, .int y)] := hl
  refine hStart hHe hLe ?_
  clear hHe hLe
  have in_RX1 := hts (.initialized RX1) (by decide +kernel)
  have im_yX1_init := hts (.instanceMethod yX1_init) (by decide +kernel)
  have w_X2 : ∀ w ∈ wsX20, w ∈ wsX2_init := by decide +kernel
  have f_9 := hts (.fieldLink RX2 9 "ReferenceMover$Copying" "down" "I") (by decide +kernel)
  have f_15 := hts (.fieldLink RX2 15 "ReferenceMover$Copying" "along" "I") (by decide +kernel)
  refine lv_aload_n hx hb dX2_init_0 rfl (lv_at hl 0 rfl) ?_
  have hPc := hP.sub (ws' := []) [] rfl
  have hDc := hD.sub (ws' := []) [] (by decide) rfl
  have hKc := hK.sub (tys' := []) [] rfl
  refine wk_v (β := Unit) (ok := fun _ => True) (wc := []) (wr := [(h0, .inr (1, [.int a1, .int a2]))]) (w1 := fun _ => []) (ws2 := fun _ => [(h0, .inr (1, [.int a1, .int a2]))]) (va_runIN (As := []) (rest := []) ⟨hx, hb, hml, hown, hts⟩ (kX1_init l D H.size h0 ) ⟨va_cnB 0 hts gX2_init_X1_init_n3 rfl rfl rfl hN.2.2.1 in_RX1 (by decide +kernel) ⟨Nat.le_of_ble_eq_true rfl, Nat.le_of_ble_eq_true rfl⟩, rfl, im_yX1_init⟩ ⟨Pw_blind, fun U hU hW => Pw_at hKc hPc hDc hN hU hW⟩ rfl rfl hl.1 rfl (lv_room (Nat.le_of_ble_eq_true rfl)) dX2_init_1 ⟨Nat.le_of_ble_eq_true rfl, Nat.le_of_ble_eq_true rfl⟩) hP hD hS hA [] [0] [0] rfl rfl (by decide) (by decide) (fun _ => rfl) (by decide) (fun _ _ H locs hP hD hS => ?_)
  have hP : va_P D vwCl [(h0, .inr (1, [.int a1, .int a2]))] H := hP
  have hD : va_D A [(h0, .inr (1, [.int a1, .int a2]))] := hD
  refine lv_aload_n hx hb dX2_init_4 rfl (lv_at hl 0 rfl) ?_
  refine lv_iload_n hx hb dX2_init_5 rfl (lv_at hl 1 rfl) ?_
  refine va_putF (D := D) (ci := 1) (v := .int x) (ty := .int) (C := RX2) (T := TX2) (N := 2) hx hb hts w_X2 tyX2 tyX2_ok nmX2 hown hK hP hD hS 0 rfl rfl 0 (by decide) f_9 (fun _ h9 => h9) rfl hin rfl (by decide +kernel) rfl rfl (Nat.le_of_ble_eq_true rfl) dX2_init_6 (fun H locs hP hD hS => ?_)
  have hP : va_P D vwCl [(h0, .inr (1, [.int x, .int a2]))] H := hP
  have hD : va_D A [(h0, .inr (1, [.int x, .int a2]))] := hD
  refine lv_aload_n hx hb dX2_init_9 rfl (lv_at hl 0 rfl) ?_
  refine lv_iload_n hx hb dX2_init_10 rfl (lv_at hl 2 rfl) ?_
  refine va_putF (D := D) (ci := 1) (v := .int y) (ty := .int) (C := RX2) (T := TX2) (N := 2) hx hb hts w_X2 tyX2 tyX2_ok nmX2 hown hK hP hD hS 0 rfl rfl 1 (by decide) f_15 (fun _ h9 => h9) rfl hin rfl (by decide +kernel) rfl rfl (Nat.le_of_ble_eq_true rfl) dX2_init_11 (fun H locs hP hD hS => ?_)
  have hP : va_P D vwCl [(h0, .inr (1, [.int x, .int y]))] H := hP
  have hD : va_D A [(h0, .inr (1, [.int x, .int y]))] := hD
  subst hAe
  subst hQe
  exact W.vret hx hb hr (fun t ht hW => ⟨⟨_, rfl, ⟨(), trivial, rfl⟩, by rw [ht]; exact hP, hD⟩, hS.F ht⟩) hS.2.2 dX2_init_14

abbrev rmX3_init_4 : Room := { frames := 2, cells := 0, slots := 0, locals := 32 }
abbrev qX3_init_4 (D : va_G) (sz : Nat) (h0 : Nat) (hm : Int32) (si : Int32) (co : Int32) (at_ : Int32) (nn : Int32) (x1 : Int32) (x2 : Int32) (z : Int32) (x3 : Int32) (x4 : Int32) : Array Value → State → Outcome → State → Prop := va_Qv (fun w_9 => ∃ _u : Unit, True ∧ w_9 = [(h0, .inr (2, [.int x1, .int x2, .int z, .int x3, .int x4]))]) (Bq D (va_A [(h0, .inr (2, [.int hm, .int si, .int co, .int at_, .int nn]))] sz)) (va_A [(h0, .inr (2, [.int hm, .int si, .int co, .int at_, .int nn]))] sz)
set_option maxHeartbeats 4000000 in
set_option maxRecDepth 100000 in
theorem kX3_init_4 (l : Launch) (D : va_G) (sz : Nat) (h0 : Nat) (hm : Int32) (si : Int32) (co : Int32) (at_ : Int32) (nn : Int32) (x1 : Int32) (x2 : Int32) (z : Int32) (x3 : Int32) (x4 : Int32) (hz : isB z) : Met l yX3_init wsX3_init rmX3_init_4 (va_Pc [.ref h0, .int x1, .int x2, .int z, .int x3, .int x4] (Pw D [] [(h0, .inr (2, [.int hm, .int si, .int co, .int at_, .int nn]))] sz)) (qX3_init_4 D sz h0 hm si co at_ nn x1 x2 z x3 x4) 0 0 (va_A [(h0, .inr (2, [.int hm, .int si, .int co, .int at_, .int nn]))] sz) := by
  refine Met.ofW (cc := cX3_init) (maxL := 6) (ret := none) (by decide) rfl ?_
  intro p e s m args below meth c s₁ B hml hv
  obtain ⟨rfl, hsz, hP, hK, hD0, hN⟩ := hv
  have hx := B.exec
  have hb := B.bytes
  have hr := B.returns
  have hts := atoms_spec (ws := wsX3_init) B.pre
  have hown : s.vm.findClass RX3 = some m.cls := findClass_of_methodNamed B.named
  have hlocks := B.notSynchronized
  subst hsz
  have hin : meth.name = "<init>" := (name_of_methodNamed B.named B.method).1
  obtain ⟨Q, hQe⟩ : ∃ Q, Q = MQ below (qX3_init_4 D s.heap.size h0 hm si co at_ nn x1 x2 z x3 x4) ([.ref h0, .int x1, .int x2, .int z, .int x3, .int x4] : List Value).toArray s 0 0 (va_A [(h0, .inr (2, [.int hm, .int si, .int co, .int at_, .int nn]))] s.heap.size) := ⟨_, rfl⟩
  rw [← hQe]
  obtain ⟨A, hAe⟩ : ∃ A, A = va_A [(h0, .inr (2, [.int hm, .int si, .int co, .int at_, .int nn]))] s.heap.size := ⟨_, rfl⟩
  have hD : va_D A [(h0, .inr (2, [.int hm, .int si, .int co, .int at_, .int nn]))] := by rw [hAe]; exact hD0.self
  have hA : ∀ q : Nat, s.heap.size ≤ q → A q := by rw [hAe]; exact mo_A
  have hS : va_S A s.heap s.heap [] := va_S.rf
  obtain ⟨H, hHe⟩ : ∃ H, H = s.heap := ⟨_, rfl⟩
  obtain ⟨locs, hLe⟩ : ∃ L : List Loc, L = [] := ⟨_, rfl⟩
  have hP : va_P D vwCl [(h0, .inr (2, [.int hm, .int si, .int co, .int at_, .int nn]))] H := by rw [hHe]; exact hP
  have hS : va_S A s.heap H locs := by rw [hHe, hLe]; exact hS
  have hl := lv_entry ([.ref h0, .int x1, .int x2, .int z, .int x3, .int x4]) (n := 6) (Nat.le_of_ble_eq_true rfl)
  rw [lg_entry_eq]
  generalize (lg_sl ([.ref h0, .int x1, .int x2, .int z, .int x3, .int x4]) ++ List.replicate (6 - (lg_sl ([.ref h0, .int x1, .int x2, .int z, .int x3, .int x4])).length) Slot.unset).toArray = ls at hl ⊢
  have hl : lv_has ls 6 [(0, .ref h0), (1, .int x1), (2, .int x2), (3, .int z), (4, .int x3), (5, .int x4)] := hl
  refine hStart hHe hLe ?_
  clear hHe hLe
  have in_RX1 := hts (.initialized RX1) (by decide +kernel)
  have im_yX1_init := hts (.instanceMethod yX1_init) (by decide +kernel)
  have w_X4 : ∀ w ∈ wsX40, w ∈ wsX3_init := by decide +kernel
  have f_7 := hts (.fieldLink RX3 7 "ReferenceMover$LineChange" "home" "I") (by decide +kernel)
  have f_13 := hts (.fieldLink RX3 13 "ReferenceMover$LineChange" "sheet" "I") (by decide +kernel)
  have f_16 := hts (.fieldLink RX3 16 "ReferenceMover$LineChange" "columns" "Z") (by decide +kernel)
  have f_20 := hts (.fieldLink RX3 20 "ReferenceMover$LineChange" "at" "I") (by decide +kernel)
  have f_23 := hts (.fieldLink RX3 23 "ReferenceMover$LineChange" "n" "I") (by decide +kernel)
  refine lv_aload_n hx hb dX3_init_0 rfl (lv_at hl 0 rfl) ?_
  have hPc := hP.sub (ws' := []) [] rfl
  have hDc := hD.sub (ws' := []) [] (by decide) rfl
  have hKc := hK.sub (tys' := []) [] rfl
  refine wk_v (β := Unit) (ok := fun _ => True) (wc := []) (wr := [(h0, .inr (2, [.int hm, .int si, .int co, .int at_, .int nn]))]) (w1 := fun _ => []) (ws2 := fun _ => [(h0, .inr (2, [.int hm, .int si, .int co, .int at_, .int nn]))]) (va_runIN (As := []) (rest := []) ⟨hx, hb, hml, hown, hts⟩ (kX1_init l D H.size h0 ) ⟨va_cnB 0 hts gX3_init_X1_init_n1 rfl rfl rfl hN.2.2.2.1 in_RX1 (by decide +kernel) ⟨Nat.le_of_ble_eq_true rfl, Nat.le_of_ble_eq_true rfl⟩, rfl, im_yX1_init⟩ ⟨Pw_blind, fun U hU hW => Pw_at hKc hPc hDc hN hU hW⟩ rfl rfl hl.1 rfl (lv_room (Nat.le_of_ble_eq_true rfl)) dX3_init_1 ⟨Nat.le_of_ble_eq_true rfl, Nat.le_of_ble_eq_true rfl⟩) hP hD hS hA [] [0] [0] rfl rfl (by decide) (by decide) (fun _ => rfl) (by decide) (fun _ _ H locs hP hD hS => ?_)
  have hP : va_P D vwCl [(h0, .inr (2, [.int hm, .int si, .int co, .int at_, .int nn]))] H := hP
  have hD : va_D A [(h0, .inr (2, [.int hm, .int si, .int co, .int at_, .int nn]))] := hD
  refine lv_aload_n hx hb dX3_init_4 rfl (lv_at hl 0 rfl) ?_
  refine lv_iload_n hx hb dX3_init_5 rfl (lv_at hl 1 rfl) ?_
  refine va_putF (D := D) (ci := 2) (v := .int x1) (ty := .int) (C := RX4) (T := TX4) (N := 5) hx hb hts w_X4 tyX4 tyX4_ok nmX4 hown hK hP hD hS 0 rfl rfl 0 (by decide) f_7 (fun _ h9 => h9) rfl hin rfl (by decide +kernel) rfl rfl (Nat.le_of_ble_eq_true rfl) dX3_init_6 (fun H locs hP hD hS => ?_)
  have hP : va_P D vwCl [(h0, .inr (2, [.int x1, .int si, .int co, .int at_, .int nn]))] H := hP
  have hD : va_D A [(h0, .inr (2, [.int x1, .int si, .int co, .int at_, .int nn]))] := hD
  refine lv_aload_n hx hb dX3_init_9 rfl (lv_at hl 0 rfl) ?_
  refine lv_iload_n hx hb dX3_init_10 rfl (lv_at hl 2 rfl) ?_
  refine va_putF (D := D) (ci := 2) (v := .int x2) (ty := .int) (C := RX4) (T := TX4) (N := 5) hx hb hts w_X4 tyX4 tyX4_ok nmX4 hown hK hP hD hS 0 rfl rfl 1 (by decide) f_13 (fun _ h9 => h9) rfl hin rfl (by decide +kernel) rfl rfl (Nat.le_of_ble_eq_true rfl) dX3_init_11 (fun H locs hP hD hS => ?_)
  have hP : va_P D vwCl [(h0, .inr (2, [.int x1, .int x2, .int co, .int at_, .int nn]))] H := hP
  have hD : va_D A [(h0, .inr (2, [.int x1, .int x2, .int co, .int at_, .int nn]))] := hD
  refine lv_aload_n hx hb dX3_init_14 rfl (lv_at hl 0 rfl) ?_
  refine lv_iload_n hx hb dX3_init_15 rfl (lv_at hl 3 rfl) ?_
  refine va_putF (D := D) (ci := 2) (v := .int z) (ty := .boolean) (C := RX4) (T := TX4) (N := 5) hx hb hts w_X4 tyX4 tyX4_ok nmX4 hown hK hP hD hS 0 rfl rfl 2 (by decide) f_16 (fun _ h9 => h9) rfl hin rfl (by decide +kernel) (isB.nar (by first | assumption | (repeat' (first | assumption | exact Or.inl rfl | exact Or.inr rfl | apply isB.ite)))) (isB.fit (by first | assumption | (repeat' (first | assumption | exact Or.inl rfl | exact Or.inr rfl | apply isB.ite)))) (Nat.le_of_ble_eq_true rfl) dX3_init_16 (fun H locs hP hD hS => ?_)
  have hP : va_P D vwCl [(h0, .inr (2, [.int x1, .int x2, .int z, .int at_, .int nn]))] H := hP
  have hD : va_D A [(h0, .inr (2, [.int x1, .int x2, .int z, .int at_, .int nn]))] := hD
  refine lv_aload_n hx hb dX3_init_19 rfl (lv_at hl 0 rfl) ?_
  refine lv_iload hx hb dX3_init_20 (lv_at hl 4 rfl) ?_
  refine va_putF (D := D) (ci := 2) (v := .int x3) (ty := .int) (C := RX4) (T := TX4) (N := 5) hx hb hts w_X4 tyX4 tyX4_ok nmX4 hown hK hP hD hS 0 rfl rfl 3 (by decide) f_20 (fun _ h9 => h9) rfl hin rfl (by decide +kernel) rfl rfl (Nat.le_of_ble_eq_true rfl) dX3_init_22 (fun H locs hP hD hS => ?_)
  have hP : va_P D vwCl [(h0, .inr (2, [.int x1, .int x2, .int z, .int x3, .int nn]))] H := hP
  have hD : va_D A [(h0, .inr (2, [.int x1, .int x2, .int z, .int x3, .int nn]))] := hD
  refine lv_aload_n hx hb dX3_init_25 rfl (lv_at hl 0 rfl) ?_
  refine lv_iload hx hb dX3_init_26 (lv_at hl 5 rfl) ?_
  refine va_putF (D := D) (ci := 2) (v := .int x4) (ty := .int) (C := RX4) (T := TX4) (N := 5) hx hb hts w_X4 tyX4 tyX4_ok nmX4 hown hK hP hD hS 0 rfl rfl 4 (by decide) f_23 (fun _ h9 => h9) rfl hin rfl (by decide +kernel) rfl rfl (Nat.le_of_ble_eq_true rfl) dX3_init_28 (fun H locs hP hD hS => ?_)
  have hP : va_P D vwCl [(h0, .inr (2, [.int x1, .int x2, .int z, .int x3, .int x4]))] H := hP
  have hD : va_D A [(h0, .inr (2, [.int x1, .int x2, .int z, .int x3, .int x4]))] := hD
  subst hAe
  subst hQe
  exact W.vret hx hb hr (fun t ht hW => ⟨⟨_, rfl, ⟨(), trivial, rfl⟩, by rw [ht]; exact hP, hD⟩, hS.F ht⟩) hS.2.2 dX3_init_31

abbrev rmX4_init : Room := { frames := 3, cells := 0, slots := 0, locals := 57 }
abbrev qX4_init (D : va_G) (sz : Nat) (h0 : Nat) (hm : Int32) (si : Int32) (co : Int32) (at_ : Int32) (nn : Int32) (x1 : Int32) (x2 : Int32) (z : Int32) (x3 : Int32) (x4 : Int32) : Array Value → State → Outcome → State → Prop := va_Qv (fun w_9 => ∃ _u : Unit, True ∧ w_9 = [(h0, .inr (2, [.int x1, .int x2, .int z, .int x3, .int x4]))]) (Bq D (va_A [(h0, .inr (2, [.int hm, .int si, .int co, .int at_, .int nn]))] sz)) (va_A [(h0, .inr (2, [.int hm, .int si, .int co, .int at_, .int nn]))] sz)
set_option maxHeartbeats 4000000 in
set_option maxRecDepth 100000 in
theorem kX4_init (l : Launch) (D : va_G) (sz : Nat) (h0 : Nat) (hm : Int32) (si : Int32) (co : Int32) (at_ : Int32) (nn : Int32) (x1 : Int32) (x2 : Int32) (z : Int32) (x3 : Int32) (x4 : Int32) (hz : isB z) : Met l yX4_init wsX4_init rmX4_init (va_Pc [.ref h0, .int x1, .int x2, .int z, .int x3, .int x4] (Pw D [] [(h0, .inr (2, [.int hm, .int si, .int co, .int at_, .int nn]))] sz)) (qX4_init D sz h0 hm si co at_ nn x1 x2 z x3 x4) 0 0 (va_A [(h0, .inr (2, [.int hm, .int si, .int co, .int at_, .int nn]))] sz) := by
  refine Met.ofW (cc := cX4_init) (maxL := 6) (ret := none) (by decide) rfl ?_
  intro p e s m args below meth c s₁ B hml hv
  obtain ⟨rfl, hsz, hP, hK, hD0, hN⟩ := hv
  have hx := B.exec
  have hb := B.bytes
  have hr := B.returns
  have hts := atoms_spec (ws := wsX4_init) B.pre
  have hown : s.vm.findClass RX4 = some m.cls := findClass_of_methodNamed B.named
  have hlocks := B.notSynchronized
  subst hsz
  have hin : meth.name = "<init>" := (name_of_methodNamed B.named B.method).1
  obtain ⟨Q, hQe⟩ : ∃ Q, Q = MQ below (qX4_init D s.heap.size h0 hm si co at_ nn x1 x2 z x3 x4) ([.ref h0, .int x1, .int x2, .int z, .int x3, .int x4] : List Value).toArray s 0 0 (va_A [(h0, .inr (2, [.int hm, .int si, .int co, .int at_, .int nn]))] s.heap.size) := ⟨_, rfl⟩
  rw [← hQe]
  obtain ⟨A, hAe⟩ : ∃ A, A = va_A [(h0, .inr (2, [.int hm, .int si, .int co, .int at_, .int nn]))] s.heap.size := ⟨_, rfl⟩
  have hD : va_D A [(h0, .inr (2, [.int hm, .int si, .int co, .int at_, .int nn]))] := by rw [hAe]; exact hD0.self
  have hA : ∀ q : Nat, s.heap.size ≤ q → A q := by rw [hAe]; exact mo_A
  have hS : va_S A s.heap s.heap [] := va_S.rf
  obtain ⟨H, hHe⟩ : ∃ H, H = s.heap := ⟨_, rfl⟩
  obtain ⟨locs, hLe⟩ : ∃ L : List Loc, L = [] := ⟨_, rfl⟩
  have hP : va_P D vwCl [(h0, .inr (2, [.int hm, .int si, .int co, .int at_, .int nn]))] H := by rw [hHe]; exact hP
  have hS : va_S A s.heap H locs := by rw [hHe, hLe]; exact hS
  have hl := lv_entry ([.ref h0, .int x1, .int x2, .int z, .int x3, .int x4]) (n := 6) (Nat.le_of_ble_eq_true rfl)
  rw [lg_entry_eq]
  generalize (lg_sl ([.ref h0, .int x1, .int x2, .int z, .int x3, .int x4]) ++ List.replicate (6 - (lg_sl ([.ref h0, .int x1, .int x2, .int z, .int x3, .int x4])).length) Slot.unset).toArray = ls at hl ⊢
  have hl : lv_has ls 6 [(0, .ref h0), (1, .int x1), (2, .int x2), (3, .int z), (4, .int x3), (5, .int x4)] := hl
  refine hStart hHe hLe ?_
  clear hHe hLe
  have in_RX3 := hts (.initialized RX3) (by decide +kernel)
  have ml_1 := hts (.methodLink RX4 1 yX3_init) (by decide +kernel)
  have im_yX3_init := hts (.instanceMethod yX3_init) (by decide +kernel)
  refine lv_aload_n hx hb dX4_init_0 rfl (lv_at hl 0 rfl) ?_
  refine lv_iload_n hx hb dX4_init_1 rfl (lv_at hl 1 rfl) ?_
  refine lv_iload_n hx hb dX4_init_2 rfl (lv_at hl 2 rfl) ?_
  refine lv_iload_n hx hb dX4_init_3 rfl (lv_at hl 3 rfl) ?_
  refine lv_iload hx hb dX4_init_4 (lv_at hl 4 rfl) ?_
  refine lv_iload hx hb dX4_init_6 (lv_at hl 5 rfl) ?_
  have hPc := hP.sub (ws' := [(h0, .inr (2, [.int hm, .int si, .int co, .int at_, .int nn]))]) [0] rfl
  have hDc := hD.sub (ws' := [(h0, .inr (2, [.int hm, .int si, .int co, .int at_, .int nn]))]) [0] (by decide) rfl
  have hKc := hK.sub (tys' := []) [] rfl
  refine wk_v (β := Unit) (ok := fun _ => True) (wc := [(h0, .inr (2, [.int hm, .int si, .int co, .int at_, .int nn]))]) (wr := []) (w1 := fun _ => [(h0, .inr (2, [.int x1, .int x2, .int z, .int x3, .int x4]))]) (ws2 := fun _ => [(h0, .inr (2, [.int x1, .int x2, .int z, .int x3, .int x4]))]) (va_runI (As := [.int x1, .int x2, .int z, .int x3, .int x4]) (rest := []) ⟨hx, hb, hml, hown, hts⟩ (kX3_init_4 l D H.size h0 hm si co at_ nn x1 x2 z x3 x4 (by first | assumption | (repeat' (first | assumption | exact Or.inl rfl | exact Or.inr rfl | apply isB.ite)))) (cwI 5 hts gX4_init_X3_init rfl rfl rfl in_RX3 ml_1 im_yX3_init rfl (by decide +kernel) ⟨Nat.le_of_ble_eq_true rfl, Nat.le_of_ble_eq_true rfl⟩) ⟨Pw_blind, fun U hU hW => Pw_at hKc hPc hDc hN hU hW⟩ rfl rfl hl.1 rfl (lv_room (Nat.le_of_ble_eq_true rfl)) dX4_init_8 ⟨Nat.le_of_ble_eq_true rfl, Nat.le_of_ble_eq_true rfl⟩) hP hD hS hA [0] [] [0] rfl rfl (by decide) (by decide) (fun _ => rfl) (by decide) (fun _ _ H locs hP hD hS => ?_)
  have hP : va_P D vwCl [(h0, .inr (2, [.int x1, .int x2, .int z, .int x3, .int x4]))] H := hP
  have hD : va_D A [(h0, .inr (2, [.int x1, .int x2, .int z, .int x3, .int x4]))] := hD
  subst hAe
  subst hQe
  exact W.vret hx hb hr (fun t ht hW => ⟨⟨_, rfl, ⟨(), trivial, rfl⟩, by rw [ht]; exact hP, hD⟩, hS.F ht⟩) hS.2.2 dX4_init_11

abbrev rmX3_init_5 : Room := { frames := 2, cells := 0, slots := 0, locals := 32 }
abbrev qX3_init_5 (D : va_G) (sz : Nat) (h0 : Nat) (hm : Int32) (si : Int32) (co : Int32) (at_ : Int32) (nn : Int32) (x1 : Int32) (x2 : Int32) (z : Int32) (x3 : Int32) (x4 : Int32) : Array Value → State → Outcome → State → Prop := va_Qv (fun w_9 => ∃ _u : Unit, True ∧ w_9 = [(h0, .inr (3, [.int x1, .int x2, .int z, .int x3, .int x4]))]) (Bq D (va_A [(h0, .inr (3, [.int hm, .int si, .int co, .int at_, .int nn]))] sz)) (va_A [(h0, .inr (3, [.int hm, .int si, .int co, .int at_, .int nn]))] sz)
set_option maxHeartbeats 4000000 in
set_option maxRecDepth 100000 in
theorem kX3_init_5 (l : Launch) (D : va_G) (sz : Nat) (h0 : Nat) (hm : Int32) (si : Int32) (co : Int32) (at_ : Int32) (nn : Int32) (x1 : Int32) (x2 : Int32) (z : Int32) (x3 : Int32) (x4 : Int32) (hz : isB z) : Met l yX3_init wsX3_init rmX3_init_5 (va_Pc [.ref h0, .int x1, .int x2, .int z, .int x3, .int x4] (Pw D [] [(h0, .inr (3, [.int hm, .int si, .int co, .int at_, .int nn]))] sz)) (qX3_init_5 D sz h0 hm si co at_ nn x1 x2 z x3 x4) 0 0 (va_A [(h0, .inr (3, [.int hm, .int si, .int co, .int at_, .int nn]))] sz) := by
  refine Met.ofW (cc := cX3_init) (maxL := 6) (ret := none) (by decide) rfl ?_
  intro p e s m args below meth c s₁ B hml hv
  obtain ⟨rfl, hsz, hP, hK, hD0, hN⟩ := hv
  have hx := B.exec
  have hb := B.bytes
  have hr := B.returns
  have hts := atoms_spec (ws := wsX3_init) B.pre
  have hown : s.vm.findClass RX3 = some m.cls := findClass_of_methodNamed B.named
  have hlocks := B.notSynchronized
  subst hsz
  have hin : meth.name = "<init>" := (name_of_methodNamed B.named B.method).1
  obtain ⟨Q, hQe⟩ : ∃ Q, Q = MQ below (qX3_init_5 D s.heap.size h0 hm si co at_ nn x1 x2 z x3 x4) ([.ref h0, .int x1, .int x2, .int z, .int x3, .int x4] : List Value).toArray s 0 0 (va_A [(h0, .inr (3, [.int hm, .int si, .int co, .int at_, .int nn]))] s.heap.size) := ⟨_, rfl⟩
  rw [← hQe]
  obtain ⟨A, hAe⟩ : ∃ A, A = va_A [(h0, .inr (3, [.int hm, .int si, .int co, .int at_, .int nn]))] s.heap.size := ⟨_, rfl⟩
  have hD : va_D A [(h0, .inr (3, [.int hm, .int si, .int co, .int at_, .int nn]))] := by rw [hAe]; exact hD0.self
  have hA : ∀ q : Nat, s.heap.size ≤ q → A q := by rw [hAe]; exact mo_A
  have hS : va_S A s.heap s.heap [] := va_S.rf
  obtain ⟨H, hHe⟩ : ∃ H, H = s.heap := ⟨_, rfl⟩
  obtain ⟨locs, hLe⟩ : ∃ L : List Loc, L = [] := ⟨_, rfl⟩
  have hP : va_P D vwCl [(h0, .inr (3, [.int hm, .int si, .int co, .int at_, .int nn]))] H := by rw [hHe]; exact hP
  have hS : va_S A s.heap H locs := by rw [hHe, hLe]; exact hS
  have hl := lv_entry ([.ref h0, .int x1, .int x2, .int z, .int x3, .int x4]) (n := 6) (Nat.le_of_ble_eq_true rfl)
  rw [lg_entry_eq]
  generalize (lg_sl ([.ref h0, .int x1, .int x2, .int z, .int x3, .int x4]) ++ List.replicate (6 - (lg_sl ([.ref h0, .int x1, .int x2, .int z, .int x3, .int x4])).length) Slot.unset).toArray = ls at hl ⊢
  have hl : lv_has ls 6 [(0, .ref h0), (1, .int x1), (2, .int x2), (3, .int z), (4, .int x3), (5, .int x4)] := hl
  refine hStart hHe hLe ?_
  clear hHe hLe
  have in_RX1 := hts (.initialized RX1) (by decide +kernel)
  have im_yX1_init := hts (.instanceMethod yX1_init) (by decide +kernel)
  have w_X5 : ∀ w ∈ wsX50, w ∈ wsX3_init := by decide +kernel
  have f_7 := hts (.fieldLink RX3 7 "ReferenceMover$LineChange" "home" "I") (by decide +kernel)
  have f_13 := hts (.fieldLink RX3 13 "ReferenceMover$LineChange" "sheet" "I") (by decide +kernel)
  have f_16 := hts (.fieldLink RX3 16 "ReferenceMover$LineChange" "columns" "Z") (by decide +kernel)
  have f_20 := hts (.fieldLink RX3 20 "ReferenceMover$LineChange" "at" "I") (by decide +kernel)
  have f_23 := hts (.fieldLink RX3 23 "ReferenceMover$LineChange" "n" "I") (by decide +kernel)
  refine lv_aload_n hx hb dX3_init_0 rfl (lv_at hl 0 rfl) ?_
  have hPc := hP.sub (ws' := []) [] rfl
  have hDc := hD.sub (ws' := []) [] (by decide) rfl
  have hKc := hK.sub (tys' := []) [] rfl
  refine wk_v (β := Unit) (ok := fun _ => True) (wc := []) (wr := [(h0, .inr (3, [.int hm, .int si, .int co, .int at_, .int nn]))]) (w1 := fun _ => []) (ws2 := fun _ => [(h0, .inr (3, [.int hm, .int si, .int co, .int at_, .int nn]))]) (va_runIN (As := []) (rest := []) ⟨hx, hb, hml, hown, hts⟩ (kX1_init l D H.size h0 ) ⟨va_cnB 0 hts gX3_init_X1_init_n1 rfl rfl rfl hN.2.2.2.1 in_RX1 (by decide +kernel) ⟨Nat.le_of_ble_eq_true rfl, Nat.le_of_ble_eq_true rfl⟩, rfl, im_yX1_init⟩ ⟨Pw_blind, fun U hU hW => Pw_at hKc hPc hDc hN hU hW⟩ rfl rfl hl.1 rfl (lv_room (Nat.le_of_ble_eq_true rfl)) dX3_init_1 ⟨Nat.le_of_ble_eq_true rfl, Nat.le_of_ble_eq_true rfl⟩) hP hD hS hA [] [0] [0] rfl rfl (by decide) (by decide) (fun _ => rfl) (by decide) (fun _ _ H locs hP hD hS => ?_)
  have hP : va_P D vwCl [(h0, .inr (3, [.int hm, .int si, .int co, .int at_, .int nn]))] H := hP
  have hD : va_D A [(h0, .inr (3, [.int hm, .int si, .int co, .int at_, .int nn]))] := hD
  refine lv_aload_n hx hb dX3_init_4 rfl (lv_at hl 0 rfl) ?_
  refine lv_iload_n hx hb dX3_init_5 rfl (lv_at hl 1 rfl) ?_
  refine va_putF (D := D) (ci := 3) (v := .int x1) (ty := .int) (C := RX5) (T := TX5) (N := 5) hx hb hts w_X5 tyX5 tyX5_ok nmX5 hown hK hP hD hS 0 rfl rfl 0 (by decide) f_7 (fun _ h9 => h9) rfl hin rfl (by decide +kernel) rfl rfl (Nat.le_of_ble_eq_true rfl) dX3_init_6 (fun H locs hP hD hS => ?_)
  have hP : va_P D vwCl [(h0, .inr (3, [.int x1, .int si, .int co, .int at_, .int nn]))] H := hP
  have hD : va_D A [(h0, .inr (3, [.int x1, .int si, .int co, .int at_, .int nn]))] := hD
  refine lv_aload_n hx hb dX3_init_9 rfl (lv_at hl 0 rfl) ?_
  refine lv_iload_n hx hb dX3_init_10 rfl (lv_at hl 2 rfl) ?_
  refine va_putF (D := D) (ci := 3) (v := .int x2) (ty := .int) (C := RX5) (T := TX5) (N := 5) hx hb hts w_X5 tyX5 tyX5_ok nmX5 hown hK hP hD hS 0 rfl rfl 1 (by decide) f_13 (fun _ h9 => h9) rfl hin rfl (by decide +kernel) rfl rfl (Nat.le_of_ble_eq_true rfl) dX3_init_11 (fun H locs hP hD hS => ?_)
  have hP : va_P D vwCl [(h0, .inr (3, [.int x1, .int x2, .int co, .int at_, .int nn]))] H := hP
  have hD : va_D A [(h0, .inr (3, [.int x1, .int x2, .int co, .int at_, .int nn]))] := hD
  refine lv_aload_n hx hb dX3_init_14 rfl (lv_at hl 0 rfl) ?_
  refine lv_iload_n hx hb dX3_init_15 rfl (lv_at hl 3 rfl) ?_
  refine va_putF (D := D) (ci := 3) (v := .int z) (ty := .boolean) (C := RX5) (T := TX5) (N := 5) hx hb hts w_X5 tyX5 tyX5_ok nmX5 hown hK hP hD hS 0 rfl rfl 2 (by decide) f_16 (fun _ h9 => h9) rfl hin rfl (by decide +kernel) (isB.nar (by first | assumption | (repeat' (first | assumption | exact Or.inl rfl | exact Or.inr rfl | apply isB.ite)))) (isB.fit (by first | assumption | (repeat' (first | assumption | exact Or.inl rfl | exact Or.inr rfl | apply isB.ite)))) (Nat.le_of_ble_eq_true rfl) dX3_init_16 (fun H locs hP hD hS => ?_)
  have hP : va_P D vwCl [(h0, .inr (3, [.int x1, .int x2, .int z, .int at_, .int nn]))] H := hP
  have hD : va_D A [(h0, .inr (3, [.int x1, .int x2, .int z, .int at_, .int nn]))] := hD
  refine lv_aload_n hx hb dX3_init_19 rfl (lv_at hl 0 rfl) ?_
  refine lv_iload hx hb dX3_init_20 (lv_at hl 4 rfl) ?_
  refine va_putF (D := D) (ci := 3) (v := .int x3) (ty := .int) (C := RX5) (T := TX5) (N := 5) hx hb hts w_X5 tyX5 tyX5_ok nmX5 hown hK hP hD hS 0 rfl rfl 3 (by decide) f_20 (fun _ h9 => h9) rfl hin rfl (by decide +kernel) rfl rfl (Nat.le_of_ble_eq_true rfl) dX3_init_22 (fun H locs hP hD hS => ?_)
  have hP : va_P D vwCl [(h0, .inr (3, [.int x1, .int x2, .int z, .int x3, .int nn]))] H := hP
  have hD : va_D A [(h0, .inr (3, [.int x1, .int x2, .int z, .int x3, .int nn]))] := hD
  refine lv_aload_n hx hb dX3_init_25 rfl (lv_at hl 0 rfl) ?_
  refine lv_iload hx hb dX3_init_26 (lv_at hl 5 rfl) ?_
  refine va_putF (D := D) (ci := 3) (v := .int x4) (ty := .int) (C := RX5) (T := TX5) (N := 5) hx hb hts w_X5 tyX5 tyX5_ok nmX5 hown hK hP hD hS 0 rfl rfl 4 (by decide) f_23 (fun _ h9 => h9) rfl hin rfl (by decide +kernel) rfl rfl (Nat.le_of_ble_eq_true rfl) dX3_init_28 (fun H locs hP hD hS => ?_)
  have hP : va_P D vwCl [(h0, .inr (3, [.int x1, .int x2, .int z, .int x3, .int x4]))] H := hP
  have hD : va_D A [(h0, .inr (3, [.int x1, .int x2, .int z, .int x3, .int x4]))] := hD
  subst hAe
  subst hQe
  exact W.vret hx hb hr (fun t ht hW => ⟨⟨_, rfl, ⟨(), trivial, rfl⟩, by rw [ht]; exact hP, hD⟩, hS.F ht⟩) hS.2.2 dX3_init_31

abbrev rmX5_init : Room := { frames := 3, cells := 0, slots := 0, locals := 57 }
abbrev qX5_init (D : va_G) (sz : Nat) (h0 : Nat) (hm : Int32) (si : Int32) (co : Int32) (at_ : Int32) (nn : Int32) (x1 : Int32) (x2 : Int32) (z : Int32) (x3 : Int32) (x4 : Int32) : Array Value → State → Outcome → State → Prop := va_Qv (fun w_9 => ∃ _u : Unit, True ∧ w_9 = [(h0, .inr (3, [.int x1, .int x2, .int z, .int x3, .int x4]))]) (Bq D (va_A [(h0, .inr (3, [.int hm, .int si, .int co, .int at_, .int nn]))] sz)) (va_A [(h0, .inr (3, [.int hm, .int si, .int co, .int at_, .int nn]))] sz)
set_option maxHeartbeats 4000000 in
set_option maxRecDepth 100000 in
theorem kX5_init (l : Launch) (D : va_G) (sz : Nat) (h0 : Nat) (hm : Int32) (si : Int32) (co : Int32) (at_ : Int32) (nn : Int32) (x1 : Int32) (x2 : Int32) (z : Int32) (x3 : Int32) (x4 : Int32) (hz : isB z) : Met l yX5_init wsX5_init rmX5_init (va_Pc [.ref h0, .int x1, .int x2, .int z, .int x3, .int x4] (Pw D [] [(h0, .inr (3, [.int hm, .int si, .int co, .int at_, .int nn]))] sz)) (qX5_init D sz h0 hm si co at_ nn x1 x2 z x3 x4) 0 0 (va_A [(h0, .inr (3, [.int hm, .int si, .int co, .int at_, .int nn]))] sz) := by
  refine Met.ofW (cc := cX5_init) (maxL := 6) (ret := none) (by decide) rfl ?_
  intro p e s m args below meth c s₁ B hml hv
  obtain ⟨rfl, hsz, hP, hK, hD0, hN⟩ := hv
  have hx := B.exec
  have hb := B.bytes
  have hr := B.returns
  have hts := atoms_spec (ws := wsX5_init) B.pre
  have hown : s.vm.findClass RX5 = some m.cls := findClass_of_methodNamed B.named
  have hlocks := B.notSynchronized
  subst hsz
  have hin : meth.name = "<init>" := (name_of_methodNamed B.named B.method).1
  obtain ⟨Q, hQe⟩ : ∃ Q, Q = MQ below (qX5_init D s.heap.size h0 hm si co at_ nn x1 x2 z x3 x4) ([.ref h0, .int x1, .int x2, .int z, .int x3, .int x4] : List Value).toArray s 0 0 (va_A [(h0, .inr (3, [.int hm, .int si, .int co, .int at_, .int nn]))] s.heap.size) := ⟨_, rfl⟩
  rw [← hQe]
  obtain ⟨A, hAe⟩ : ∃ A, A = va_A [(h0, .inr (3, [.int hm, .int si, .int co, .int at_, .int nn]))] s.heap.size := ⟨_, rfl⟩
  have hD : va_D A [(h0, .inr (3, [.int hm, .int si, .int co, .int at_, .int nn]))] := by rw [hAe]; exact hD0.self
  have hA : ∀ q : Nat, s.heap.size ≤ q → A q := by rw [hAe]; exact mo_A
  have hS : va_S A s.heap s.heap [] := va_S.rf
  obtain ⟨H, hHe⟩ : ∃ H, H = s.heap := ⟨_, rfl⟩
  obtain ⟨locs, hLe⟩ : ∃ L : List Loc, L = [] := ⟨_, rfl⟩
  have hP : va_P D vwCl [(h0, .inr (3, [.int hm, .int si, .int co, .int at_, .int nn]))] H := by rw [hHe]; exact hP
  have hS : va_S A s.heap H locs := by rw [hHe, hLe]; exact hS
  have hl := lv_entry ([.ref h0, .int x1, .int x2, .int z, .int x3, .int x4]) (n := 6) (Nat.le_of_ble_eq_true rfl)
  rw [lg_entry_eq]
  generalize (lg_sl ([.ref h0, .int x1, .int x2, .int z, .int x3, .int x4]) ++ List.replicate (6 - (lg_sl ([.ref h0, .int x1, .int x2, .int z, .int x3, .int x4])).length) Slot.unset).toArray = ls at hl ⊢
  have hl : lv_has ls 6 [(0, .ref h0), (1, .int x1), (2, .int x2), (3, .int z), (4, .int x3), (5, .int x4)] := hl
  refine hStart hHe hLe ?_
  clear hHe hLe
  have in_RX3 := hts (.initialized RX3) (by decide +kernel)
  have ml_1 := hts (.methodLink RX5 1 yX3_init) (by decide +kernel)
  have im_yX3_init := hts (.instanceMethod yX3_init) (by decide +kernel)
  refine lv_aload_n hx hb dX5_init_0 rfl (lv_at hl 0 rfl) ?_
  refine lv_iload_n hx hb dX5_init_1 rfl (lv_at hl 1 rfl) ?_
  refine lv_iload_n hx hb dX5_init_2 rfl (lv_at hl 2 rfl) ?_
  refine lv_iload_n hx hb dX5_init_3 rfl (lv_at hl 3 rfl) ?_
  refine lv_iload hx hb dX5_init_4 (lv_at hl 4 rfl) ?_
  refine lv_iload hx hb dX5_init_6 (lv_at hl 5 rfl) ?_
  have hPc := hP.sub (ws' := [(h0, .inr (3, [.int hm, .int si, .int co, .int at_, .int nn]))]) [0] rfl
  have hDc := hD.sub (ws' := [(h0, .inr (3, [.int hm, .int si, .int co, .int at_, .int nn]))]) [0] (by decide) rfl
  have hKc := hK.sub (tys' := []) [] rfl
  refine wk_v (β := Unit) (ok := fun _ => True) (wc := [(h0, .inr (3, [.int hm, .int si, .int co, .int at_, .int nn]))]) (wr := []) (w1 := fun _ => [(h0, .inr (3, [.int x1, .int x2, .int z, .int x3, .int x4]))]) (ws2 := fun _ => [(h0, .inr (3, [.int x1, .int x2, .int z, .int x3, .int x4]))]) (va_runI (As := [.int x1, .int x2, .int z, .int x3, .int x4]) (rest := []) ⟨hx, hb, hml, hown, hts⟩ (kX3_init_5 l D H.size h0 hm si co at_ nn x1 x2 z x3 x4 (by first | assumption | (repeat' (first | assumption | exact Or.inl rfl | exact Or.inr rfl | apply isB.ite)))) (cwI 5 hts gX5_init_X3_init rfl rfl rfl in_RX3 ml_1 im_yX3_init rfl (by decide +kernel) ⟨Nat.le_of_ble_eq_true rfl, Nat.le_of_ble_eq_true rfl⟩) ⟨Pw_blind, fun U hU hW => Pw_at hKc hPc hDc hN hU hW⟩ rfl rfl hl.1 rfl (lv_room (Nat.le_of_ble_eq_true rfl)) dX5_init_8 ⟨Nat.le_of_ble_eq_true rfl, Nat.le_of_ble_eq_true rfl⟩) hP hD hS hA [0] [] [0] rfl rfl (by decide) (by decide) (fun _ => rfl) (by decide) (fun _ _ H locs hP hD hS => ?_)
  have hP : va_P D vwCl [(h0, .inr (3, [.int x1, .int x2, .int z, .int x3, .int x4]))] H := hP
  have hD : va_D A [(h0, .inr (3, [.int x1, .int x2, .int z, .int x3, .int x4]))] := hD
  subst hAe
  subst hQe
  exact W.vret hx hb hr (fun t ht hW => ⟨⟨_, rfl, ⟨(), trivial, rfl⟩, by rw [ht]; exact hP, hD⟩, hS.F ht⟩) hS.2.2 dX5_init_11

abbrev rmX6_init : Room := { frames := 2, cells := 0, slots := 0, locals := 32 }
abbrev qX6_init (D : va_G) (sz : Nat) (h0 : Nat) (h4 : Nat) (h5 : Nat) (a1 : Int32) (a2 : Int32) (x : Int32) (y : Int32) : Array Value → State → Outcome → State → Prop := va_Qv (fun w_9 => ∃ _u : Unit, True ∧ w_9 = [(h0, .inr (4, [.int x, .int y, .ref h4, .ref h5]))]) (Bq D (va_A [(h0, .inr (4, [.int a1, .int a2, .null, .null]))] sz)) (va_A [(h0, .inr (4, [.int a1, .int a2, .null, .null]))] sz)
set_option maxHeartbeats 4000000 in
set_option maxRecDepth 100000 in
theorem kX6_init (l : Launch) (D : va_G) (sz : Nat) (h0 : Nat) (h4 : Nat) (h5 : Nat) (a1 : Int32) (a2 : Int32) (x : Int32) (y : Int32) : Met l yX6_init wsX6_init rmX6_init (va_Pc [.ref h0, .int x, .int y, .ref h4, .ref h5] (Pw D [] [(h0, .inr (4, [.int a1, .int a2, .null, .null]))] sz)) (qX6_init D sz h0 h4 h5 a1 a2 x y) 0 0 (va_A [(h0, .inr (4, [.int a1, .int a2, .null, .null]))] sz) := by
  refine Met.ofW (cc := cX6_init) (maxL := 5) (ret := none) (by decide) rfl ?_
  intro p e s m args below meth c s₁ B hml hv
  obtain ⟨rfl, hsz, hP, hK, hD0, hN⟩ := hv
  have hx := B.exec
  have hb := B.bytes
  have hr := B.returns
  have hts := atoms_spec (ws := wsX6_init) B.pre
  have hown : s.vm.findClass RX6 = some m.cls := findClass_of_methodNamed B.named
  have hlocks := B.notSynchronized
  subst hsz
  have hin : meth.name = "<init>" := (name_of_methodNamed B.named B.method).1
  obtain ⟨Q, hQe⟩ : ∃ Q, Q = MQ below (qX6_init D s.heap.size h0 h4 h5 a1 a2 x y) ([.ref h0, .int x, .int y, .ref h4, .ref h5] : List Value).toArray s 0 0 (va_A [(h0, .inr (4, [.int a1, .int a2, .null, .null]))] s.heap.size) := ⟨_, rfl⟩
  rw [← hQe]
  obtain ⟨A, hAe⟩ : ∃ A, A = va_A [(h0, .inr (4, [.int a1, .int a2, .null, .null]))] s.heap.size := ⟨_, rfl⟩
  have hD : va_D A [(h0, .inr (4, [.int a1, .int a2, .null, .null]))] := by rw [hAe]; exact hD0.self
  have hA : ∀ q : Nat, s.heap.size ≤ q → A q := by rw [hAe]; exact mo_A
  have hS : va_S A s.heap s.heap [] := va_S.rf
  obtain ⟨H, hHe⟩ : ∃ H, H = s.heap := ⟨_, rfl⟩
  obtain ⟨locs, hLe⟩ : ∃ L : List Loc, L = [] := ⟨_, rfl⟩
  have hP : va_P D vwCl [(h0, .inr (4, [.int a1, .int a2, .null, .null]))] H := by rw [hHe]; exact hP
  have hS : va_S A s.heap H locs := by rw [hHe, hLe]; exact hS
  have hl := lv_entry ([.ref h0, .int x, .int y, .ref h4, .ref h5]) (n := 5) (Nat.le_of_ble_eq_true rfl)
  rw [lg_entry_eq]
  generalize (lg_sl ([.ref h0, .int x, .int y, .ref h4, .ref h5]) ++ List.replicate (5 - (lg_sl ([.ref h0, .int x, .int y, .ref h4, .ref h5])).length) Slot.unset).toArray = ls at hl ⊢
  have hl : lv_has ls 5 [(0, .ref h0), (1, .int x), (2, .int y), (3, .ref h4), (4, .ref h5)] := hl
  refine hStart hHe hLe ?_
  clear hHe hLe
  have in_RX1 := hts (.initialized RX1) (by decide +kernel)
  have im_yX1_init := hts (.instanceMethod yX1_init) (by decide +kernel)
  have w_X6 : ∀ w ∈ wsX60, w ∈ wsX6_init := by decide +kernel
  have f_9 := hts (.fieldLink RX6 9 "ReferenceMover$Moving" "home" "I") (by decide +kernel)
  have f_15 := hts (.fieldLink RX6 15 "ReferenceMover$Moving" "newHome" "I") (by decide +kernel)
  have f_18 := hts (.fieldLink RX6 18 "ReferenceMover$Moving" "cut" "LReferenceMover$Area;") (by decide +kernel)
  have f_22 := hts (.fieldLink RX6 22 "ReferenceMover$Moving" "target" "LReferenceMover$Area;") (by decide +kernel)
  refine lv_aload_n hx hb dX6_init_0 rfl (lv_at hl 0 rfl) ?_
  have hPc := hP.sub (ws' := []) [] rfl
  have hDc := hD.sub (ws' := []) [] (by decide) rfl
  have hKc := hK.sub (tys' := []) [] rfl
  refine wk_v (β := Unit) (ok := fun _ => True) (wc := []) (wr := [(h0, .inr (4, [.int a1, .int a2, .null, .null]))]) (w1 := fun _ => []) (ws2 := fun _ => [(h0, .inr (4, [.int a1, .int a2, .null, .null]))]) (va_runIN (As := []) (rest := []) ⟨hx, hb, hml, hown, hts⟩ (kX1_init l D H.size h0 ) ⟨va_cnB 0 hts gX6_init_X1_init_n3 rfl rfl rfl hN.2.2.2.2.1 in_RX1 (by decide +kernel) ⟨Nat.le_of_ble_eq_true rfl, Nat.le_of_ble_eq_true rfl⟩, rfl, im_yX1_init⟩ ⟨Pw_blind, fun U hU hW => Pw_at hKc hPc hDc hN hU hW⟩ rfl rfl hl.1 rfl (lv_room (Nat.le_of_ble_eq_true rfl)) dX6_init_1 ⟨Nat.le_of_ble_eq_true rfl, Nat.le_of_ble_eq_true rfl⟩) hP hD hS hA [] [0] [0] rfl rfl (by decide) (by decide) (fun _ => rfl) (by decide) (fun _ _ H locs hP hD hS => ?_)
  have hP : va_P D vwCl [(h0, .inr (4, [.int a1, .int a2, .null, .null]))] H := hP
  have hD : va_D A [(h0, .inr (4, [.int a1, .int a2, .null, .null]))] := hD
  refine lv_aload_n hx hb dX6_init_4 rfl (lv_at hl 0 rfl) ?_
  refine lv_iload_n hx hb dX6_init_5 rfl (lv_at hl 1 rfl) ?_
  refine va_putF (D := D) (ci := 4) (v := .int x) (ty := .int) (C := RX6) (T := TX6) (N := 4) hx hb hts w_X6 tyX6 tyX6_ok nmX6 hown hK hP hD hS 0 rfl rfl 0 (by decide) f_9 (fun _ h9 => h9) rfl hin rfl (by decide +kernel) rfl rfl (Nat.le_of_ble_eq_true rfl) dX6_init_6 (fun H locs hP hD hS => ?_)
  have hP : va_P D vwCl [(h0, .inr (4, [.int x, .int a2, .null, .null]))] H := hP
  have hD : va_D A [(h0, .inr (4, [.int x, .int a2, .null, .null]))] := hD
  refine lv_aload_n hx hb dX6_init_9 rfl (lv_at hl 0 rfl) ?_
  refine lv_iload_n hx hb dX6_init_10 rfl (lv_at hl 2 rfl) ?_
  refine va_putF (D := D) (ci := 4) (v := .int y) (ty := .int) (C := RX6) (T := TX6) (N := 4) hx hb hts w_X6 tyX6 tyX6_ok nmX6 hown hK hP hD hS 0 rfl rfl 1 (by decide) f_15 (fun _ h9 => h9) rfl hin rfl (by decide +kernel) rfl rfl (Nat.le_of_ble_eq_true rfl) dX6_init_11 (fun H locs hP hD hS => ?_)
  have hP : va_P D vwCl [(h0, .inr (4, [.int x, .int y, .null, .null]))] H := hP
  have hD : va_D A [(h0, .inr (4, [.int x, .int y, .null, .null]))] := hD
  refine lv_aload_n hx hb dX6_init_14 rfl (lv_at hl 0 rfl) ?_
  refine lv_aload_n hx hb dX6_init_15 rfl (lv_at hl 3 rfl) ?_
  refine va_putF (D := D) (ci := 4) (v := .ref h4) (ty := (.object "ReferenceMover$Area")) (C := RX6) (T := TX6) (N := 4) hx hb hts w_X6 tyX6 tyX6_ok nmX6 hown hK hP hD hS 0 rfl rfl 2 (by decide) f_18 (fun _ h9 => h9) rfl hin rfl (by decide +kernel) rfl rfl (Nat.le_of_ble_eq_true rfl) dX6_init_16 (fun H locs hP hD hS => ?_)
  have hP : va_P D vwCl [(h0, .inr (4, [.int x, .int y, .ref h4, .null]))] H := hP
  have hD : va_D A [(h0, .inr (4, [.int x, .int y, .ref h4, .null]))] := hD
  refine lv_aload_n hx hb dX6_init_19 rfl (lv_at hl 0 rfl) ?_
  refine lv_aload hx hb dX6_init_20 (lv_at hl 4 rfl) ?_
  refine va_putF (D := D) (ci := 4) (v := .ref h5) (ty := (.object "ReferenceMover$Area")) (C := RX6) (T := TX6) (N := 4) hx hb hts w_X6 tyX6 tyX6_ok nmX6 hown hK hP hD hS 0 rfl rfl 3 (by decide) f_22 (fun _ h9 => h9) rfl hin rfl (by decide +kernel) rfl rfl (Nat.le_of_ble_eq_true rfl) dX6_init_22 (fun H locs hP hD hS => ?_)
  have hP : va_P D vwCl [(h0, .inr (4, [.int x, .int y, .ref h4, .ref h5]))] H := hP
  have hD : va_D A [(h0, .inr (4, [.int x, .int y, .ref h4, .ref h5]))] := hD
  subst hAe
  subst hQe
  exact W.vret hx hb hr (fun t ht hW => ⟨⟨_, rfl, ⟨(), trivial, rfl⟩, by rw [ht]; exact hP, hD⟩, hS.F ht⟩) hS.2.2 dX6_init_25

def fX2_keeps (dn : Int32) (al : Int32) (wh : Int32) (rl : Int32) (rf : Int32) (ra : Int32) (rx : Int32) (ry : Int32) (kl : Int32) (kf : Int32) (ka : Int32) (kx : Int32) (ky : Int32) : Int32 × Int32 × Int32 × Int32 × Int32 × Int32 × Int32 × Int32 × Int32 := if (fX9_has wh 16) = 0 then (if (fX8_shiftLoose rl rf ra rx ry dn).1 = 0 then ((0, (fX8_shiftLoose rl rf ra rx ry dn).2.1, (fX8_shiftLoose rl rf ra rx ry dn).2.2.1, (fX8_shiftLoose rl rf ra rx ry dn).2.2.2.1, (fX8_shiftLoose rl rf ra rx ry dn).2.2.2.2, kf, ka, kx, ky)) else (if (fX9_has wh 32) = 0 then (if (fX8_shiftLoose kl kf ka kx ky al).1 = 0 then ((0, (fX8_shiftLoose rl rf ra rx ry dn).2.1, (fX8_shiftLoose rl rf ra rx ry dn).2.2.1, (fX8_shiftLoose rl rf ra rx ry dn).2.2.2.1, (fX8_shiftLoose rl rf ra rx ry dn).2.2.2.2, (fX8_shiftLoose kl kf ka kx ky al).2.1, (fX8_shiftLoose kl kf ka kx ky al).2.2.1, (fX8_shiftLoose kl kf ka kx ky al).2.2.2.1, (fX8_shiftLoose kl kf ka kx ky al).2.2.2.2)) else ((1, (fX8_shiftLoose rl rf ra rx ry dn).2.1, (fX8_shiftLoose rl rf ra rx ry dn).2.2.1, (fX8_shiftLoose rl rf ra rx ry dn).2.2.2.1, (fX8_shiftLoose rl rf ra rx ry dn).2.2.2.2, (fX8_shiftLoose kl kf ka kx ky al).2.1, (fX8_shiftLoose kl kf ka kx ky al).2.2.1, (fX8_shiftLoose kl kf ka kx ky al).2.2.2.1, (fX8_shiftLoose kl kf ka kx ky al).2.2.2.2))) else ((1, (fX8_shiftLoose rl rf ra rx ry dn).2.1, (fX8_shiftLoose rl rf ra rx ry dn).2.2.1, (fX8_shiftLoose rl rf ra rx ry dn).2.2.2.1, (fX8_shiftLoose rl rf ra rx ry dn).2.2.2.2, kf, ka, kx, ky)))) else (if (fX9_has wh 32) = 0 then (if (fX8_shiftLoose kl kf ka kx ky al).1 = 0 then ((0, rf, ra, rx, ry, (fX8_shiftLoose kl kf ka kx ky al).2.1, (fX8_shiftLoose kl kf ka kx ky al).2.2.1, (fX8_shiftLoose kl kf ka kx ky al).2.2.2.1, (fX8_shiftLoose kl kf ka kx ky al).2.2.2.2)) else ((1, rf, ra, rx, ry, (fX8_shiftLoose kl kf ka kx ky al).2.1, (fX8_shiftLoose kl kf ka kx ky al).2.2.1, (fX8_shiftLoose kl kf ka kx ky al).2.2.2.1, (fX8_shiftLoose kl kf ka kx ky al).2.2.2.2))) else (1, rf, ra, rx, ry, kf, ka, kx, ky))
theorem zb_X2_keeps (dn : Int32) (al : Int32) (wh : Int32) (rl : Int32) (rf : Int32) (ra : Int32) (rx : Int32) (ry : Int32) (kl : Int32) (kf : Int32) (ka : Int32) (kx : Int32) (ky : Int32) : isB (fX2_keeps dn al wh rl rf ra rx ry kl kf ka kx ky).1 := by
  unfold fX2_keeps
  (try dsimp only)
  repeat' split
  all_goals first | exact Or.inl rfl | exact Or.inr rfl
abbrev rmX2_keeps : Room := { frames := 3, cells := 0, slots := 0, locals := 65 }
abbrev qX2_keeps (D : va_G) (sz : Nat) (h0 : Nat) (dn : Int32) (al : Int32) (h1 : Nat) (h2 : Nat) (h3 : Nat) (isr : Int32) (wh : Int32) (sh : Int32) (rl : Int32) (rf : Int32) (ra : Int32) (rx : Int32) (ry : Int32) (kl : Int32) (kf : Int32) (ka : Int32) (kx : Int32) (ky : Int32) : Array Value → State → Outcome → State → Prop := va_Qi (fun r_9 w_9 => ∃ _u : Unit, True ∧ r_9 = (fX2_keeps dn al wh rl rf ra rx ry kl kf ka kx ky).1 ∧ w_9 = [(h0, .inr (1, [.int dn, .int al])), (h1, .inr (5, [.ref h2, .ref h3, .int isr, .int wh, .int sh])), (h2, .inr (6, [.int rl, .int (fX2_keeps dn al wh rl rf ra rx ry kl kf ka kx ky).2.1, .int (fX2_keeps dn al wh rl rf ra rx ry kl kf ka kx ky).2.2.1, .int (fX2_keeps dn al wh rl rf ra rx ry kl kf ka kx ky).2.2.2.1, .int (fX2_keeps dn al wh rl rf ra rx ry kl kf ka kx ky).2.2.2.2.1])), (h3, .inr (6, [.int kl, .int (fX2_keeps dn al wh rl rf ra rx ry kl kf ka kx ky).2.2.2.2.2.1, .int (fX2_keeps dn al wh rl rf ra rx ry kl kf ka kx ky).2.2.2.2.2.2.1, .int (fX2_keeps dn al wh rl rf ra rx ry kl kf ka kx ky).2.2.2.2.2.2.2.1, .int (fX2_keeps dn al wh rl rf ra rx ry kl kf ka kx ky).2.2.2.2.2.2.2.2]))]) (Bq D (va_A [(h0, .inr (1, [.int dn, .int al])), (h1, .inr (5, [.ref h2, .ref h3, .int isr, .int wh, .int sh])), (h2, .inr (6, [.int rl, .int rf, .int ra, .int rx, .int ry])), (h3, .inr (6, [.int kl, .int kf, .int ka, .int kx, .int ky]))] sz)) (va_A [(h0, .inr (1, [.int dn, .int al])), (h1, .inr (5, [.ref h2, .ref h3, .int isr, .int wh, .int sh])), (h2, .inr (6, [.int rl, .int rf, .int ra, .int rx, .int ry])), (h3, .inr (6, [.int kl, .int kf, .int ka, .int kx, .int ky]))] sz)
set_option maxHeartbeats 4000000 in
set_option maxRecDepth 100000 in
theorem kX2_keeps (l : Launch) (D : va_G) (sz : Nat) (h0 : Nat) (dn : Int32) (al : Int32) (h1 : Nat) (h2 : Nat) (h3 : Nat) (isr : Int32) (wh : Int32) (sh : Int32) (rl : Int32) (rf : Int32) (ra : Int32) (rx : Int32) (ry : Int32) (kl : Int32) (kf : Int32) (ka : Int32) (kx : Int32) (ky : Int32) (b1 : isB rx) (b2 : isB ry) (b3 : isB kx) (b4 : isB ky) : Met l yX2_keeps wsX2_keeps rmX2_keeps (va_Pc [.ref h0, .ref h1] (Pw D [] [(h0, .inr (1, [.int dn, .int al])), (h1, .inr (5, [.ref h2, .ref h3, .int isr, .int wh, .int sh])), (h2, .inr (6, [.int rl, .int rf, .int ra, .int rx, .int ry])), (h3, .inr (6, [.int kl, .int kf, .int ka, .int kx, .int ky]))] sz)) (qX2_keeps D sz h0 dn al h1 h2 h3 isr wh sh rl rf ra rx ry kl kf ka kx ky) 0 0 (va_A [(h0, .inr (1, [.int dn, .int al])), (h1, .inr (5, [.ref h2, .ref h3, .int isr, .int wh, .int sh])), (h2, .inr (6, [.int rl, .int rf, .int ra, .int rx, .int ry])), (h3, .inr (6, [.int kl, .int kf, .int ka, .int kx, .int ky]))] sz) := by
  refine Met.ofW (cc := cX2_keeps) (maxL := 2) (ret := (some .boolean)) (by decide) rfl ?_
  intro p e s m args below meth c s₁ B hml hv
  obtain ⟨rfl, hsz, hP, hK, hD0, hN⟩ := hv
  have hx := B.exec
  have hb := B.bytes
  have hr := B.returns
  have hts := atoms_spec (ws := wsX2_keeps) B.pre
  have hown : s.vm.findClass RX2 = some m.cls := findClass_of_methodNamed B.named
  have hlocks := B.notSynchronized
  subst hsz
  obtain ⟨Q, hQe⟩ : ∃ Q, Q = MQ below (qX2_keeps D s.heap.size h0 dn al h1 h2 h3 isr wh sh rl rf ra rx ry kl kf ka kx ky) ([.ref h0, .ref h1] : List Value).toArray s 0 0 (va_A [(h0, .inr (1, [.int dn, .int al])), (h1, .inr (5, [.ref h2, .ref h3, .int isr, .int wh, .int sh])), (h2, .inr (6, [.int rl, .int rf, .int ra, .int rx, .int ry])), (h3, .inr (6, [.int kl, .int kf, .int ka, .int kx, .int ky]))] s.heap.size) := ⟨_, rfl⟩
  rw [← hQe]
  obtain ⟨A, hAe⟩ : ∃ A, A = va_A [(h0, .inr (1, [.int dn, .int al])), (h1, .inr (5, [.ref h2, .ref h3, .int isr, .int wh, .int sh])), (h2, .inr (6, [.int rl, .int rf, .int ra, .int rx, .int ry])), (h3, .inr (6, [.int kl, .int kf, .int ka, .int kx, .int ky]))] s.heap.size := ⟨_, rfl⟩
  have hD : va_D A [(h0, .inr (1, [.int dn, .int al])), (h1, .inr (5, [.ref h2, .ref h3, .int isr, .int wh, .int sh])), (h2, .inr (6, [.int rl, .int rf, .int ra, .int rx, .int ry])), (h3, .inr (6, [.int kl, .int kf, .int ka, .int kx, .int ky]))] := by rw [hAe]; exact hD0.self
  have hA : ∀ q : Nat, s.heap.size ≤ q → A q := by rw [hAe]; exact mo_A
  have hS : va_S A s.heap s.heap [] := va_S.rf
  obtain ⟨H, hHe⟩ : ∃ H, H = s.heap := ⟨_, rfl⟩
  obtain ⟨locs, hLe⟩ : ∃ L : List Loc, L = [] := ⟨_, rfl⟩
  have hP : va_P D vwCl [(h0, .inr (1, [.int dn, .int al])), (h1, .inr (5, [.ref h2, .ref h3, .int isr, .int wh, .int sh])), (h2, .inr (6, [.int rl, .int rf, .int ra, .int rx, .int ry])), (h3, .inr (6, [.int kl, .int kf, .int ka, .int kx, .int ky]))] H := by rw [hHe]; exact hP
  have hS : va_S A s.heap H locs := by rw [hHe, hLe]; exact hS
  have hl := lv_entry ([.ref h0, .ref h1]) (n := 2) (Nat.le_of_ble_eq_true rfl)
  rw [lg_entry_eq]
  generalize (lg_sl ([.ref h0, .ref h1]) ++ List.replicate (2 - (lg_sl ([.ref h0, .ref h1])).length) Slot.unset).toArray = ls at hl ⊢
  have hl : lv_has ls 2 [(0, .ref h0), (1, .ref h1)] := hl
  refine hStart hHe hLe ?_
  clear hHe hLe
  have w_X7 : ∀ w ∈ wsX70, w ∈ wsX2_keeps := by decide +kernel
  have f_18 := hts (.fieldLink RX2 18 "ReferenceMover$Reference" "whole" "I") (by decide +kernel)
  have in_RX9 := hts (.initialized RX9) (by decide +kernel)
  have st_yX9_has := hts (.static yX9_has) (by decide +kernel)
  have f_37 := hts (.fieldLink RX2 37 "ReferenceMover$Reference" "columns" "LReferenceMover$Span;") (by decide +kernel)
  have w_X2 : ∀ w ∈ wsX20, w ∈ wsX2_keeps := by decide +kernel
  have f_15 := hts (.fieldLink RX2 15 "ReferenceMover$Copying" "along" "I") (by decide +kernel)
  have f_27 := hts (.fieldLink RX2 27 "ReferenceMover$Reference" "rows" "LReferenceMover$Span;") (by decide +kernel)
  have f_9 := hts (.fieldLink RX2 9 "ReferenceMover$Copying" "down" "I") (by decide +kernel)
  refine lv_aload_n hx hb dX2_keeps_0 rfl (lv_at hl 1 rfl) ?_
  refine va_get (D := D) (ci := 5) (v := .int wh) (C := RX7) (T := TX7) (N := 5) hx hb hts w_X7 hown hK hP 1 rfl rfl 3 (by decide) f_18 (fun _ h9 => h9) rfl dX2_keeps_1 ?_
  refine lv_bipush (v := 16) hx hb dX2_keeps_4 (by decide) ?_
  have hPc := hP.sub (ws' := []) [] rfl
  have hDc := hD.sub (ws' := []) [] (by decide) rfl
  have hKc := hK.sub (tys' := []) [] rfl
  refine rd_i (va_runSN (As := [.int wh, .int 16]) (rest := []) ⟨hx, hb, hml, hown, hts⟩ (kX9_has l D H.size wh 16 ) ⟨va_cnB 2 hts gX2_keeps_X9_has_n23 rfl rfl rfl hN.2.1 in_RX9 (by decide +kernel) ⟨Nat.le_of_ble_eq_true rfl, Nat.le_of_ble_eq_true rfl⟩, st_yX9_has, trivial⟩ ⟨Pw_blind, fun U hU hW => Pw_at hKc hPc hDc hN hU hW⟩ rfl rfl hl.1 rfl (lv_room (Nat.le_of_ble_eq_true rfl)) dX2_keeps_6 ⟨Nat.le_of_ble_eq_true rfl, Nat.le_of_ble_eq_true rfl⟩) ?_
  refine lv_if_ne (tgt := 26) hx hb dX2_keeps_9 (by decide) (fun c9 => ?_) (fun c9 => ?_)
  · refine lv_aload_n hx hb dX2_keeps_26 rfl (lv_at hl 1 rfl) ?_
    refine va_get (D := D) (ci := 5) (v := .int wh) (C := RX7) (T := TX7) (N := 5) hx hb hts w_X7 hown hK hP 1 rfl rfl 3 (by decide) f_18 (fun _ h9 => h9) rfl dX2_keeps_27 ?_
    refine lv_bipush (v := 32) hx hb dX2_keeps_30 (by decide) ?_
    have hPc := hP.sub (ws' := []) [] rfl
    have hDc := hD.sub (ws' := []) [] (by decide) rfl
    have hKc := hK.sub (tys' := []) [] rfl
    refine rd_i (va_runSN (As := [.int wh, .int 32]) (rest := []) ⟨hx, hb, hml, hown, hts⟩ (kX9_has l D H.size wh 32 ) ⟨va_cnB 2 hts gX2_keeps_X9_has_n23 rfl rfl rfl hN.2.1 in_RX9 (by decide +kernel) ⟨Nat.le_of_ble_eq_true rfl, Nat.le_of_ble_eq_true rfl⟩, st_yX9_has, trivial⟩ ⟨Pw_blind, fun U hU hW => Pw_at hKc hPc hDc hN hU hW⟩ rfl rfl hl.1 rfl (lv_room (Nat.le_of_ble_eq_true rfl)) dX2_keeps_32 ⟨Nat.le_of_ble_eq_true rfl, Nat.le_of_ble_eq_true rfl⟩) ?_
    refine lv_if_ne (tgt := 52) hx hb dX2_keeps_35 (by decide) (fun c35 => ?_) (fun c35 => ?_)
    · refine lv_iconst (v := 1) hx hb dX2_keeps_52 (by decide) ?_
      refine lv_goto (tgt := 57) hx hb dX2_keeps_53 (by decide) ?_
      have hF : (fX2_keeps dn al wh rl rf ra rx ry kl kf ka kx ky) = (1, rf, ra, rx, ry, kf, ka, kx, ky) := by exact ((if_neg c9).trans (if_neg c35))
      subst hAe
      subst hQe
      exact W.zret (v := 1) hx hb hr rfl (fun t ht hW => ⟨⟨_, _, rfl, ⟨(), trivial, by rw [hF], by rw [hF]⟩, by rw [ht]; exact hP, hD⟩, hS.F ht⟩) hS.2.2 dX2_keeps_57
    · refine lv_aload_n hx hb dX2_keeps_38 rfl (lv_at hl 1 rfl) ?_
      refine va_get (D := D) (ci := 5) (v := .ref h3) (C := RX7) (T := TX7) (N := 5) hx hb hts w_X7 hown hK hP 1 rfl rfl 1 (by decide) f_37 (fun _ h9 => h9) rfl dX2_keeps_39 ?_
      refine lv_aload_n hx hb dX2_keeps_42 rfl (lv_at hl 0 rfl) ?_
      refine va_get (D := D) (ci := 1) (v := .int al) (C := RX2) (T := TX2) (N := 2) hx hb hts w_X2 hown hK hP 0 rfl rfl 1 (by decide) f_15 (fun _ h9 => h9) rfl dX2_keeps_43 ?_
      have hPc := hP.sub (ws' := [(h3, .inr (6, [.int kl, .int kf, .int ka, .int kx, .int ky]))]) [3] rfl
      have hDc := hD.sub (ws' := [(h3, .inr (6, [.int kl, .int kf, .int ka, .int kx, .int ky]))]) [3] (by decide) rfl
      have hKc := hK.sub (tys' := []) [] rfl
      refine wk_i (β := Unit) (ok := fun _ => True) (wc := [(h3, .inr (6, [.int kl, .int kf, .int ka, .int kx, .int ky]))]) (wr := [(h0, .inr (1, [.int dn, .int al])), (h1, .inr (5, [.ref h2, .ref h3, .int isr, .int wh, .int sh])), (h2, .inr (6, [.int rl, .int rf, .int ra, .int rx, .int ry]))]) (w1 := fun _ => [(h3, .inr (6, [.int kl, .int (fX8_shiftLoose kl kf ka kx ky al).2.1, .int (fX8_shiftLoose kl kf ka kx ky al).2.2.1, .int (fX8_shiftLoose kl kf ka kx ky al).2.2.2.1, .int (fX8_shiftLoose kl kf ka kx ky al).2.2.2.2]))]) (ws2 := fun _ => [(h0, .inr (1, [.int dn, .int al])), (h1, .inr (5, [.ref h2, .ref h3, .int isr, .int wh, .int sh])), (h2, .inr (6, [.int rl, .int rf, .int ra, .int rx, .int ry])), (h3, .inr (6, [.int kl, .int (fX8_shiftLoose kl kf ka kx ky al).2.1, .int (fX8_shiftLoose kl kf ka kx ky al).2.2.1, .int (fX8_shiftLoose kl kf ka kx ky al).2.2.2.1, .int (fX8_shiftLoose kl kf ka kx ky al).2.2.2.2]))]) (r1 := fun _ => (fX8_shiftLoose kl kf ka kx ky al).1) (va_runV (As := [.int al]) (rest := []) ⟨hx, hb, hml, hown, hts⟩ (kX8_shiftLoose l D H.size h3 kl kf ka kx ky al (by first | assumption | (repeat' (first | assumption | exact Or.inl rfl | exact Or.inr rfl | apply isB.ite))) (by first | assumption | (repeat' (first | assumption | exact Or.inl rfl | exact Or.inr rfl | apply isB.ite)))) (cwV 1 hts gX2_keeps_X8_shiftLoose rfl rfl rfl (by decide +kernel) ⟨Nat.le_of_ble_eq_true rfl, Nat.le_of_ble_eq_true rfl⟩) ⟨Pw_blind, (va_recv hKc hPc (ci := 6) (q0 := 0) rfl rfl), fun U hU hW => Pw_at hKc hPc hDc hN hU hW⟩ rfl rfl hl.1 rfl (lv_room (Nat.le_of_ble_eq_true rfl)) dX2_keeps_46 ⟨Nat.le_of_ble_eq_true rfl, Nat.le_of_ble_eq_true rfl⟩) hP hD hS hA [3] [0, 1, 2] [0, 1, 2, 3] rfl rfl (by decide) (by decide) (fun _ => rfl) (by decide) (fun _ _ H locs hP hD hS => ?_)
      have hP : va_P D vwCl [(h0, .inr (1, [.int dn, .int al])), (h1, .inr (5, [.ref h2, .ref h3, .int isr, .int wh, .int sh])), (h2, .inr (6, [.int rl, .int rf, .int ra, .int rx, .int ry])), (h3, .inr (6, [.int kl, .int (fX8_shiftLoose kl kf ka kx ky al).2.1, .int (fX8_shiftLoose kl kf ka kx ky al).2.2.1, .int (fX8_shiftLoose kl kf ka kx ky al).2.2.2.1, .int (fX8_shiftLoose kl kf ka kx ky al).2.2.2.2]))] H := hP
      have hD : va_D A [(h0, .inr (1, [.int dn, .int al])), (h1, .inr (5, [.ref h2, .ref h3, .int isr, .int wh, .int sh])), (h2, .inr (6, [.int rl, .int rf, .int ra, .int rx, .int ry])), (h3, .inr (6, [.int kl, .int (fX8_shiftLoose kl kf ka kx ky al).2.1, .int (fX8_shiftLoose kl kf ka kx ky al).2.2.1, .int (fX8_shiftLoose kl kf ka kx ky al).2.2.2.1, .int (fX8_shiftLoose kl kf ka kx ky al).2.2.2.2]))] := hD
      refine lv_if_eq (tgt := 56) hx hb dX2_keeps_49 (by decide) (fun c49 => ?_) (fun c49 => ?_)
      · refine lv_iconst (v := 0) hx hb dX2_keeps_56 (by decide) ?_
        have hF : (fX2_keeps dn al wh rl rf ra rx ry kl kf ka kx ky) = (0, rf, ra, rx, ry, (fX8_shiftLoose kl kf ka kx ky al).2.1, (fX8_shiftLoose kl kf ka kx ky al).2.2.1, (fX8_shiftLoose kl kf ka kx ky al).2.2.2.1, (fX8_shiftLoose kl kf ka kx ky al).2.2.2.2) := by exact ((if_neg c9).trans ((if_pos c35).trans (if_pos c49)))
        subst hAe
        subst hQe
        exact W.zret (v := 0) hx hb hr rfl (fun t ht hW => ⟨⟨_, _, rfl, ⟨(), trivial, by rw [hF], by rw [hF]⟩, by rw [ht]; exact hP, hD⟩, hS.F ht⟩) hS.2.2 dX2_keeps_57
      · refine lv_iconst (v := 1) hx hb dX2_keeps_52 (by decide) ?_
        refine lv_goto (tgt := 57) hx hb dX2_keeps_53 (by decide) ?_
        have hF : (fX2_keeps dn al wh rl rf ra rx ry kl kf ka kx ky) = (1, rf, ra, rx, ry, (fX8_shiftLoose kl kf ka kx ky al).2.1, (fX8_shiftLoose kl kf ka kx ky al).2.2.1, (fX8_shiftLoose kl kf ka kx ky al).2.2.2.1, (fX8_shiftLoose kl kf ka kx ky al).2.2.2.2) := by exact ((if_neg c9).trans ((if_pos c35).trans (if_neg c49)))
        subst hAe
        subst hQe
        exact W.zret (v := 1) hx hb hr rfl (fun t ht hW => ⟨⟨_, _, rfl, ⟨(), trivial, by rw [hF], by rw [hF]⟩, by rw [ht]; exact hP, hD⟩, hS.F ht⟩) hS.2.2 dX2_keeps_57
  · refine lv_aload_n hx hb dX2_keeps_12 rfl (lv_at hl 1 rfl) ?_
    refine va_get (D := D) (ci := 5) (v := .ref h2) (C := RX7) (T := TX7) (N := 5) hx hb hts w_X7 hown hK hP 1 rfl rfl 0 (by decide) f_27 (fun _ h9 => h9) rfl dX2_keeps_13 ?_
    refine lv_aload_n hx hb dX2_keeps_16 rfl (lv_at hl 0 rfl) ?_
    refine va_get (D := D) (ci := 1) (v := .int dn) (C := RX2) (T := TX2) (N := 2) hx hb hts w_X2 hown hK hP 0 rfl rfl 0 (by decide) f_9 (fun _ h9 => h9) rfl dX2_keeps_17 ?_
    have hPc := hP.sub (ws' := [(h2, .inr (6, [.int rl, .int rf, .int ra, .int rx, .int ry]))]) [2] rfl
    have hDc := hD.sub (ws' := [(h2, .inr (6, [.int rl, .int rf, .int ra, .int rx, .int ry]))]) [2] (by decide) rfl
    have hKc := hK.sub (tys' := []) [] rfl
    refine wk_i (β := Unit) (ok := fun _ => True) (wc := [(h2, .inr (6, [.int rl, .int rf, .int ra, .int rx, .int ry]))]) (wr := [(h0, .inr (1, [.int dn, .int al])), (h1, .inr (5, [.ref h2, .ref h3, .int isr, .int wh, .int sh])), (h3, .inr (6, [.int kl, .int kf, .int ka, .int kx, .int ky]))]) (w1 := fun _ => [(h2, .inr (6, [.int rl, .int (fX8_shiftLoose rl rf ra rx ry dn).2.1, .int (fX8_shiftLoose rl rf ra rx ry dn).2.2.1, .int (fX8_shiftLoose rl rf ra rx ry dn).2.2.2.1, .int (fX8_shiftLoose rl rf ra rx ry dn).2.2.2.2]))]) (ws2 := fun _ => [(h0, .inr (1, [.int dn, .int al])), (h1, .inr (5, [.ref h2, .ref h3, .int isr, .int wh, .int sh])), (h2, .inr (6, [.int rl, .int (fX8_shiftLoose rl rf ra rx ry dn).2.1, .int (fX8_shiftLoose rl rf ra rx ry dn).2.2.1, .int (fX8_shiftLoose rl rf ra rx ry dn).2.2.2.1, .int (fX8_shiftLoose rl rf ra rx ry dn).2.2.2.2])), (h3, .inr (6, [.int kl, .int kf, .int ka, .int kx, .int ky]))]) (r1 := fun _ => (fX8_shiftLoose rl rf ra rx ry dn).1) (va_runV (As := [.int dn]) (rest := []) ⟨hx, hb, hml, hown, hts⟩ (kX8_shiftLoose l D H.size h2 rl rf ra rx ry dn (by first | assumption | (repeat' (first | assumption | exact Or.inl rfl | exact Or.inr rfl | apply isB.ite))) (by first | assumption | (repeat' (first | assumption | exact Or.inl rfl | exact Or.inr rfl | apply isB.ite)))) (cwV 1 hts gX2_keeps_X8_shiftLoose rfl rfl rfl (by decide +kernel) ⟨Nat.le_of_ble_eq_true rfl, Nat.le_of_ble_eq_true rfl⟩) ⟨Pw_blind, (va_recv hKc hPc (ci := 6) (q0 := 0) rfl rfl), fun U hU hW => Pw_at hKc hPc hDc hN hU hW⟩ rfl rfl hl.1 rfl (lv_room (Nat.le_of_ble_eq_true rfl)) dX2_keeps_20 ⟨Nat.le_of_ble_eq_true rfl, Nat.le_of_ble_eq_true rfl⟩) hP hD hS hA [2] [0, 1, 3] [0, 1, 3, 2] rfl rfl (by decide) (by decide) (fun _ => rfl) (by decide) (fun _ _ H locs hP hD hS => ?_)
    have hP : va_P D vwCl [(h0, .inr (1, [.int dn, .int al])), (h1, .inr (5, [.ref h2, .ref h3, .int isr, .int wh, .int sh])), (h2, .inr (6, [.int rl, .int (fX8_shiftLoose rl rf ra rx ry dn).2.1, .int (fX8_shiftLoose rl rf ra rx ry dn).2.2.1, .int (fX8_shiftLoose rl rf ra rx ry dn).2.2.2.1, .int (fX8_shiftLoose rl rf ra rx ry dn).2.2.2.2])), (h3, .inr (6, [.int kl, .int kf, .int ka, .int kx, .int ky]))] H := hP
    have hD : va_D A [(h0, .inr (1, [.int dn, .int al])), (h1, .inr (5, [.ref h2, .ref h3, .int isr, .int wh, .int sh])), (h2, .inr (6, [.int rl, .int (fX8_shiftLoose rl rf ra rx ry dn).2.1, .int (fX8_shiftLoose rl rf ra rx ry dn).2.2.1, .int (fX8_shiftLoose rl rf ra rx ry dn).2.2.2.1, .int (fX8_shiftLoose rl rf ra rx ry dn).2.2.2.2])), (h3, .inr (6, [.int kl, .int kf, .int ka, .int kx, .int ky]))] := hD
    refine lv_if_eq (tgt := 56) hx hb dX2_keeps_23 (by decide) (fun c23 => ?_) (fun c23 => ?_)
    · refine lv_iconst (v := 0) hx hb dX2_keeps_56 (by decide) ?_
      have hF : (fX2_keeps dn al wh rl rf ra rx ry kl kf ka kx ky) = (0, (fX8_shiftLoose rl rf ra rx ry dn).2.1, (fX8_shiftLoose rl rf ra rx ry dn).2.2.1, (fX8_shiftLoose rl rf ra rx ry dn).2.2.2.1, (fX8_shiftLoose rl rf ra rx ry dn).2.2.2.2, kf, ka, kx, ky) := by exact ((if_pos c9).trans (if_pos c23))
      subst hAe
      subst hQe
      exact W.zret (v := 0) hx hb hr rfl (fun t ht hW => ⟨⟨_, _, rfl, ⟨(), trivial, by rw [hF], by rw [hF]⟩, by rw [ht]; exact hP, hD⟩, hS.F ht⟩) hS.2.2 dX2_keeps_57
    · refine lv_aload_n hx hb dX2_keeps_26 rfl (lv_at hl 1 rfl) ?_
      refine va_get (D := D) (ci := 5) (v := .int wh) (C := RX7) (T := TX7) (N := 5) hx hb hts w_X7 hown hK hP 1 rfl rfl 3 (by decide) f_18 (fun _ h9 => h9) rfl dX2_keeps_27 ?_
      refine lv_bipush (v := 32) hx hb dX2_keeps_30 (by decide) ?_
      have hPc := hP.sub (ws' := []) [] rfl
      have hDc := hD.sub (ws' := []) [] (by decide) rfl
      have hKc := hK.sub (tys' := []) [] rfl
      refine rd_i (va_runSN (As := [.int wh, .int 32]) (rest := []) ⟨hx, hb, hml, hown, hts⟩ (kX9_has l D H.size wh 32 ) ⟨va_cnB 2 hts gX2_keeps_X9_has_n23 rfl rfl rfl hN.2.1 in_RX9 (by decide +kernel) ⟨Nat.le_of_ble_eq_true rfl, Nat.le_of_ble_eq_true rfl⟩, st_yX9_has, trivial⟩ ⟨Pw_blind, fun U hU hW => Pw_at hKc hPc hDc hN hU hW⟩ rfl rfl hl.1 rfl (lv_room (Nat.le_of_ble_eq_true rfl)) dX2_keeps_32 ⟨Nat.le_of_ble_eq_true rfl, Nat.le_of_ble_eq_true rfl⟩) ?_
      refine lv_if_ne (tgt := 52) hx hb dX2_keeps_35 (by decide) (fun c35 => ?_) (fun c35 => ?_)
      · refine lv_iconst (v := 1) hx hb dX2_keeps_52 (by decide) ?_
        refine lv_goto (tgt := 57) hx hb dX2_keeps_53 (by decide) ?_
        have hF : (fX2_keeps dn al wh rl rf ra rx ry kl kf ka kx ky) = (1, (fX8_shiftLoose rl rf ra rx ry dn).2.1, (fX8_shiftLoose rl rf ra rx ry dn).2.2.1, (fX8_shiftLoose rl rf ra rx ry dn).2.2.2.1, (fX8_shiftLoose rl rf ra rx ry dn).2.2.2.2, kf, ka, kx, ky) := by exact ((if_pos c9).trans ((if_neg c23).trans (if_neg c35)))
        subst hAe
        subst hQe
        exact W.zret (v := 1) hx hb hr rfl (fun t ht hW => ⟨⟨_, _, rfl, ⟨(), trivial, by rw [hF], by rw [hF]⟩, by rw [ht]; exact hP, hD⟩, hS.F ht⟩) hS.2.2 dX2_keeps_57
      · refine lv_aload_n hx hb dX2_keeps_38 rfl (lv_at hl 1 rfl) ?_
        refine va_get (D := D) (ci := 5) (v := .ref h3) (C := RX7) (T := TX7) (N := 5) hx hb hts w_X7 hown hK hP 1 rfl rfl 1 (by decide) f_37 (fun _ h9 => h9) rfl dX2_keeps_39 ?_
        refine lv_aload_n hx hb dX2_keeps_42 rfl (lv_at hl 0 rfl) ?_
        refine va_get (D := D) (ci := 1) (v := .int al) (C := RX2) (T := TX2) (N := 2) hx hb hts w_X2 hown hK hP 0 rfl rfl 1 (by decide) f_15 (fun _ h9 => h9) rfl dX2_keeps_43 ?_
        have hPc := hP.sub (ws' := [(h3, .inr (6, [.int kl, .int kf, .int ka, .int kx, .int ky]))]) [3] rfl
        have hDc := hD.sub (ws' := [(h3, .inr (6, [.int kl, .int kf, .int ka, .int kx, .int ky]))]) [3] (by decide) rfl
        have hKc := hK.sub (tys' := []) [] rfl
        refine wk_i (β := Unit) (ok := fun _ => True) (wc := [(h3, .inr (6, [.int kl, .int kf, .int ka, .int kx, .int ky]))]) (wr := [(h0, .inr (1, [.int dn, .int al])), (h1, .inr (5, [.ref h2, .ref h3, .int isr, .int wh, .int sh])), (h2, .inr (6, [.int rl, .int (fX8_shiftLoose rl rf ra rx ry dn).2.1, .int (fX8_shiftLoose rl rf ra rx ry dn).2.2.1, .int (fX8_shiftLoose rl rf ra rx ry dn).2.2.2.1, .int (fX8_shiftLoose rl rf ra rx ry dn).2.2.2.2]))]) (w1 := fun _ => [(h3, .inr (6, [.int kl, .int (fX8_shiftLoose kl kf ka kx ky al).2.1, .int (fX8_shiftLoose kl kf ka kx ky al).2.2.1, .int (fX8_shiftLoose kl kf ka kx ky al).2.2.2.1, .int (fX8_shiftLoose kl kf ka kx ky al).2.2.2.2]))]) (ws2 := fun _ => [(h0, .inr (1, [.int dn, .int al])), (h1, .inr (5, [.ref h2, .ref h3, .int isr, .int wh, .int sh])), (h2, .inr (6, [.int rl, .int (fX8_shiftLoose rl rf ra rx ry dn).2.1, .int (fX8_shiftLoose rl rf ra rx ry dn).2.2.1, .int (fX8_shiftLoose rl rf ra rx ry dn).2.2.2.1, .int (fX8_shiftLoose rl rf ra rx ry dn).2.2.2.2])), (h3, .inr (6, [.int kl, .int (fX8_shiftLoose kl kf ka kx ky al).2.1, .int (fX8_shiftLoose kl kf ka kx ky al).2.2.1, .int (fX8_shiftLoose kl kf ka kx ky al).2.2.2.1, .int (fX8_shiftLoose kl kf ka kx ky al).2.2.2.2]))]) (r1 := fun _ => (fX8_shiftLoose kl kf ka kx ky al).1) (va_runV (As := [.int al]) (rest := []) ⟨hx, hb, hml, hown, hts⟩ (kX8_shiftLoose l D H.size h3 kl kf ka kx ky al (by first | assumption | (repeat' (first | assumption | exact Or.inl rfl | exact Or.inr rfl | apply isB.ite))) (by first | assumption | (repeat' (first | assumption | exact Or.inl rfl | exact Or.inr rfl | apply isB.ite)))) (cwV 1 hts gX2_keeps_X8_shiftLoose rfl rfl rfl (by decide +kernel) ⟨Nat.le_of_ble_eq_true rfl, Nat.le_of_ble_eq_true rfl⟩) ⟨Pw_blind, (va_recv hKc hPc (ci := 6) (q0 := 0) rfl rfl), fun U hU hW => Pw_at hKc hPc hDc hN hU hW⟩ rfl rfl hl.1 rfl (lv_room (Nat.le_of_ble_eq_true rfl)) dX2_keeps_46 ⟨Nat.le_of_ble_eq_true rfl, Nat.le_of_ble_eq_true rfl⟩) hP hD hS hA [3] [0, 1, 2] [0, 1, 2, 3] rfl rfl (by decide) (by decide) (fun _ => rfl) (by decide) (fun _ _ H locs hP hD hS => ?_)
        have hP : va_P D vwCl [(h0, .inr (1, [.int dn, .int al])), (h1, .inr (5, [.ref h2, .ref h3, .int isr, .int wh, .int sh])), (h2, .inr (6, [.int rl, .int (fX8_shiftLoose rl rf ra rx ry dn).2.1, .int (fX8_shiftLoose rl rf ra rx ry dn).2.2.1, .int (fX8_shiftLoose rl rf ra rx ry dn).2.2.2.1, .int (fX8_shiftLoose rl rf ra rx ry dn).2.2.2.2])), (h3, .inr (6, [.int kl, .int (fX8_shiftLoose kl kf ka kx ky al).2.1, .int (fX8_shiftLoose kl kf ka kx ky al).2.2.1, .int (fX8_shiftLoose kl kf ka kx ky al).2.2.2.1, .int (fX8_shiftLoose kl kf ka kx ky al).2.2.2.2]))] H := hP
        have hD : va_D A [(h0, .inr (1, [.int dn, .int al])), (h1, .inr (5, [.ref h2, .ref h3, .int isr, .int wh, .int sh])), (h2, .inr (6, [.int rl, .int (fX8_shiftLoose rl rf ra rx ry dn).2.1, .int (fX8_shiftLoose rl rf ra rx ry dn).2.2.1, .int (fX8_shiftLoose rl rf ra rx ry dn).2.2.2.1, .int (fX8_shiftLoose rl rf ra rx ry dn).2.2.2.2])), (h3, .inr (6, [.int kl, .int (fX8_shiftLoose kl kf ka kx ky al).2.1, .int (fX8_shiftLoose kl kf ka kx ky al).2.2.1, .int (fX8_shiftLoose kl kf ka kx ky al).2.2.2.1, .int (fX8_shiftLoose kl kf ka kx ky al).2.2.2.2]))] := hD
        refine lv_if_eq (tgt := 56) hx hb dX2_keeps_49 (by decide) (fun c49 => ?_) (fun c49 => ?_)
        · refine lv_iconst (v := 0) hx hb dX2_keeps_56 (by decide) ?_
          have hF : (fX2_keeps dn al wh rl rf ra rx ry kl kf ka kx ky) = (0, (fX8_shiftLoose rl rf ra rx ry dn).2.1, (fX8_shiftLoose rl rf ra rx ry dn).2.2.1, (fX8_shiftLoose rl rf ra rx ry dn).2.2.2.1, (fX8_shiftLoose rl rf ra rx ry dn).2.2.2.2, (fX8_shiftLoose kl kf ka kx ky al).2.1, (fX8_shiftLoose kl kf ka kx ky al).2.2.1, (fX8_shiftLoose kl kf ka kx ky al).2.2.2.1, (fX8_shiftLoose kl kf ka kx ky al).2.2.2.2) := by exact ((if_pos c9).trans ((if_neg c23).trans ((if_pos c35).trans (if_pos c49))))
          subst hAe
          subst hQe
          exact W.zret (v := 0) hx hb hr rfl (fun t ht hW => ⟨⟨_, _, rfl, ⟨(), trivial, by rw [hF], by rw [hF]⟩, by rw [ht]; exact hP, hD⟩, hS.F ht⟩) hS.2.2 dX2_keeps_57
        · refine lv_iconst (v := 1) hx hb dX2_keeps_52 (by decide) ?_
          refine lv_goto (tgt := 57) hx hb dX2_keeps_53 (by decide) ?_
          have hF : (fX2_keeps dn al wh rl rf ra rx ry kl kf ka kx ky) = (1, (fX8_shiftLoose rl rf ra rx ry dn).2.1, (fX8_shiftLoose rl rf ra rx ry dn).2.2.1, (fX8_shiftLoose rl rf ra rx ry dn).2.2.2.1, (fX8_shiftLoose rl rf ra rx ry dn).2.2.2.2, (fX8_shiftLoose kl kf ka kx ky al).2.1, (fX8_shiftLoose kl kf ka kx ky al).2.2.1, (fX8_shiftLoose kl kf ka kx ky al).2.2.2.1, (fX8_shiftLoose kl kf ka kx ky al).2.2.2.2) := by exact ((if_pos c9).trans ((if_neg c23).trans ((if_pos c35).trans (if_neg c49))))
          subst hAe
          subst hQe
          exact W.zret (v := 1) hx hb hr rfl (fun t ht hW => ⟨⟨_, _, rfl, ⟨(), trivial, by rw [hF], by rw [hF]⟩, by rw [ht]; exact hP, hD⟩, hS.F ht⟩) hS.2.2 dX2_keeps_57

def fX4_keepsLines (at_ : Int32) (nn : Int32) (ll : Int32) (fi : Int32) (la : Int32) : Int32 × Int32 × Int32 := ((fX8_openGap ll fi la at_ nn).1, (fX8_openGap ll fi la at_ nn).2.1, (fX8_openGap ll fi la at_ nn).2.2)
theorem zb_X4_keepsLines (at_ : Int32) (nn : Int32) (ll : Int32) (fi : Int32) (la : Int32) : isB (fX4_keepsLines at_ nn ll fi la).1 := by
  unfold fX4_keepsLines
  (try dsimp only)
  repeat' split
  all_goals first | exact Or.inl rfl | exact Or.inr rfl | exact zb_X8_openGap _ _ _ _ _
abbrev rmX4_keepsLines : Room := { frames := 2, cells := 0, slots := 0, locals := 44 }
abbrev qX4_keepsLines (D : va_G) (sz : Nat) (h0 : Nat) (h1 : Nat) (hm : Int32) (si : Int32) (co : Int32) (at_ : Int32) (nn : Int32) (ll : Int32) (fi : Int32) (la : Int32) (ff : Int32) (lf : Int32) : Array Value → State → Outcome → State → Prop := va_Qi (fun r_9 w_9 => ∃ _u : Unit, True ∧ r_9 = (fX4_keepsLines at_ nn ll fi la).1 ∧ w_9 = [(h0, .inr (2, [.int hm, .int si, .int co, .int at_, .int nn])), (h1, .inr (6, [.int ll, .int (fX4_keepsLines at_ nn ll fi la).2.1, .int (fX4_keepsLines at_ nn ll fi la).2.2, .int ff, .int lf]))]) (Bq D (va_A [(h0, .inr (2, [.int hm, .int si, .int co, .int at_, .int nn])), (h1, .inr (6, [.int ll, .int fi, .int la, .int ff, .int lf]))] sz)) (va_A [(h0, .inr (2, [.int hm, .int si, .int co, .int at_, .int nn])), (h1, .inr (6, [.int ll, .int fi, .int la, .int ff, .int lf]))] sz)
set_option maxHeartbeats 4000000 in
set_option maxRecDepth 100000 in
theorem kX4_keepsLines (l : Launch) (D : va_G) (sz : Nat) (h0 : Nat) (h1 : Nat) (hm : Int32) (si : Int32) (co : Int32) (at_ : Int32) (nn : Int32) (ll : Int32) (fi : Int32) (la : Int32) (ff : Int32) (lf : Int32) : Met l yX4_keepsLines wsX4_keepsLines rmX4_keepsLines (va_Pc [.ref h0, .ref h1] (Pw D [] [(h0, .inr (2, [.int hm, .int si, .int co, .int at_, .int nn])), (h1, .inr (6, [.int ll, .int fi, .int la, .int ff, .int lf]))] sz)) (qX4_keepsLines D sz h0 h1 hm si co at_ nn ll fi la ff lf) 0 0 (va_A [(h0, .inr (2, [.int hm, .int si, .int co, .int at_, .int nn])), (h1, .inr (6, [.int ll, .int fi, .int la, .int ff, .int lf]))] sz) := by
  refine Met.ofW (cc := cX4_keepsLines) (maxL := 2) (ret := (some .boolean)) (by decide) rfl ?_
  intro p e s m args below meth c s₁ B hml hv
  obtain ⟨rfl, hsz, hP, hK, hD0, hN⟩ := hv
  have hx := B.exec
  have hb := B.bytes
  have hr := B.returns
  have hts := atoms_spec (ws := wsX4_keepsLines) B.pre
  have hown : s.vm.findClass RX4 = some m.cls := findClass_of_methodNamed B.named
  have hlocks := B.notSynchronized
  subst hsz
  obtain ⟨Q, hQe⟩ : ∃ Q, Q = MQ below (qX4_keepsLines D s.heap.size h0 h1 hm si co at_ nn ll fi la ff lf) ([.ref h0, .ref h1] : List Value).toArray s 0 0 (va_A [(h0, .inr (2, [.int hm, .int si, .int co, .int at_, .int nn])), (h1, .inr (6, [.int ll, .int fi, .int la, .int ff, .int lf]))] s.heap.size) := ⟨_, rfl⟩
  rw [← hQe]
  obtain ⟨A, hAe⟩ : ∃ A, A = va_A [(h0, .inr (2, [.int hm, .int si, .int co, .int at_, .int nn])), (h1, .inr (6, [.int ll, .int fi, .int la, .int ff, .int lf]))] s.heap.size := ⟨_, rfl⟩
  have hD : va_D A [(h0, .inr (2, [.int hm, .int si, .int co, .int at_, .int nn])), (h1, .inr (6, [.int ll, .int fi, .int la, .int ff, .int lf]))] := by rw [hAe]; exact hD0.self
  have hA : ∀ q : Nat, s.heap.size ≤ q → A q := by rw [hAe]; exact mo_A
  have hS : va_S A s.heap s.heap [] := va_S.rf
  obtain ⟨H, hHe⟩ : ∃ H, H = s.heap := ⟨_, rfl⟩
  obtain ⟨locs, hLe⟩ : ∃ L : List Loc, L = [] := ⟨_, rfl⟩
  have hP : va_P D vwCl [(h0, .inr (2, [.int hm, .int si, .int co, .int at_, .int nn])), (h1, .inr (6, [.int ll, .int fi, .int la, .int ff, .int lf]))] H := by rw [hHe]; exact hP
  have hS : va_S A s.heap H locs := by rw [hHe, hLe]; exact hS
  have hl := lv_entry ([.ref h0, .ref h1]) (n := 2) (Nat.le_of_ble_eq_true rfl)
  rw [lg_entry_eq]
  generalize (lg_sl ([.ref h0, .ref h1]) ++ List.replicate (2 - (lg_sl ([.ref h0, .ref h1])).length) Slot.unset).toArray = ls at hl ⊢
  have hl : lv_has ls 2 [(0, .ref h0), (1, .ref h1)] := hl
  refine hStart hHe hLe ?_
  clear hHe hLe
  have w_X4 : ∀ w ∈ wsX40, w ∈ wsX4_keepsLines := by decide +kernel
  have f_7 := hts (.fieldLink RX4 7 "ReferenceMover$LinesPutIn" "at" "I") (by decide +kernel)
  have f_13 := hts (.fieldLink RX4 13 "ReferenceMover$LinesPutIn" "n" "I") (by decide +kernel)
  refine lv_aload_n hx hb dX4_keepsLines_0 rfl (lv_at hl 1 rfl) ?_
  refine lv_aload_n hx hb dX4_keepsLines_1 rfl (lv_at hl 0 rfl) ?_
  refine va_get (D := D) (ci := 2) (v := .int at_) (C := RX4) (T := TX4) (N := 5) hx hb hts w_X4 hown hK hP 0 rfl rfl 3 (by decide) f_7 (fun x9 h9 => u_same (hts (.sameField "ReferenceMover$LinesPutIn" "ReferenceMover$LineChange" "at" "I") (by decide +kernel)) x9 h9) rfl dX4_keepsLines_2 ?_
  refine lv_aload_n hx hb dX4_keepsLines_5 rfl (lv_at hl 0 rfl) ?_
  refine va_get (D := D) (ci := 2) (v := .int nn) (C := RX4) (T := TX4) (N := 5) hx hb hts w_X4 hown hK hP 0 rfl rfl 4 (by decide) f_13 (fun x9 h9 => u_same (hts (.sameField "ReferenceMover$LinesPutIn" "ReferenceMover$LineChange" "n" "I") (by decide +kernel)) x9 h9) rfl dX4_keepsLines_6 ?_
  have hPc := hP.sub (ws' := [(h1, .inr (6, [.int ll, .int fi, .int la, .int ff, .int lf]))]) [1] rfl
  have hDc := hD.sub (ws' := [(h1, .inr (6, [.int ll, .int fi, .int la, .int ff, .int lf]))]) [1] (by decide) rfl
  have hKc := hK.sub (tys' := []) [] rfl
  refine wk_i (β := Unit) (ok := fun _ => True) (wc := [(h1, .inr (6, [.int ll, .int fi, .int la, .int ff, .int lf]))]) (wr := [(h0, .inr (2, [.int hm, .int si, .int co, .int at_, .int nn]))]) (w1 := fun _ => [(h1, .inr (6, [.int ll, .int (fX8_openGap ll fi la at_ nn).2.1, .int (fX8_openGap ll fi la at_ nn).2.2, .int ff, .int lf]))]) (ws2 := fun _ => [(h0, .inr (2, [.int hm, .int si, .int co, .int at_, .int nn])), (h1, .inr (6, [.int ll, .int (fX8_openGap ll fi la at_ nn).2.1, .int (fX8_openGap ll fi la at_ nn).2.2, .int ff, .int lf]))]) (r1 := fun _ => (fX8_openGap ll fi la at_ nn).1) (va_runV (As := [.int at_, .int nn]) (rest := []) ⟨hx, hb, hml, hown, hts⟩ (kX8_openGap l D H.size h1 ll fi la ff lf at_ nn ) (cwV 2 hts gX4_keepsLines_X8_openGap rfl rfl rfl (by decide +kernel) ⟨Nat.le_of_ble_eq_true rfl, Nat.le_of_ble_eq_true rfl⟩) ⟨Pw_blind, (va_recv hKc hPc (ci := 6) (q0 := 0) rfl rfl), fun U hU hW => Pw_at hKc hPc hDc hN hU hW⟩ rfl rfl hl.1 rfl (lv_room (Nat.le_of_ble_eq_true rfl)) dX4_keepsLines_9 ⟨Nat.le_of_ble_eq_true rfl, Nat.le_of_ble_eq_true rfl⟩) hP hD hS hA [1] [0] [0, 1] rfl rfl (by decide) (by decide) (fun _ => rfl) (by decide) (fun _ _ H locs hP hD hS => ?_)
  have hP : va_P D vwCl [(h0, .inr (2, [.int hm, .int si, .int co, .int at_, .int nn])), (h1, .inr (6, [.int ll, .int (fX8_openGap ll fi la at_ nn).2.1, .int (fX8_openGap ll fi la at_ nn).2.2, .int ff, .int lf]))] H := hP
  have hD : va_D A [(h0, .inr (2, [.int hm, .int si, .int co, .int at_, .int nn])), (h1, .inr (6, [.int ll, .int (fX8_openGap ll fi la at_ nn).2.1, .int (fX8_openGap ll fi la at_ nn).2.2, .int ff, .int lf]))] := hD
  have hF : (fX4_keepsLines at_ nn ll fi la) = ((fX8_openGap ll fi la at_ nn).1, (fX8_openGap ll fi la at_ nn).2.1, (fX8_openGap ll fi la at_ nn).2.2) := by exact rfl
  subst hAe
  subst hQe
  exact W.zret (v := (fX8_openGap ll fi la at_ nn).1) hx hb hr (isB.nar (zb_X8_openGap _ _ _ _ _)) (fun t ht hW => ⟨⟨_, _, rfl, ⟨(), trivial, by rw [hF], by rw [hF]⟩, by rw [ht]; exact hP, hD⟩, hS.F ht⟩) hS.2.2 dX4_keepsLines_12

def fX3_keeps_4 (hm : Int32) (si : Int32) (co : Int32) (at_ : Int32) (nn : Int32) (sh : Int32) (rl : Int32) (rf : Int32) (ra : Int32) (kl : Int32) (kf : Int32) (ka : Int32) : Int32 × Int32 × Int32 × Int32 × Int32 := if (fX7_sheetSeenFrom sh hm) = si then (if co = 0 then (if (fX4_keepsLines at_ nn rl rf ra).1 = 0 then ((0, (fX4_keepsLines at_ nn rl rf ra).2.1, (fX4_keepsLines at_ nn rl rf ra).2.2, kf, ka)) else ((1, (fX4_keepsLines at_ nn rl rf ra).2.1, (fX4_keepsLines at_ nn rl rf ra).2.2, kf, ka))) else (if (fX4_keepsLines at_ nn kl kf ka).1 = 0 then ((0, rf, ra, (fX4_keepsLines at_ nn kl kf ka).2.1, (fX4_keepsLines at_ nn kl kf ka).2.2)) else ((1, rf, ra, (fX4_keepsLines at_ nn kl kf ka).2.1, (fX4_keepsLines at_ nn kl kf ka).2.2)))) else (1, rf, ra, kf, ka)
theorem zb_X3_keeps_4 (hm : Int32) (si : Int32) (co : Int32) (at_ : Int32) (nn : Int32) (sh : Int32) (rl : Int32) (rf : Int32) (ra : Int32) (kl : Int32) (kf : Int32) (ka : Int32) : isB (fX3_keeps_4 hm si co at_ nn sh rl rf ra kl kf ka).1 := by
  unfold fX3_keeps_4
  (try dsimp only)
  repeat' split
  all_goals first | exact Or.inl rfl | exact Or.inr rfl
abbrev rmX3_keeps_4 : Room := { frames := 3, cells := 0, slots := 0, locals := 65 }
abbrev qX3_keeps_4 (D : va_G) (sz : Nat) (h0 : Nat) (hm : Int32) (si : Int32) (co : Int32) (at_ : Int32) (nn : Int32) (h1 : Nat) (h2 : Nat) (h3 : Nat) (isr : Int32) (wh : Int32) (sh : Int32) (rl : Int32) (rf : Int32) (ra : Int32) (rx : Int32) (ry : Int32) (kl : Int32) (kf : Int32) (ka : Int32) (kx : Int32) (ky : Int32) : Array Value → State → Outcome → State → Prop := va_Qi (fun r_9 w_9 => ∃ _u : Unit, True ∧ r_9 = (fX3_keeps_4 hm si co at_ nn sh rl rf ra kl kf ka).1 ∧ w_9 = [(h0, .inr (2, [.int hm, .int si, .int co, .int at_, .int nn])), (h1, .inr (5, [.ref h2, .ref h3, .int isr, .int wh, .int sh])), (h2, .inr (6, [.int rl, .int (fX3_keeps_4 hm si co at_ nn sh rl rf ra kl kf ka).2.1, .int (fX3_keeps_4 hm si co at_ nn sh rl rf ra kl kf ka).2.2.1, .int rx, .int ry])), (h3, .inr (6, [.int kl, .int (fX3_keeps_4 hm si co at_ nn sh rl rf ra kl kf ka).2.2.2.1, .int (fX3_keeps_4 hm si co at_ nn sh rl rf ra kl kf ka).2.2.2.2, .int kx, .int ky]))]) (Bq D (va_A [(h0, .inr (2, [.int hm, .int si, .int co, .int at_, .int nn])), (h1, .inr (5, [.ref h2, .ref h3, .int isr, .int wh, .int sh])), (h2, .inr (6, [.int rl, .int rf, .int ra, .int rx, .int ry])), (h3, .inr (6, [.int kl, .int kf, .int ka, .int kx, .int ky]))] sz)) (va_A [(h0, .inr (2, [.int hm, .int si, .int co, .int at_, .int nn])), (h1, .inr (5, [.ref h2, .ref h3, .int isr, .int wh, .int sh])), (h2, .inr (6, [.int rl, .int rf, .int ra, .int rx, .int ry])), (h3, .inr (6, [.int kl, .int kf, .int ka, .int kx, .int ky]))] sz)
set_option maxHeartbeats 4000000 in
set_option maxRecDepth 100000 in
theorem kX3_keeps_4 (l : Launch) (D : va_G) (sz : Nat) (h0 : Nat) (hm : Int32) (si : Int32) (co : Int32) (at_ : Int32) (nn : Int32) (h1 : Nat) (h2 : Nat) (h3 : Nat) (isr : Int32) (wh : Int32) (sh : Int32) (rl : Int32) (rf : Int32) (ra : Int32) (rx : Int32) (ry : Int32) (kl : Int32) (kf : Int32) (ka : Int32) (kx : Int32) (ky : Int32) : Met l yX3_keeps wsX3_keeps rmX3_keeps_4 (va_Pc [.ref h0, .ref h1] (Pw D [] [(h0, .inr (2, [.int hm, .int si, .int co, .int at_, .int nn])), (h1, .inr (5, [.ref h2, .ref h3, .int isr, .int wh, .int sh])), (h2, .inr (6, [.int rl, .int rf, .int ra, .int rx, .int ry])), (h3, .inr (6, [.int kl, .int kf, .int ka, .int kx, .int ky]))] sz)) (qX3_keeps_4 D sz h0 hm si co at_ nn h1 h2 h3 isr wh sh rl rf ra rx ry kl kf ka kx ky) 0 0 (va_A [(h0, .inr (2, [.int hm, .int si, .int co, .int at_, .int nn])), (h1, .inr (5, [.ref h2, .ref h3, .int isr, .int wh, .int sh])), (h2, .inr (6, [.int rl, .int rf, .int ra, .int rx, .int ry])), (h3, .inr (6, [.int kl, .int kf, .int ka, .int kx, .int ky]))] sz) := by
  refine Met.ofW (cc := cX3_keeps) (maxL := 2) (ret := (some .boolean)) (by decide) rfl ?_
  intro p e s m args below meth c s₁ B hml hv
  obtain ⟨rfl, hsz, hP, hK, hD0, hN⟩ := hv
  have hx := B.exec
  have hb := B.bytes
  have hr := B.returns
  have hts := atoms_spec (ws := wsX3_keeps) B.pre
  have hown : s.vm.findClass RX3 = some m.cls := findClass_of_methodNamed B.named
  have hlocks := B.notSynchronized
  subst hsz
  obtain ⟨Q, hQe⟩ : ∃ Q, Q = MQ below (qX3_keeps_4 D s.heap.size h0 hm si co at_ nn h1 h2 h3 isr wh sh rl rf ra rx ry kl kf ka kx ky) ([.ref h0, .ref h1] : List Value).toArray s 0 0 (va_A [(h0, .inr (2, [.int hm, .int si, .int co, .int at_, .int nn])), (h1, .inr (5, [.ref h2, .ref h3, .int isr, .int wh, .int sh])), (h2, .inr (6, [.int rl, .int rf, .int ra, .int rx, .int ry])), (h3, .inr (6, [.int kl, .int kf, .int ka, .int kx, .int ky]))] s.heap.size) := ⟨_, rfl⟩
  rw [← hQe]
  obtain ⟨A, hAe⟩ : ∃ A, A = va_A [(h0, .inr (2, [.int hm, .int si, .int co, .int at_, .int nn])), (h1, .inr (5, [.ref h2, .ref h3, .int isr, .int wh, .int sh])), (h2, .inr (6, [.int rl, .int rf, .int ra, .int rx, .int ry])), (h3, .inr (6, [.int kl, .int kf, .int ka, .int kx, .int ky]))] s.heap.size := ⟨_, rfl⟩
  have hD : va_D A [(h0, .inr (2, [.int hm, .int si, .int co, .int at_, .int nn])), (h1, .inr (5, [.ref h2, .ref h3, .int isr, .int wh, .int sh])), (h2, .inr (6, [.int rl, .int rf, .int ra, .int rx, .int ry])), (h3, .inr (6, [.int kl, .int kf, .int ka, .int kx, .int ky]))] := by rw [hAe]; exact hD0.self
  have hA : ∀ q : Nat, s.heap.size ≤ q → A q := by rw [hAe]; exact mo_A
  have hS : va_S A s.heap s.heap [] := va_S.rf
  obtain ⟨H, hHe⟩ : ∃ H, H = s.heap := ⟨_, rfl⟩
  obtain ⟨locs, hLe⟩ : ∃ L : List Loc, L = [] := ⟨_, rfl⟩
  have hP : va_P D vwCl [(h0, .inr (2, [.int hm, .int si, .int co, .int at_, .int nn])), (h1, .inr (5, [.ref h2, .ref h3, .int isr, .int wh, .int sh])), (h2, .inr (6, [.int rl, .int rf, .int ra, .int rx, .int ry])), (h3, .inr (6, [.int kl, .int kf, .int ka, .int kx, .int ky]))] H := by rw [hHe]; exact hP
  have hS : va_S A s.heap H locs := by rw [hHe, hLe]; exact hS
  have hl := lv_entry ([.ref h0, .ref h1]) (n := 2) (Nat.le_of_ble_eq_true rfl)
  rw [lg_entry_eq]
  generalize (lg_sl ([.ref h0, .ref h1]) ++ List.replicate (2 - (lg_sl ([.ref h0, .ref h1])).length) Slot.unset).toArray = ls at hl ⊢
  have hl : lv_has ls 2 [(0, .ref h0), (1, .ref h1)] := hl
  refine hStart hHe hLe ?_
  clear hHe hLe
  have w_X4 : ∀ w ∈ wsX40, w ∈ wsX3_keeps := by decide +kernel
  have f_7 := hts (.fieldLink RX3 7 "ReferenceMover$LineChange" "home" "I") (by decide +kernel)
  have f_13 := hts (.fieldLink RX3 13 "ReferenceMover$LineChange" "sheet" "I") (by decide +kernel)
  have f_16 := hts (.fieldLink RX3 16 "ReferenceMover$LineChange" "columns" "Z") (by decide +kernel)
  have w_X7 : ∀ w ∈ wsX70, w ∈ wsX3_keeps := by decide +kernel
  have f_35 := hts (.fieldLink RX3 35 "ReferenceMover$Reference" "rows" "LReferenceMover$Span;") (by decide +kernel)
  have f_32 := hts (.fieldLink RX3 32 "ReferenceMover$Reference" "columns" "LReferenceMover$Span;") (by decide +kernel)
  refine lv_aload_n hx hb dX3_keeps_0 rfl (lv_at hl 1 rfl) ?_
  refine lv_aload_n hx hb dX3_keeps_1 rfl (lv_at hl 0 rfl) ?_
  refine va_get (D := D) (ci := 2) (v := .int hm) (C := RX4) (T := TX4) (N := 5) hx hb hts w_X4 hown hK hP 0 rfl rfl 0 (by decide) f_7 (fun _ h9 => h9) rfl dX3_keeps_2 ?_
  have hPc := hP.sub (ws' := [(h1, .inr (5, [.ref h2, .ref h3, .int isr, .int wh, .int sh]))]) [1] rfl
  have hDc := hD.sub (ws' := [(h1, .inr (5, [.ref h2, .ref h3, .int isr, .int wh, .int sh]))]) [1] (by decide) rfl
  have hKc := hK.sub (tys' := []) [] rfl
  refine rd_i (va_runV (As := [.int hm]) (rest := []) ⟨hx, hb, hml, hown, hts⟩ (kX7_sheetSeenFrom l D H.size h1 (.ref h2) (.ref h3) isr wh sh hm ) (cwV 1 hts gX3_keeps_X7_sheetSeenFrom rfl rfl rfl (by decide +kernel) ⟨Nat.le_of_ble_eq_true rfl, Nat.le_of_ble_eq_true rfl⟩) ⟨Pw_blind, (va_recv hKc hPc (ci := 5) (q0 := 0) rfl rfl), fun U hU hW => Pw_at hKc hPc hDc hN hU hW⟩ rfl rfl hl.1 rfl (lv_room (Nat.le_of_ble_eq_true rfl)) dX3_keeps_5 ⟨Nat.le_of_ble_eq_true rfl, Nat.le_of_ble_eq_true rfl⟩) ?_
  refine lv_aload_n hx hb dX3_keeps_8 rfl (lv_at hl 0 rfl) ?_
  refine va_get (D := D) (ci := 2) (v := .int si) (C := RX4) (T := TX4) (N := 5) hx hb hts w_X4 hown hK hP 0 rfl rfl 1 (by decide) f_13 (fun _ h9 => h9) rfl dX3_keeps_9 ?_
  refine lv_icmp_ne (tgt := 40) hx hb dX3_keeps_12 (by decide) (fun c12 => ?_) (fun c12 => ?_)
  · refine lv_iconst (v := 1) hx hb dX3_keeps_40 (by decide) ?_
    refine lv_goto (tgt := 45) hx hb dX3_keeps_41 (by decide) ?_
    have hF : (fX3_keeps_4 hm si co at_ nn sh rl rf ra kl kf ka) = (1, rf, ra, kf, ka) := by exact (if_neg c12)
    subst hAe
    subst hQe
    exact W.zret (v := 1) hx hb hr rfl (fun t ht hW => ⟨⟨_, _, rfl, ⟨(), trivial, by rw [hF], by rw [hF]⟩, by rw [ht]; exact hP, hD⟩, hS.F ht⟩) hS.2.2 dX3_keeps_45
  · refine lv_aload_n hx hb dX3_keeps_15 rfl (lv_at hl 0 rfl) ?_
    refine lv_aload_n hx hb dX3_keeps_16 rfl (lv_at hl 0 rfl) ?_
    refine va_get (D := D) (ci := 2) (v := .int co) (C := RX4) (T := TX4) (N := 5) hx hb hts w_X4 hown hK hP 0 rfl rfl 2 (by decide) f_16 (fun _ h9 => h9) rfl dX3_keeps_17 ?_
    refine lv_if_eq (tgt := 30) hx hb dX3_keeps_20 (by decide) (fun c20 => ?_) (fun c20 => ?_)
    · refine lv_aload_n hx hb dX3_keeps_30 rfl (lv_at hl 1 rfl) ?_
      refine va_get (D := D) (ci := 5) (v := .ref h2) (C := RX7) (T := TX7) (N := 5) hx hb hts w_X7 hown hK hP 1 rfl rfl 0 (by decide) f_35 (fun _ h9 => h9) rfl dX3_keeps_31 ?_
      have hPc := hP.sub (ws' := [(h0, .inr (2, [.int hm, .int si, .int co, .int at_, .int nn])), (h2, .inr (6, [.int rl, .int rf, .int ra, .int rx, .int ry]))]) [0, 2] rfl
      have hDc := hD.sub (ws' := [(h0, .inr (2, [.int hm, .int si, .int co, .int at_, .int nn])), (h2, .inr (6, [.int rl, .int rf, .int ra, .int rx, .int ry]))]) [0, 2] (by decide) rfl
      have hKc := hK.sub (tys' := []) [] rfl
      refine wk_i (β := Unit) (ok := fun _ => True) (wc := [(h0, .inr (2, [.int hm, .int si, .int co, .int at_, .int nn])), (h2, .inr (6, [.int rl, .int rf, .int ra, .int rx, .int ry]))]) (wr := [(h1, .inr (5, [.ref h2, .ref h3, .int isr, .int wh, .int sh])), (h3, .inr (6, [.int kl, .int kf, .int ka, .int kx, .int ky]))]) (w1 := fun _ => [(h0, .inr (2, [.int hm, .int si, .int co, .int at_, .int nn])), (h2, .inr (6, [.int rl, .int (fX4_keepsLines at_ nn rl rf ra).2.1, .int (fX4_keepsLines at_ nn rl rf ra).2.2, .int rx, .int ry]))]) (ws2 := fun _ => [(h0, .inr (2, [.int hm, .int si, .int co, .int at_, .int nn])), (h1, .inr (5, [.ref h2, .ref h3, .int isr, .int wh, .int sh])), (h2, .inr (6, [.int rl, .int (fX4_keepsLines at_ nn rl rf ra).2.1, .int (fX4_keepsLines at_ nn rl rf ra).2.2, .int rx, .int ry])), (h3, .inr (6, [.int kl, .int kf, .int ka, .int kx, .int ky]))]) (r1 := fun _ => (fX4_keepsLines at_ nn rl rf ra).1) (va_runU (As := [.ref h2]) (rest := []) ⟨hx, hb, hml, hown, hts⟩ (kX4_keepsLines l D H.size h0 h2 hm si co at_ nn rl rf ra rx ry ) (va_cwA 1 hts gX3_keeps_X4_keepsLines_u38X4 rfl rfl rfl hN.2.2.2.2.2.2.2.2 (by decide +kernel) ⟨Nat.le_of_ble_eq_true rfl, Nat.le_of_ble_eq_true rfl⟩) ⟨Pw_blind, (va_recv hKc hPc (ci := 2) (q0 := 0) rfl rfl), fun U hU hW => Pw_at hKc hPc hDc hN hU hW⟩ rfl rfl hl.1 rfl (lv_room (Nat.le_of_ble_eq_true rfl)) dX3_keeps_34 ⟨Nat.le_of_ble_eq_true rfl, Nat.le_of_ble_eq_true rfl⟩) hP hD hS hA [0, 2] [1, 3] [2, 0, 3, 1] rfl rfl (by decide) (by decide) (fun _ => rfl) (by decide) (fun _ _ H locs hP hD hS => ?_)
      have hP : va_P D vwCl [(h0, .inr (2, [.int hm, .int si, .int co, .int at_, .int nn])), (h1, .inr (5, [.ref h2, .ref h3, .int isr, .int wh, .int sh])), (h2, .inr (6, [.int rl, .int (fX4_keepsLines at_ nn rl rf ra).2.1, .int (fX4_keepsLines at_ nn rl rf ra).2.2, .int rx, .int ry])), (h3, .inr (6, [.int kl, .int kf, .int ka, .int kx, .int ky]))] H := hP
      have hD : va_D A [(h0, .inr (2, [.int hm, .int si, .int co, .int at_, .int nn])), (h1, .inr (5, [.ref h2, .ref h3, .int isr, .int wh, .int sh])), (h2, .inr (6, [.int rl, .int (fX4_keepsLines at_ nn rl rf ra).2.1, .int (fX4_keepsLines at_ nn rl rf ra).2.2, .int rx, .int ry])), (h3, .inr (6, [.int kl, .int kf, .int ka, .int kx, .int ky]))] := hD
      refine lv_if_eq (tgt := 44) hx hb dX3_keeps_37 (by decide) (fun c37 => ?_) (fun c37 => ?_)
      · refine lv_iconst (v := 0) hx hb dX3_keeps_44 (by decide) ?_
        have hF : (fX3_keeps_4 hm si co at_ nn sh rl rf ra kl kf ka) = (0, (fX4_keepsLines at_ nn rl rf ra).2.1, (fX4_keepsLines at_ nn rl rf ra).2.2, kf, ka) := by exact ((if_pos c12).trans ((if_pos c20).trans (if_pos c37)))
        subst hAe
        subst hQe
        exact W.zret (v := 0) hx hb hr rfl (fun t ht hW => ⟨⟨_, _, rfl, ⟨(), trivial, by rw [hF], by rw [hF]⟩, by rw [ht]; exact hP, hD⟩, hS.F ht⟩) hS.2.2 dX3_keeps_45
      · refine lv_iconst (v := 1) hx hb dX3_keeps_40 (by decide) ?_
        refine lv_goto (tgt := 45) hx hb dX3_keeps_41 (by decide) ?_
        have hF : (fX3_keeps_4 hm si co at_ nn sh rl rf ra kl kf ka) = (1, (fX4_keepsLines at_ nn rl rf ra).2.1, (fX4_keepsLines at_ nn rl rf ra).2.2, kf, ka) := by exact ((if_pos c12).trans ((if_pos c20).trans (if_neg c37)))
        subst hAe
        subst hQe
        exact W.zret (v := 1) hx hb hr rfl (fun t ht hW => ⟨⟨_, _, rfl, ⟨(), trivial, by rw [hF], by rw [hF]⟩, by rw [ht]; exact hP, hD⟩, hS.F ht⟩) hS.2.2 dX3_keeps_45
    · refine lv_aload_n hx hb dX3_keeps_23 rfl (lv_at hl 1 rfl) ?_
      refine va_get (D := D) (ci := 5) (v := .ref h3) (C := RX7) (T := TX7) (N := 5) hx hb hts w_X7 hown hK hP 1 rfl rfl 1 (by decide) f_32 (fun _ h9 => h9) rfl dX3_keeps_24 ?_
      refine lv_goto (tgt := 34) hx hb dX3_keeps_27 (by decide) ?_
      have hPc := hP.sub (ws' := [(h0, .inr (2, [.int hm, .int si, .int co, .int at_, .int nn])), (h3, .inr (6, [.int kl, .int kf, .int ka, .int kx, .int ky]))]) [0, 3] rfl
      have hDc := hD.sub (ws' := [(h0, .inr (2, [.int hm, .int si, .int co, .int at_, .int nn])), (h3, .inr (6, [.int kl, .int kf, .int ka, .int kx, .int ky]))]) [0, 3] (by decide) rfl
      have hKc := hK.sub (tys' := []) [] rfl
      refine wk_i (β := Unit) (ok := fun _ => True) (wc := [(h0, .inr (2, [.int hm, .int si, .int co, .int at_, .int nn])), (h3, .inr (6, [.int kl, .int kf, .int ka, .int kx, .int ky]))]) (wr := [(h1, .inr (5, [.ref h2, .ref h3, .int isr, .int wh, .int sh])), (h2, .inr (6, [.int rl, .int rf, .int ra, .int rx, .int ry]))]) (w1 := fun _ => [(h0, .inr (2, [.int hm, .int si, .int co, .int at_, .int nn])), (h3, .inr (6, [.int kl, .int (fX4_keepsLines at_ nn kl kf ka).2.1, .int (fX4_keepsLines at_ nn kl kf ka).2.2, .int kx, .int ky]))]) (ws2 := fun _ => [(h0, .inr (2, [.int hm, .int si, .int co, .int at_, .int nn])), (h1, .inr (5, [.ref h2, .ref h3, .int isr, .int wh, .int sh])), (h2, .inr (6, [.int rl, .int rf, .int ra, .int rx, .int ry])), (h3, .inr (6, [.int kl, .int (fX4_keepsLines at_ nn kl kf ka).2.1, .int (fX4_keepsLines at_ nn kl kf ka).2.2, .int kx, .int ky]))]) (r1 := fun _ => (fX4_keepsLines at_ nn kl kf ka).1) (va_runU (As := [.ref h3]) (rest := []) ⟨hx, hb, hml, hown, hts⟩ (kX4_keepsLines l D H.size h0 h3 hm si co at_ nn kl kf ka kx ky ) (va_cwA 1 hts gX3_keeps_X4_keepsLines_u38X4 rfl rfl rfl hN.2.2.2.2.2.2.2.2 (by decide +kernel) ⟨Nat.le_of_ble_eq_true rfl, Nat.le_of_ble_eq_true rfl⟩) ⟨Pw_blind, (va_recv hKc hPc (ci := 2) (q0 := 0) rfl rfl), fun U hU hW => Pw_at hKc hPc hDc hN hU hW⟩ rfl rfl hl.1 rfl (lv_room (Nat.le_of_ble_eq_true rfl)) dX3_keeps_34 ⟨Nat.le_of_ble_eq_true rfl, Nat.le_of_ble_eq_true rfl⟩) hP hD hS hA [0, 3] [1, 2] [2, 0, 1, 3] rfl rfl (by decide) (by decide) (fun _ => rfl) (by decide) (fun _ _ H locs hP hD hS => ?_)
      have hP : va_P D vwCl [(h0, .inr (2, [.int hm, .int si, .int co, .int at_, .int nn])), (h1, .inr (5, [.ref h2, .ref h3, .int isr, .int wh, .int sh])), (h2, .inr (6, [.int rl, .int rf, .int ra, .int rx, .int ry])), (h3, .inr (6, [.int kl, .int (fX4_keepsLines at_ nn kl kf ka).2.1, .int (fX4_keepsLines at_ nn kl kf ka).2.2, .int kx, .int ky]))] H := hP
      have hD : va_D A [(h0, .inr (2, [.int hm, .int si, .int co, .int at_, .int nn])), (h1, .inr (5, [.ref h2, .ref h3, .int isr, .int wh, .int sh])), (h2, .inr (6, [.int rl, .int rf, .int ra, .int rx, .int ry])), (h3, .inr (6, [.int kl, .int (fX4_keepsLines at_ nn kl kf ka).2.1, .int (fX4_keepsLines at_ nn kl kf ka).2.2, .int kx, .int ky]))] := hD
      refine lv_if_eq (tgt := 44) hx hb dX3_keeps_37 (by decide) (fun c37 => ?_) (fun c37 => ?_)
      · refine lv_iconst (v := 0) hx hb dX3_keeps_44 (by decide) ?_
        have hF : (fX3_keeps_4 hm si co at_ nn sh rl rf ra kl kf ka) = (0, rf, ra, (fX4_keepsLines at_ nn kl kf ka).2.1, (fX4_keepsLines at_ nn kl kf ka).2.2) := by exact ((if_pos c12).trans ((if_neg c20).trans (if_pos c37)))
        subst hAe
        subst hQe
        exact W.zret (v := 0) hx hb hr rfl (fun t ht hW => ⟨⟨_, _, rfl, ⟨(), trivial, by rw [hF], by rw [hF]⟩, by rw [ht]; exact hP, hD⟩, hS.F ht⟩) hS.2.2 dX3_keeps_45
      · refine lv_iconst (v := 1) hx hb dX3_keeps_40 (by decide) ?_
        refine lv_goto (tgt := 45) hx hb dX3_keeps_41 (by decide) ?_
        have hF : (fX3_keeps_4 hm si co at_ nn sh rl rf ra kl kf ka) = (1, rf, ra, (fX4_keepsLines at_ nn kl kf ka).2.1, (fX4_keepsLines at_ nn kl kf ka).2.2) := by exact ((if_pos c12).trans ((if_neg c20).trans (if_neg c37)))
        subst hAe
        subst hQe
        exact W.zret (v := 1) hx hb hr rfl (fun t ht hW => ⟨⟨_, _, rfl, ⟨(), trivial, by rw [hF], by rw [hF]⟩, by rw [ht]; exact hP, hD⟩, hS.F ht⟩) hS.2.2 dX3_keeps_45

def fX5_keepsLines (at_ : Int32) (nn : Int32) (ll : Int32) (fi : Int32) (la : Int32) : Int32 × Int32 × Int32 := ((fX8_closeGap ll fi la at_ nn).1, (fX8_closeGap ll fi la at_ nn).2.1, (fX8_closeGap ll fi la at_ nn).2.2)
theorem zb_X5_keepsLines (at_ : Int32) (nn : Int32) (ll : Int32) (fi : Int32) (la : Int32) : isB (fX5_keepsLines at_ nn ll fi la).1 := by
  unfold fX5_keepsLines
  (try dsimp only)
  repeat' split
  all_goals first | exact Or.inl rfl | exact Or.inr rfl | exact zb_X8_closeGap _ _ _ _ _
abbrev rmX5_keepsLines : Room := { frames := 2, cells := 0, slots := 0, locals := 45 }
abbrev qX5_keepsLines (D : va_G) (sz : Nat) (h0 : Nat) (h1 : Nat) (hm : Int32) (si : Int32) (co : Int32) (at_ : Int32) (nn : Int32) (ll : Int32) (fi : Int32) (la : Int32) (ff : Int32) (lf : Int32) : Array Value → State → Outcome → State → Prop := va_Qi (fun r_9 w_9 => ∃ _u : Unit, True ∧ r_9 = (fX5_keepsLines at_ nn ll fi la).1 ∧ w_9 = [(h0, .inr (3, [.int hm, .int si, .int co, .int at_, .int nn])), (h1, .inr (6, [.int ll, .int (fX5_keepsLines at_ nn ll fi la).2.1, .int (fX5_keepsLines at_ nn ll fi la).2.2, .int ff, .int lf]))]) (Bq D (va_A [(h0, .inr (3, [.int hm, .int si, .int co, .int at_, .int nn])), (h1, .inr (6, [.int ll, .int fi, .int la, .int ff, .int lf]))] sz)) (va_A [(h0, .inr (3, [.int hm, .int si, .int co, .int at_, .int nn])), (h1, .inr (6, [.int ll, .int fi, .int la, .int ff, .int lf]))] sz)
set_option maxHeartbeats 4000000 in
set_option maxRecDepth 100000 in
theorem kX5_keepsLines (l : Launch) (D : va_G) (sz : Nat) (h0 : Nat) (h1 : Nat) (hm : Int32) (si : Int32) (co : Int32) (at_ : Int32) (nn : Int32) (ll : Int32) (fi : Int32) (la : Int32) (ff : Int32) (lf : Int32) : Met l yX5_keepsLines wsX5_keepsLines rmX5_keepsLines (va_Pc [.ref h0, .ref h1] (Pw D [] [(h0, .inr (3, [.int hm, .int si, .int co, .int at_, .int nn])), (h1, .inr (6, [.int ll, .int fi, .int la, .int ff, .int lf]))] sz)) (qX5_keepsLines D sz h0 h1 hm si co at_ nn ll fi la ff lf) 0 0 (va_A [(h0, .inr (3, [.int hm, .int si, .int co, .int at_, .int nn])), (h1, .inr (6, [.int ll, .int fi, .int la, .int ff, .int lf]))] sz) := by
  refine Met.ofW (cc := cX5_keepsLines) (maxL := 2) (ret := (some .boolean)) (by decide) rfl ?_
  intro p e s m args below meth c s₁ B hml hv
  obtain ⟨rfl, hsz, hP, hK, hD0, hN⟩ := hv
  have hx := B.exec
  have hb := B.bytes
  have hr := B.returns
  have hts := atoms_spec (ws := wsX5_keepsLines) B.pre
  have hown : s.vm.findClass RX5 = some m.cls := findClass_of_methodNamed B.named
  have hlocks := B.notSynchronized
  subst hsz
  obtain ⟨Q, hQe⟩ : ∃ Q, Q = MQ below (qX5_keepsLines D s.heap.size h0 h1 hm si co at_ nn ll fi la ff lf) ([.ref h0, .ref h1] : List Value).toArray s 0 0 (va_A [(h0, .inr (3, [.int hm, .int si, .int co, .int at_, .int nn])), (h1, .inr (6, [.int ll, .int fi, .int la, .int ff, .int lf]))] s.heap.size) := ⟨_, rfl⟩
  rw [← hQe]
  obtain ⟨A, hAe⟩ : ∃ A, A = va_A [(h0, .inr (3, [.int hm, .int si, .int co, .int at_, .int nn])), (h1, .inr (6, [.int ll, .int fi, .int la, .int ff, .int lf]))] s.heap.size := ⟨_, rfl⟩
  have hD : va_D A [(h0, .inr (3, [.int hm, .int si, .int co, .int at_, .int nn])), (h1, .inr (6, [.int ll, .int fi, .int la, .int ff, .int lf]))] := by rw [hAe]; exact hD0.self
  have hA : ∀ q : Nat, s.heap.size ≤ q → A q := by rw [hAe]; exact mo_A
  have hS : va_S A s.heap s.heap [] := va_S.rf
  obtain ⟨H, hHe⟩ : ∃ H, H = s.heap := ⟨_, rfl⟩
  obtain ⟨locs, hLe⟩ : ∃ L : List Loc, L = [] := ⟨_, rfl⟩
  have hP : va_P D vwCl [(h0, .inr (3, [.int hm, .int si, .int co, .int at_, .int nn])), (h1, .inr (6, [.int ll, .int fi, .int la, .int ff, .int lf]))] H := by rw [hHe]; exact hP
  have hS : va_S A s.heap H locs := by rw [hHe, hLe]; exact hS
  have hl := lv_entry ([.ref h0, .ref h1]) (n := 2) (Nat.le_of_ble_eq_true rfl)
  rw [lg_entry_eq]
  generalize (lg_sl ([.ref h0, .ref h1]) ++ List.replicate (2 - (lg_sl ([.ref h0, .ref h1])).length) Slot.unset).toArray = ls at hl ⊢
  have hl : lv_has ls 2 [(0, .ref h0), (1, .ref h1)] := hl
  refine hStart hHe hLe ?_
  clear hHe hLe
  have w_X5 : ∀ w ∈ wsX50, w ∈ wsX5_keepsLines := by decide +kernel
  have f_7 := hts (.fieldLink RX5 7 "ReferenceMover$LinesTakenOut" "at" "I") (by decide +kernel)
  have f_13 := hts (.fieldLink RX5 13 "ReferenceMover$LinesTakenOut" "n" "I") (by decide +kernel)
  refine lv_aload_n hx hb dX5_keepsLines_0 rfl (lv_at hl 1 rfl) ?_
  refine lv_aload_n hx hb dX5_keepsLines_1 rfl (lv_at hl 0 rfl) ?_
  refine va_get (D := D) (ci := 3) (v := .int at_) (C := RX5) (T := TX5) (N := 5) hx hb hts w_X5 hown hK hP 0 rfl rfl 3 (by decide) f_7 (fun x9 h9 => u_same (hts (.sameField "ReferenceMover$LinesTakenOut" "ReferenceMover$LineChange" "at" "I") (by decide +kernel)) x9 h9) rfl dX5_keepsLines_2 ?_
  refine lv_aload_n hx hb dX5_keepsLines_5 rfl (lv_at hl 0 rfl) ?_
  refine va_get (D := D) (ci := 3) (v := .int nn) (C := RX5) (T := TX5) (N := 5) hx hb hts w_X5 hown hK hP 0 rfl rfl 4 (by decide) f_13 (fun x9 h9 => u_same (hts (.sameField "ReferenceMover$LinesTakenOut" "ReferenceMover$LineChange" "n" "I") (by decide +kernel)) x9 h9) rfl dX5_keepsLines_6 ?_
  have hPc := hP.sub (ws' := [(h1, .inr (6, [.int ll, .int fi, .int la, .int ff, .int lf]))]) [1] rfl
  have hDc := hD.sub (ws' := [(h1, .inr (6, [.int ll, .int fi, .int la, .int ff, .int lf]))]) [1] (by decide) rfl
  have hKc := hK.sub (tys' := []) [] rfl
  refine wk_i (β := Unit) (ok := fun _ => True) (wc := [(h1, .inr (6, [.int ll, .int fi, .int la, .int ff, .int lf]))]) (wr := [(h0, .inr (3, [.int hm, .int si, .int co, .int at_, .int nn]))]) (w1 := fun _ => [(h1, .inr (6, [.int ll, .int (fX8_closeGap ll fi la at_ nn).2.1, .int (fX8_closeGap ll fi la at_ nn).2.2, .int ff, .int lf]))]) (ws2 := fun _ => [(h0, .inr (3, [.int hm, .int si, .int co, .int at_, .int nn])), (h1, .inr (6, [.int ll, .int (fX8_closeGap ll fi la at_ nn).2.1, .int (fX8_closeGap ll fi la at_ nn).2.2, .int ff, .int lf]))]) (r1 := fun _ => (fX8_closeGap ll fi la at_ nn).1) (va_runV (As := [.int at_, .int nn]) (rest := []) ⟨hx, hb, hml, hown, hts⟩ (kX8_closeGap l D H.size h1 ll fi la ff lf at_ nn ) (cwV 2 hts gX5_keepsLines_X8_closeGap rfl rfl rfl (by decide +kernel) ⟨Nat.le_of_ble_eq_true rfl, Nat.le_of_ble_eq_true rfl⟩) ⟨Pw_blind, (va_recv hKc hPc (ci := 6) (q0 := 0) rfl rfl), fun U hU hW => Pw_at hKc hPc hDc hN hU hW⟩ rfl rfl hl.1 rfl (lv_room (Nat.le_of_ble_eq_true rfl)) dX5_keepsLines_9 ⟨Nat.le_of_ble_eq_true rfl, Nat.le_of_ble_eq_true rfl⟩) hP hD hS hA [1] [0] [0, 1] rfl rfl (by decide) (by decide) (fun _ => rfl) (by decide) (fun _ _ H locs hP hD hS => ?_)
  have hP : va_P D vwCl [(h0, .inr (3, [.int hm, .int si, .int co, .int at_, .int nn])), (h1, .inr (6, [.int ll, .int (fX8_closeGap ll fi la at_ nn).2.1, .int (fX8_closeGap ll fi la at_ nn).2.2, .int ff, .int lf]))] H := hP
  have hD : va_D A [(h0, .inr (3, [.int hm, .int si, .int co, .int at_, .int nn])), (h1, .inr (6, [.int ll, .int (fX8_closeGap ll fi la at_ nn).2.1, .int (fX8_closeGap ll fi la at_ nn).2.2, .int ff, .int lf]))] := hD
  have hF : (fX5_keepsLines at_ nn ll fi la) = ((fX8_closeGap ll fi la at_ nn).1, (fX8_closeGap ll fi la at_ nn).2.1, (fX8_closeGap ll fi la at_ nn).2.2) := by exact rfl
  subst hAe
  subst hQe
  exact W.zret (v := (fX8_closeGap ll fi la at_ nn).1) hx hb hr (isB.nar (zb_X8_closeGap _ _ _ _ _)) (fun t ht hW => ⟨⟨_, _, rfl, ⟨(), trivial, by rw [hF], by rw [hF]⟩, by rw [ht]; exact hP, hD⟩, hS.F ht⟩) hS.2.2 dX5_keepsLines_12

def fX3_keeps_5 (hm : Int32) (si : Int32) (co : Int32) (at_ : Int32) (nn : Int32) (sh : Int32) (rl : Int32) (rf : Int32) (ra : Int32) (kl : Int32) (kf : Int32) (ka : Int32) : Int32 × Int32 × Int32 × Int32 × Int32 := if (fX7_sheetSeenFrom sh hm) = si then (if co = 0 then (if (fX5_keepsLines at_ nn rl rf ra).1 = 0 then ((0, (fX5_keepsLines at_ nn rl rf ra).2.1, (fX5_keepsLines at_ nn rl rf ra).2.2, kf, ka)) else ((1, (fX5_keepsLines at_ nn rl rf ra).2.1, (fX5_keepsLines at_ nn rl rf ra).2.2, kf, ka))) else (if (fX5_keepsLines at_ nn kl kf ka).1 = 0 then ((0, rf, ra, (fX5_keepsLines at_ nn kl kf ka).2.1, (fX5_keepsLines at_ nn kl kf ka).2.2)) else ((1, rf, ra, (fX5_keepsLines at_ nn kl kf ka).2.1, (fX5_keepsLines at_ nn kl kf ka).2.2)))) else (1, rf, ra, kf, ka)
theorem zb_X3_keeps_5 (hm : Int32) (si : Int32) (co : Int32) (at_ : Int32) (nn : Int32) (sh : Int32) (rl : Int32) (rf : Int32) (ra : Int32) (kl : Int32) (kf : Int32) (ka : Int32) : isB (fX3_keeps_5 hm si co at_ nn sh rl rf ra kl kf ka).1 := by
  unfold fX3_keeps_5
  (try dsimp only)
  repeat' split
  all_goals first | exact Or.inl rfl | exact Or.inr rfl
abbrev rmX3_keeps_5 : Room := { frames := 3, cells := 0, slots := 0, locals := 66 }
abbrev qX3_keeps_5 (D : va_G) (sz : Nat) (h0 : Nat) (hm : Int32) (si : Int32) (co : Int32) (at_ : Int32) (nn : Int32) (h1 : Nat) (h2 : Nat) (h3 : Nat) (isr : Int32) (wh : Int32) (sh : Int32) (rl : Int32) (rf : Int32) (ra : Int32) (rx : Int32) (ry : Int32) (kl : Int32) (kf : Int32) (ka : Int32) (kx : Int32) (ky : Int32) : Array Value → State → Outcome → State → Prop := va_Qi (fun r_9 w_9 => ∃ _u : Unit, True ∧ r_9 = (fX3_keeps_5 hm si co at_ nn sh rl rf ra kl kf ka).1 ∧ w_9 = [(h0, .inr (3, [.int hm, .int si, .int co, .int at_, .int nn])), (h1, .inr (5, [.ref h2, .ref h3, .int isr, .int wh, .int sh])), (h2, .inr (6, [.int rl, .int (fX3_keeps_5 hm si co at_ nn sh rl rf ra kl kf ka).2.1, .int (fX3_keeps_5 hm si co at_ nn sh rl rf ra kl kf ka).2.2.1, .int rx, .int ry])), (h3, .inr (6, [.int kl, .int (fX3_keeps_5 hm si co at_ nn sh rl rf ra kl kf ka).2.2.2.1, .int (fX3_keeps_5 hm si co at_ nn sh rl rf ra kl kf ka).2.2.2.2, .int kx, .int ky]))]) (Bq D (va_A [(h0, .inr (3, [.int hm, .int si, .int co, .int at_, .int nn])), (h1, .inr (5, [.ref h2, .ref h3, .int isr, .int wh, .int sh])), (h2, .inr (6, [.int rl, .int rf, .int ra, .int rx, .int ry])), (h3, .inr (6, [.int kl, .int kf, .int ka, .int kx, .int ky]))] sz)) (va_A [(h0, .inr (3, [.int hm, .int si, .int co, .int at_, .int nn])), (h1, .inr (5, [.ref h2, .ref h3, .int isr, .int wh, .int sh])), (h2, .inr (6, [.int rl, .int rf, .int ra, .int rx, .int ry])), (h3, .inr (6, [.int kl, .int kf, .int ka, .int kx, .int ky]))] sz)
set_option maxHeartbeats 4000000 in
set_option maxRecDepth 100000 in
theorem kX3_keeps_5 (l : Launch) (D : va_G) (sz : Nat) (h0 : Nat) (hm : Int32) (si : Int32) (co : Int32) (at_ : Int32) (nn : Int32) (h1 : Nat) (h2 : Nat) (h3 : Nat) (isr : Int32) (wh : Int32) (sh : Int32) (rl : Int32) (rf : Int32) (ra : Int32) (rx : Int32) (ry : Int32) (kl : Int32) (kf : Int32) (ka : Int32) (kx : Int32) (ky : Int32) : Met l yX3_keeps wsX3_keeps rmX3_keeps_5 (va_Pc [.ref h0, .ref h1] (Pw D [] [(h0, .inr (3, [.int hm, .int si, .int co, .int at_, .int nn])), (h1, .inr (5, [.ref h2, .ref h3, .int isr, .int wh, .int sh])), (h2, .inr (6, [.int rl, .int rf, .int ra, .int rx, .int ry])), (h3, .inr (6, [.int kl, .int kf, .int ka, .int kx, .int ky]))] sz)) (qX3_keeps_5 D sz h0 hm si co at_ nn h1 h2 h3 isr wh sh rl rf ra rx ry kl kf ka kx ky) 0 0 (va_A [(h0, .inr (3, [.int hm, .int si, .int co, .int at_, .int nn])), (h1, .inr (5, [.ref h2, .ref h3, .int isr, .int wh, .int sh])), (h2, .inr (6, [.int rl, .int rf, .int ra, .int rx, .int ry])), (h3, .inr (6, [.int kl, .int kf, .int ka, .int kx, .int ky]))] sz) := by
  refine Met.ofW (cc := cX3_keeps) (maxL := 2) (ret := (some .boolean)) (by decide) rfl ?_
  intro p e s m args below meth c s₁ B hml hv
  obtain ⟨rfl, hsz, hP, hK, hD0, hN⟩ := hv
  have hx := B.exec
  have hb := B.bytes
  have hr := B.returns
  have hts := atoms_spec (ws := wsX3_keeps) B.pre
  have hown : s.vm.findClass RX3 = some m.cls := findClass_of_methodNamed B.named
  have hlocks := B.notSynchronized
  subst hsz
  obtain ⟨Q, hQe⟩ : ∃ Q, Q = MQ below (qX3_keeps_5 D s.heap.size h0 hm si co at_ nn h1 h2 h3 isr wh sh rl rf ra rx ry kl kf ka kx ky) ([.ref h0, .ref h1] : List Value).toArray s 0 0 (va_A [(h0, .inr (3, [.int hm, .int si, .int co, .int at_, .int nn])), (h1, .inr (5, [.ref h2, .ref h3, .int isr, .int wh, .int sh])), (h2, .inr (6, [.int rl, .int rf, .int ra, .int rx, .int ry])), (h3, .inr (6, [.int kl, .int kf, .int ka, .int kx, .int ky]))] s.heap.size) := ⟨_, rfl⟩
  rw [← hQe]
  obtain ⟨A, hAe⟩ : ∃ A, A = va_A [(h0, .inr (3, [.int hm, .int si, .int co, .int at_, .int nn])), (h1, .inr (5, [.ref h2, .ref h3, .int isr, .int wh, .int sh])), (h2, .inr (6, [.int rl, .int rf, .int ra, .int rx, .int ry])), (h3, .inr (6, [.int kl, .int kf, .int ka, .int kx, .int ky]))] s.heap.size := ⟨_, rfl⟩
  have hD : va_D A [(h0, .inr (3, [.int hm, .int si, .int co, .int at_, .int nn])), (h1, .inr (5, [.ref h2, .ref h3, .int isr, .int wh, .int sh])), (h2, .inr (6, [.int rl, .int rf, .int ra, .int rx, .int ry])), (h3, .inr (6, [.int kl, .int kf, .int ka, .int kx, .int ky]))] := by rw [hAe]; exact hD0.self
  have hA : ∀ q : Nat, s.heap.size ≤ q → A q := by rw [hAe]; exact mo_A
  have hS : va_S A s.heap s.heap [] := va_S.rf
  obtain ⟨H, hHe⟩ : ∃ H, H = s.heap := ⟨_, rfl⟩
  obtain ⟨locs, hLe⟩ : ∃ L : List Loc, L = [] := ⟨_, rfl⟩
  have hP : va_P D vwCl [(h0, .inr (3, [.int hm, .int si, .int co, .int at_, .int nn])), (h1, .inr (5, [.ref h2, .ref h3, .int isr, .int wh, .int sh])), (h2, .inr (6, [.int rl, .int rf, .int ra, .int rx, .int ry])), (h3, .inr (6, [.int kl, .int kf, .int ka, .int kx, .int ky]))] H := by rw [hHe]; exact hP
  have hS : va_S A s.heap H locs := by rw [hHe, hLe]; exact hS
  have hl := lv_entry ([.ref h0, .ref h1]) (n := 2) (Nat.le_of_ble_eq_true rfl)
  rw [lg_entry_eq]
  generalize (lg_sl ([.ref h0, .ref h1]) ++ List.replicate (2 - (lg_sl ([.ref h0, .ref h1])).length) Slot.unset).toArray = ls at hl ⊢
  have hl : lv_has ls 2 [(0, .ref h0), (1, .ref h1)] := hl
  refine hStart hHe hLe ?_
  clear hHe hLe
  have w_X5 : ∀ w ∈ wsX50, w ∈ wsX3_keeps := by decide +kernel
  have f_7 := hts (.fieldLink RX3 7 "ReferenceMover$LineChange" "home" "I") (by decide +kernel)
  have f_13 := hts (.fieldLink RX3 13 "ReferenceMover$LineChange" "sheet" "I") (by decide +kernel)
  have f_16 := hts (.fieldLink RX3 16 "ReferenceMover$LineChange" "columns" "Z") (by decide +kernel)
  have w_X7 : ∀ w ∈ wsX70, w ∈ wsX3_keeps := by decide +kernel
  have f_35 := hts (.fieldLink RX3 35 "ReferenceMover$Reference" "rows" "LReferenceMover$Span;") (by decide +kernel)
  have f_32 := hts (.fieldLink RX3 32 "ReferenceMover$Reference" "columns" "LReferenceMover$Span;") (by decide +kernel)
  refine lv_aload_n hx hb dX3_keeps_0 rfl (lv_at hl 1 rfl) ?_
  refine lv_aload_n hx hb dX3_keeps_1 rfl (lv_at hl 0 rfl) ?_
  refine va_get (D := D) (ci := 3) (v := .int hm) (C := RX5) (T := TX5) (N := 5) hx hb hts w_X5 hown hK hP 0 rfl rfl 0 (by decide) f_7 (fun _ h9 => h9) rfl dX3_keeps_2 ?_
  have hPc := hP.sub (ws' := [(h1, .inr (5, [.ref h2, .ref h3, .int isr, .int wh, .int sh]))]) [1] rfl
  have hDc := hD.sub (ws' := [(h1, .inr (5, [.ref h2, .ref h3, .int isr, .int wh, .int sh]))]) [1] (by decide) rfl
  have hKc := hK.sub (tys' := []) [] rfl
  refine rd_i (va_runV (As := [.int hm]) (rest := []) ⟨hx, hb, hml, hown, hts⟩ (kX7_sheetSeenFrom l D H.size h1 (.ref h2) (.ref h3) isr wh sh hm ) (cwV 1 hts gX3_keeps_X7_sheetSeenFrom rfl rfl rfl (by decide +kernel) ⟨Nat.le_of_ble_eq_true rfl, Nat.le_of_ble_eq_true rfl⟩) ⟨Pw_blind, (va_recv hKc hPc (ci := 5) (q0 := 0) rfl rfl), fun U hU hW => Pw_at hKc hPc hDc hN hU hW⟩ rfl rfl hl.1 rfl (lv_room (Nat.le_of_ble_eq_true rfl)) dX3_keeps_5 ⟨Nat.le_of_ble_eq_true rfl, Nat.le_of_ble_eq_true rfl⟩) ?_
  refine lv_aload_n hx hb dX3_keeps_8 rfl (lv_at hl 0 rfl) ?_
  refine va_get (D := D) (ci := 3) (v := .int si) (C := RX5) (T := TX5) (N := 5) hx hb hts w_X5 hown hK hP 0 rfl rfl 1 (by decide) f_13 (fun _ h9 => h9) rfl dX3_keeps_9 ?_
  refine lv_icmp_ne (tgt := 40) hx hb dX3_keeps_12 (by decide) (fun c12 => ?_) (fun c12 => ?_)
  · refine lv_iconst (v := 1) hx hb dX3_keeps_40 (by decide) ?_
    refine lv_goto (tgt := 45) hx hb dX3_keeps_41 (by decide) ?_
    have hF : (fX3_keeps_5 hm si co at_ nn sh rl rf ra kl kf ka) = (1, rf, ra, kf, ka) := by exact (if_neg c12)
    subst hAe
    subst hQe
    exact W.zret (v := 1) hx hb hr rfl (fun t ht hW => ⟨⟨_, _, rfl, ⟨(), trivial, by rw [hF], by rw [hF]⟩, by rw [ht]; exact hP, hD⟩, hS.F ht⟩) hS.2.2 dX3_keeps_45
  · refine lv_aload_n hx hb dX3_keeps_15 rfl (lv_at hl 0 rfl) ?_
    refine lv_aload_n hx hb dX3_keeps_16 rfl (lv_at hl 0 rfl) ?_
    refine va_get (D := D) (ci := 3) (v := .int co) (C := RX5) (T := TX5) (N := 5) hx hb hts w_X5 hown hK hP 0 rfl rfl 2 (by decide) f_16 (fun _ h9 => h9) rfl dX3_keeps_17 ?_
    refine lv_if_eq (tgt := 30) hx hb dX3_keeps_20 (by decide) (fun c20 => ?_) (fun c20 => ?_)
    · refine lv_aload_n hx hb dX3_keeps_30 rfl (lv_at hl 1 rfl) ?_
      refine va_get (D := D) (ci := 5) (v := .ref h2) (C := RX7) (T := TX7) (N := 5) hx hb hts w_X7 hown hK hP 1 rfl rfl 0 (by decide) f_35 (fun _ h9 => h9) rfl dX3_keeps_31 ?_
      have hPc := hP.sub (ws' := [(h0, .inr (3, [.int hm, .int si, .int co, .int at_, .int nn])), (h2, .inr (6, [.int rl, .int rf, .int ra, .int rx, .int ry]))]) [0, 2] rfl
      have hDc := hD.sub (ws' := [(h0, .inr (3, [.int hm, .int si, .int co, .int at_, .int nn])), (h2, .inr (6, [.int rl, .int rf, .int ra, .int rx, .int ry]))]) [0, 2] (by decide) rfl
      have hKc := hK.sub (tys' := []) [] rfl
      refine wk_i (β := Unit) (ok := fun _ => True) (wc := [(h0, .inr (3, [.int hm, .int si, .int co, .int at_, .int nn])), (h2, .inr (6, [.int rl, .int rf, .int ra, .int rx, .int ry]))]) (wr := [(h1, .inr (5, [.ref h2, .ref h3, .int isr, .int wh, .int sh])), (h3, .inr (6, [.int kl, .int kf, .int ka, .int kx, .int ky]))]) (w1 := fun _ => [(h0, .inr (3, [.int hm, .int si, .int co, .int at_, .int nn])), (h2, .inr (6, [.int rl, .int (fX5_keepsLines at_ nn rl rf ra).2.1, .int (fX5_keepsLines at_ nn rl rf ra).2.2, .int rx, .int ry]))]) (ws2 := fun _ => [(h0, .inr (3, [.int hm, .int si, .int co, .int at_, .int nn])), (h1, .inr (5, [.ref h2, .ref h3, .int isr, .int wh, .int sh])), (h2, .inr (6, [.int rl, .int (fX5_keepsLines at_ nn rl rf ra).2.1, .int (fX5_keepsLines at_ nn rl rf ra).2.2, .int rx, .int ry])), (h3, .inr (6, [.int kl, .int kf, .int ka, .int kx, .int ky]))]) (r1 := fun _ => (fX5_keepsLines at_ nn rl rf ra).1) (va_runU (As := [.ref h2]) (rest := []) ⟨hx, hb, hml, hown, hts⟩ (kX5_keepsLines l D H.size h0 h2 hm si co at_ nn rl rf ra rx ry ) (va_cwA 1 hts gX3_keeps_X5_keepsLines_u38X5 rfl rfl rfl hN.2.2.2.2.2.2.2.2 (by decide +kernel) ⟨Nat.le_of_ble_eq_true rfl, Nat.le_of_ble_eq_true rfl⟩) ⟨Pw_blind, (va_recv hKc hPc (ci := 3) (q0 := 0) rfl rfl), fun U hU hW => Pw_at hKc hPc hDc hN hU hW⟩ rfl rfl hl.1 rfl (lv_room (Nat.le_of_ble_eq_true rfl)) dX3_keeps_34 ⟨Nat.le_of_ble_eq_true rfl, Nat.le_of_ble_eq_true rfl⟩) hP hD hS hA [0, 2] [1, 3] [2, 0, 3, 1] rfl rfl (by decide) (by decide) (fun _ => rfl) (by decide) (fun _ _ H locs hP hD hS => ?_)
      have hP : va_P D vwCl [(h0, .inr (3, [.int hm, .int si, .int co, .int at_, .int nn])), (h1, .inr (5, [.ref h2, .ref h3, .int isr, .int wh, .int sh])), (h2, .inr (6, [.int rl, .int (fX5_keepsLines at_ nn rl rf ra).2.1, .int (fX5_keepsLines at_ nn rl rf ra).2.2, .int rx, .int ry])), (h3, .inr (6, [.int kl, .int kf, .int ka, .int kx, .int ky]))] H := hP
      have hD : va_D A [(h0, .inr (3, [.int hm, .int si, .int co, .int at_, .int nn])), (h1, .inr (5, [.ref h2, .ref h3, .int isr, .int wh, .int sh])), (h2, .inr (6, [.int rl, .int (fX5_keepsLines at_ nn rl rf ra).2.1, .int (fX5_keepsLines at_ nn rl rf ra).2.2, .int rx, .int ry])), (h3, .inr (6, [.int kl, .int kf, .int ka, .int kx, .int ky]))] := hD
      refine lv_if_eq (tgt := 44) hx hb dX3_keeps_37 (by decide) (fun c37 => ?_) (fun c37 => ?_)
      · refine lv_iconst (v := 0) hx hb dX3_keeps_44 (by decide) ?_
        have hF : (fX3_keeps_5 hm si co at_ nn sh rl rf ra kl kf ka) = (0, (fX5_keepsLines at_ nn rl rf ra).2.1, (fX5_keepsLines at_ nn rl rf ra).2.2, kf, ka) := by exact ((if_pos c12).trans ((if_pos c20).trans (if_pos c37)))
        subst hAe
        subst hQe
        exact W.zret (v := 0) hx hb hr rfl (fun t ht hW => ⟨⟨_, _, rfl, ⟨(), trivial, by rw [hF], by rw [hF]⟩, by rw [ht]; exact hP, hD⟩, hS.F ht⟩) hS.2.2 dX3_keeps_45
      · refine lv_iconst (v := 1) hx hb dX3_keeps_40 (by decide) ?_
        refine lv_goto (tgt := 45) hx hb dX3_keeps_41 (by decide) ?_
        have hF : (fX3_keeps_5 hm si co at_ nn sh rl rf ra kl kf ka) = (1, (fX5_keepsLines at_ nn rl rf ra).2.1, (fX5_keepsLines at_ nn rl rf ra).2.2, kf, ka) := by exact ((if_pos c12).trans ((if_pos c20).trans (if_neg c37)))
        subst hAe
        subst hQe
        exact W.zret (v := 1) hx hb hr rfl (fun t ht hW => ⟨⟨_, _, rfl, ⟨(), trivial, by rw [hF], by rw [hF]⟩, by rw [ht]; exact hP, hD⟩, hS.F ht⟩) hS.2.2 dX3_keeps_45
    · refine lv_aload_n hx hb dX3_keeps_23 rfl (lv_at hl 1 rfl) ?_
      refine va_get (D := D) (ci := 5) (v := .ref h3) (C := RX7) (T := TX7) (N := 5) hx hb hts w_X7 hown hK hP 1 rfl rfl 1 (by decide) f_32 (fun _ h9 => h9) rfl dX3_keeps_24 ?_
      refine lv_goto (tgt := 34) hx hb dX3_keeps_27 (by decide) ?_
      have hPc := hP.sub (ws' := [(h0, .inr (3, [.int hm, .int si, .int co, .int at_, .int nn])), (h3, .inr (6, [.int kl, .int kf, .int ka, .int kx, .int ky]))]) [0, 3] rfl
      have hDc := hD.sub (ws' := [(h0, .inr (3, [.int hm, .int si, .int co, .int at_, .int nn])), (h3, .inr (6, [.int kl, .int kf, .int ka, .int kx, .int ky]))]) [0, 3] (by decide) rfl
      have hKc := hK.sub (tys' := []) [] rfl
      refine wk_i (β := Unit) (ok := fun _ => True) (wc := [(h0, .inr (3, [.int hm, .int si, .int co, .int at_, .int nn])), (h3, .inr (6, [.int kl, .int kf, .int ka, .int kx, .int ky]))]) (wr := [(h1, .inr (5, [.ref h2, .ref h3, .int isr, .int wh, .int sh])), (h2, .inr (6, [.int rl, .int rf, .int ra, .int rx, .int ry]))]) (w1 := fun _ => [(h0, .inr (3, [.int hm, .int si, .int co, .int at_, .int nn])), (h3, .inr (6, [.int kl, .int (fX5_keepsLines at_ nn kl kf ka).2.1, .int (fX5_keepsLines at_ nn kl kf ka).2.2, .int kx, .int ky]))]) (ws2 := fun _ => [(h0, .inr (3, [.int hm, .int si, .int co, .int at_, .int nn])), (h1, .inr (5, [.ref h2, .ref h3, .int isr, .int wh, .int sh])), (h2, .inr (6, [.int rl, .int rf, .int ra, .int rx, .int ry])), (h3, .inr (6, [.int kl, .int (fX5_keepsLines at_ nn kl kf ka).2.1, .int (fX5_keepsLines at_ nn kl kf ka).2.2, .int kx, .int ky]))]) (r1 := fun _ => (fX5_keepsLines at_ nn kl kf ka).1) (va_runU (As := [.ref h3]) (rest := []) ⟨hx, hb, hml, hown, hts⟩ (kX5_keepsLines l D H.size h0 h3 hm si co at_ nn kl kf ka kx ky ) (va_cwA 1 hts gX3_keeps_X5_keepsLines_u38X5 rfl rfl rfl hN.2.2.2.2.2.2.2.2 (by decide +kernel) ⟨Nat.le_of_ble_eq_true rfl, Nat.le_of_ble_eq_true rfl⟩) ⟨Pw_blind, (va_recv hKc hPc (ci := 3) (q0 := 0) rfl rfl), fun U hU hW => Pw_at hKc hPc hDc hN hU hW⟩ rfl rfl hl.1 rfl (lv_room (Nat.le_of_ble_eq_true rfl)) dX3_keeps_34 ⟨Nat.le_of_ble_eq_true rfl, Nat.le_of_ble_eq_true rfl⟩) hP hD hS hA [0, 3] [1, 2] [2, 0, 1, 3] rfl rfl (by decide) (by decide) (fun _ => rfl) (by decide) (fun _ _ H locs hP hD hS => ?_)
      have hP : va_P D vwCl [(h0, .inr (3, [.int hm, .int si, .int co, .int at_, .int nn])), (h1, .inr (5, [.ref h2, .ref h3, .int isr, .int wh, .int sh])), (h2, .inr (6, [.int rl, .int rf, .int ra, .int rx, .int ry])), (h3, .inr (6, [.int kl, .int (fX5_keepsLines at_ nn kl kf ka).2.1, .int (fX5_keepsLines at_ nn kl kf ka).2.2, .int kx, .int ky]))] H := hP
      have hD : va_D A [(h0, .inr (3, [.int hm, .int si, .int co, .int at_, .int nn])), (h1, .inr (5, [.ref h2, .ref h3, .int isr, .int wh, .int sh])), (h2, .inr (6, [.int rl, .int rf, .int ra, .int rx, .int ry])), (h3, .inr (6, [.int kl, .int (fX5_keepsLines at_ nn kl kf ka).2.1, .int (fX5_keepsLines at_ nn kl kf ka).2.2, .int kx, .int ky]))] := hD
      refine lv_if_eq (tgt := 44) hx hb dX3_keeps_37 (by decide) (fun c37 => ?_) (fun c37 => ?_)
      · refine lv_iconst (v := 0) hx hb dX3_keeps_44 (by decide) ?_
        have hF : (fX3_keeps_5 hm si co at_ nn sh rl rf ra kl kf ka) = (0, rf, ra, (fX5_keepsLines at_ nn kl kf ka).2.1, (fX5_keepsLines at_ nn kl kf ka).2.2) := by exact ((if_pos c12).trans ((if_neg c20).trans (if_pos c37)))
        subst hAe
        subst hQe
        exact W.zret (v := 0) hx hb hr rfl (fun t ht hW => ⟨⟨_, _, rfl, ⟨(), trivial, by rw [hF], by rw [hF]⟩, by rw [ht]; exact hP, hD⟩, hS.F ht⟩) hS.2.2 dX3_keeps_45
      · refine lv_iconst (v := 1) hx hb dX3_keeps_40 (by decide) ?_
        refine lv_goto (tgt := 45) hx hb dX3_keeps_41 (by decide) ?_
        have hF : (fX3_keeps_5 hm si co at_ nn sh rl rf ra kl kf ka) = (1, rf, ra, (fX5_keepsLines at_ nn kl kf ka).2.1, (fX5_keepsLines at_ nn kl kf ka).2.2) := by exact ((if_pos c12).trans ((if_neg c20).trans (if_neg c37)))
        subst hAe
        subst hQe
        exact W.zret (v := 1) hx hb hr rfl (fun t ht hW => ⟨⟨_, _, rfl, ⟨(), trivial, by rw [hF], by rw [hF]⟩, by rw [ht]; exact hP, hD⟩, hS.F ht⟩) hS.2.2 dX3_keeps_45

def fX6_keeps (hm : Int32) (nh : Int32) (cs : Int32) (ct : Int32) (cl : Int32) (cb : Int32) (cr : Int32) (ts : Int32) (tt : Int32) (tl : Int32) (tb : Int32) (tr : Int32) (sh : Int32) (rf : Int32) (ra : Int32) (kf : Int32) (ka : Int32) : Int32 × Int32 × Int32 × Int32 × Int32 × Int32 := if (fX0_holds cs ct cl cb cr sh rf ra kf ka hm) = 0 then (if (fX0_holds ts tt tl tb tr sh rf ra kf ka hm) = 0 then (let v_1 : Int32 := (if sh = (-1) then (if (fX7_sheetSeenFrom sh hm) = nh then sh else (fX7_sheetSeenFrom sh hm)) else (fX7_sheetSeenFrom sh hm)); (1, v_1, rf, ra, kf, ka)) else (0, sh, rf, ra, kf, ka)) else (let v_2 : Int32 := (if sh = (-1) then (if ts = nh then sh else ts) else ts); (1, v_2, (rf + (tt - ct)), (ra + (tt - ct)), (kf + (tl - cl)), (ka + (tl - cl))))
theorem zb_X6_keeps (hm : Int32) (nh : Int32) (cs : Int32) (ct : Int32) (cl : Int32) (cb : Int32) (cr : Int32) (ts : Int32) (tt : Int32) (tl : Int32) (tb : Int32) (tr : Int32) (sh : Int32) (rf : Int32) (ra : Int32) (kf : Int32) (ka : Int32) : isB (fX6_keeps hm nh cs ct cl cb cr ts tt tl tb tr sh rf ra kf ka).1 := by
  unfold fX6_keeps
  (try dsimp only)
  repeat' split
  all_goals first | exact Or.inl rfl | exact Or.inr rfl
abbrev rmX6_keeps : Room := { frames := 2, cells := 0, slots := 0, locals := 44 }
abbrev qX6_keeps (D : va_G) (sz : Nat) (h0 : Nat) (h4 : Nat) (h5 : Nat) (hm : Int32) (nh : Int32) (cs : Int32) (ct : Int32) (cl : Int32) (cb : Int32) (cr : Int32) (ts : Int32) (tt : Int32) (tl : Int32) (tb : Int32) (tr : Int32) (h1 : Nat) (h2 : Nat) (h3 : Nat) (isr : Int32) (wh : Int32) (sh : Int32) (rl : Int32) (rf : Int32) (ra : Int32) (rx : Int32) (ry : Int32) (kl : Int32) (kf : Int32) (ka : Int32) (kx : Int32) (ky : Int32) : Array Value → State → Outcome → State → Prop := va_Qi (fun r_9 w_9 => ∃ _u : Unit, True ∧ r_9 = (fX6_keeps hm nh cs ct cl cb cr ts tt tl tb tr sh rf ra kf ka).1 ∧ w_9 = [(h0, .inr (4, [.int hm, .int nh, .ref h4, .ref h5])), (h4, .inr (0, [.int cs, .int ct, .int cl, .int cb, .int cr])), (h5, .inr (0, [.int ts, .int tt, .int tl, .int tb, .int tr])), (h1, .inr (5, [.ref h2, .ref h3, .int isr, .int wh, .int (fX6_keeps hm nh cs ct cl cb cr ts tt tl tb tr sh rf ra kf ka).2.1])), (h2, .inr (6, [.int rl, .int (fX6_keeps hm nh cs ct cl cb cr ts tt tl tb tr sh rf ra kf ka).2.2.1, .int (fX6_keeps hm nh cs ct cl cb cr ts tt tl tb tr sh rf ra kf ka).2.2.2.1, .int rx, .int ry])), (h3, .inr (6, [.int kl, .int (fX6_keeps hm nh cs ct cl cb cr ts tt tl tb tr sh rf ra kf ka).2.2.2.2.1, .int (fX6_keeps hm nh cs ct cl cb cr ts tt tl tb tr sh rf ra kf ka).2.2.2.2.2, .int kx, .int ky]))]) (Bq D (va_A [(h0, .inr (4, [.int hm, .int nh, .ref h4, .ref h5])), (h4, .inr (0, [.int cs, .int ct, .int cl, .int cb, .int cr])), (h5, .inr (0, [.int ts, .int tt, .int tl, .int tb, .int tr])), (h1, .inr (5, [.ref h2, .ref h3, .int isr, .int wh, .int sh])), (h2, .inr (6, [.int rl, .int rf, .int ra, .int rx, .int ry])), (h3, .inr (6, [.int kl, .int kf, .int ka, .int kx, .int ky]))] sz)) (va_A [(h0, .inr (4, [.int hm, .int nh, .ref h4, .ref h5])), (h4, .inr (0, [.int cs, .int ct, .int cl, .int cb, .int cr])), (h5, .inr (0, [.int ts, .int tt, .int tl, .int tb, .int tr])), (h1, .inr (5, [.ref h2, .ref h3, .int isr, .int wh, .int sh])), (h2, .inr (6, [.int rl, .int rf, .int ra, .int rx, .int ry])), (h3, .inr (6, [.int kl, .int kf, .int ka, .int kx, .int ky]))] sz)
set_option maxHeartbeats 4000000 in
set_option maxRecDepth 100000 in
theorem kX6_keeps (l : Launch) (D : va_G) (sz : Nat) (h0 : Nat) (h4 : Nat) (h5 : Nat) (hm : Int32) (nh : Int32) (cs : Int32) (ct : Int32) (cl : Int32) (cb : Int32) (cr : Int32) (ts : Int32) (tt : Int32) (tl : Int32) (tb : Int32) (tr : Int32) (h1 : Nat) (h2 : Nat) (h3 : Nat) (isr : Int32) (wh : Int32) (sh : Int32) (rl : Int32) (rf : Int32) (ra : Int32) (rx : Int32) (ry : Int32) (kl : Int32) (kf : Int32) (ka : Int32) (kx : Int32) (ky : Int32) : Met l yX6_keeps wsX6_keeps rmX6_keeps (va_Pc [.ref h0, .ref h1] (Pw D [] [(h0, .inr (4, [.int hm, .int nh, .ref h4, .ref h5])), (h4, .inr (0, [.int cs, .int ct, .int cl, .int cb, .int cr])), (h5, .inr (0, [.int ts, .int tt, .int tl, .int tb, .int tr])), (h1, .inr (5, [.ref h2, .ref h3, .int isr, .int wh, .int sh])), (h2, .inr (6, [.int rl, .int rf, .int ra, .int rx, .int ry])), (h3, .inr (6, [.int kl, .int kf, .int ka, .int kx, .int ky]))] sz)) (qX6_keeps D sz h0 h4 h5 hm nh cs ct cl cb cr ts tt tl tb tr h1 h2 h3 isr wh sh rl rf ra rx ry kl kf ka kx ky) 0 0 (va_A [(h0, .inr (4, [.int hm, .int nh, .ref h4, .ref h5])), (h4, .inr (0, [.int cs, .int ct, .int cl, .int cb, .int cr])), (h5, .inr (0, [.int ts, .int tt, .int tl, .int tb, .int tr])), (h1, .inr (5, [.ref h2, .ref h3, .int isr, .int wh, .int sh])), (h2, .inr (6, [.int rl, .int rf, .int ra, .int rx, .int ry])), (h3, .inr (6, [.int kl, .int kf, .int ka, .int kx, .int ky]))] sz) := by
  refine Met.ofW (cc := cX6_keeps) (maxL := 3) (ret := (some .boolean)) (by decide) rfl ?_
  intro p e s m args below meth c s₁ B hml hv
  obtain ⟨rfl, hsz, hP, hK, hD0, hN⟩ := hv
  have hx := B.exec
  have hb := B.bytes
  have hr := B.returns
  have hts := atoms_spec (ws := wsX6_keeps) B.pre
  have hown : s.vm.findClass RX6 = some m.cls := findClass_of_methodNamed B.named
  have hlocks := B.notSynchronized
  subst hsz
  obtain ⟨Q, hQe⟩ : ∃ Q, Q = MQ below (qX6_keeps D s.heap.size h0 h4 h5 hm nh cs ct cl cb cr ts tt tl tb tr h1 h2 h3 isr wh sh rl rf ra rx ry kl kf ka kx ky) ([.ref h0, .ref h1] : List Value).toArray s 0 0 (va_A [(h0, .inr (4, [.int hm, .int nh, .ref h4, .ref h5])), (h4, .inr (0, [.int cs, .int ct, .int cl, .int cb, .int cr])), (h5, .inr (0, [.int ts, .int tt, .int tl, .int tb, .int tr])), (h1, .inr (5, [.ref h2, .ref h3, .int isr, .int wh, .int sh])), (h2, .inr (6, [.int rl, .int rf, .int ra, .int rx, .int ry])), (h3, .inr (6, [.int kl, .int kf, .int ka, .int kx, .int ky]))] s.heap.size) := ⟨_, rfl⟩
  rw [← hQe]
  obtain ⟨A, hAe⟩ : ∃ A, A = va_A [(h0, .inr (4, [.int hm, .int nh, .ref h4, .ref h5])), (h4, .inr (0, [.int cs, .int ct, .int cl, .int cb, .int cr])), (h5, .inr (0, [.int ts, .int tt, .int tl, .int tb, .int tr])), (h1, .inr (5, [.ref h2, .ref h3, .int isr, .int wh, .int sh])), (h2, .inr (6, [.int rl, .int rf, .int ra, .int rx, .int ry])), (h3, .inr (6, [.int kl, .int kf, .int ka, .int kx, .int ky]))] s.heap.size := ⟨_, rfl⟩
  have hD : va_D A [(h0, .inr (4, [.int hm, .int nh, .ref h4, .ref h5])), (h4, .inr (0, [.int cs, .int ct, .int cl, .int cb, .int cr])), (h5, .inr (0, [.int ts, .int tt, .int tl, .int tb, .int tr])), (h1, .inr (5, [.ref h2, .ref h3, .int isr, .int wh, .int sh])), (h2, .inr (6, [.int rl, .int rf, .int ra, .int rx, .int ry])), (h3, .inr (6, [.int kl, .int kf, .int ka, .int kx, .int ky]))] := by rw [hAe]; exact hD0.self
  have hA : ∀ q : Nat, s.heap.size ≤ q → A q := by rw [hAe]; exact mo_A
  have hS : va_S A s.heap s.heap [] := va_S.rf
  obtain ⟨H, hHe⟩ : ∃ H, H = s.heap := ⟨_, rfl⟩
  obtain ⟨locs, hLe⟩ : ∃ L : List Loc, L = [] := ⟨_, rfl⟩
  have hP : va_P D vwCl [(h0, .inr (4, [.int hm, .int nh, .ref h4, .ref h5])), (h4, .inr (0, [.int cs, .int ct, .int cl, .int cb, .int cr])), (h5, .inr (0, [.int ts, .int tt, .int tl, .int tb, .int tr])), (h1, .inr (5, [.ref h2, .ref h3, .int isr, .int wh, .int sh])), (h2, .inr (6, [.int rl, .int rf, .int ra, .int rx, .int ry])), (h3, .inr (6, [.int kl, .int kf, .int ka, .int kx, .int ky]))] H := by rw [hHe]; exact hP
  have hS : va_S A s.heap H locs := by rw [hHe, hLe]; exact hS
  have hl := lv_entry ([.ref h0, .ref h1]) (n := 3) (Nat.le_of_ble_eq_true rfl)
  rw [lg_entry_eq]
  generalize (lg_sl ([.ref h0, .ref h1]) ++ List.replicate (3 - (lg_sl ([.ref h0, .ref h1])).length) Slot.unset).toArray = ls at hl ⊢
  have hl : lv_has ls 3 [(0, .ref h0), (1, .ref h1)] := hl
  refine hStart hHe hLe ?_
  clear hHe hLe
  have w_X6 : ∀ w ∈ wsX60, w ∈ wsX6_keeps := by decide +kernel
  have f_9 := hts (.fieldLink RX6 9 "ReferenceMover$Moving" "home" "I") (by decide +kernel)
  have f_18 := hts (.fieldLink RX6 18 "ReferenceMover$Moving" "cut" "LReferenceMover$Area;") (by decide +kernel)
  have f_22 := hts (.fieldLink RX6 22 "ReferenceMover$Moving" "target" "LReferenceMover$Area;") (by decide +kernel)
  have w_X7 : ∀ w ∈ wsX70, w ∈ wsX6_keeps := by decide +kernel
  have f_59 := hts (.fieldLink RX6 59 "ReferenceMover$Reference" "sheet" "I") (by decide +kernel)
  have f_15 := hts (.fieldLink RX6 15 "ReferenceMover$Moving" "newHome" "I") (by decide +kernel)
  have f_37 := hts (.fieldLink RX6 37 "ReferenceMover$Reference" "rows" "LReferenceMover$Span;") (by decide +kernel)
  have w_X0 : ∀ w ∈ wsX00, w ∈ wsX6_keeps := by decide +kernel
  have f_41 := hts (.fieldLink RX6 41 "ReferenceMover$Area" "top" "I") (by decide +kernel)
  have f_50 := hts (.fieldLink RX6 50 "ReferenceMover$Reference" "columns" "LReferenceMover$Span;") (by decide +kernel)
  have f_53 := hts (.fieldLink RX6 53 "ReferenceMover$Area" "left" "I") (by decide +kernel)
  have f_56 := hts (.fieldLink RX6 56 "ReferenceMover$Area" "sheet" "I") (by decide +kernel)
  refine lv_aload_n hx hb dX6_keeps_0 rfl (lv_at hl 1 rfl) ?_
  refine lv_aload_n hx hb dX6_keeps_1 rfl (lv_at hl 0 rfl) ?_
  refine va_get (D := D) (ci := 4) (v := .int hm) (C := RX6) (T := TX6) (N := 4) hx hb hts w_X6 hown hK hP 0 rfl rfl 0 (by decide) f_9 (fun _ h9 => h9) rfl dX6_keeps_2 ?_
  have hPc := hP.sub (ws' := [(h1, .inr (5, [.ref h2, .ref h3, .int isr, .int wh, .int sh]))]) [3] rfl
  have hDc := hD.sub (ws' := [(h1, .inr (5, [.ref h2, .ref h3, .int isr, .int wh, .int sh]))]) [3] (by decide) rfl
  have hKc := hK.sub (tys' := []) [] rfl
  refine rd_i (va_runV (As := [.int hm]) (rest := []) ⟨hx, hb, hml, hown, hts⟩ (kX7_sheetSeenFrom l D H.size h1 (.ref h2) (.ref h3) isr wh sh hm ) (cwV 1 hts gX6_keeps_X7_sheetSeenFrom rfl rfl rfl (by decide +kernel) ⟨Nat.le_of_ble_eq_true rfl, Nat.le_of_ble_eq_true rfl⟩) ⟨Pw_blind, (va_recv hKc hPc (ci := 5) (q0 := 0) rfl rfl), fun U hU hW => Pw_at hKc hPc hDc hN hU hW⟩ rfl rfl hl.1 rfl (lv_room (Nat.le_of_ble_eq_true rfl)) dX6_keeps_5 ⟨Nat.le_of_ble_eq_true rfl, Nat.le_of_ble_eq_true rfl⟩) ?_
  refine lv_istore_n (lv' := [(2, .int (fX7_sheetSeenFrom sh hm)), (0, .ref h0), (1, .ref h1)]) hx hb dX6_keeps_8 rfl hl (by decide) rfl (fun ls hl => ?_)
  refine lv_aload_n hx hb dX6_keeps_9 rfl (lv_at hl 1 rfl) ?_
  refine va_get (D := D) (ci := 4) (v := .ref h4) (C := RX6) (T := TX6) (N := 4) hx hb hts w_X6 hown hK hP 0 rfl rfl 2 (by decide) f_18 (fun _ h9 => h9) rfl dX6_keeps_10 ?_
  refine lv_aload_n hx hb dX6_keeps_13 rfl (lv_at hl 2 rfl) ?_
  refine lv_aload_n hx hb dX6_keeps_14 rfl (lv_at hl 1 rfl) ?_
  refine va_get (D := D) (ci := 4) (v := .int hm) (C := RX6) (T := TX6) (N := 4) hx hb hts w_X6 hown hK hP 0 rfl rfl 0 (by decide) f_9 (fun _ h9 => h9) rfl dX6_keeps_15 ?_
  have hPc := hP.sub (ws' := [(h4, .inr (0, [.int cs, .int ct, .int cl, .int cb, .int cr])), (h1, .inr (5, [.ref h2, .ref h3, .int isr, .int wh, .int sh])), (h2, .inr (6, [.int rl, .int rf, .int ra, .int rx, .int ry])), (h3, .inr (6, [.int kl, .int kf, .int ka, .int kx, .int ky]))]) [1, 3, 4, 5] rfl
  have hDc := hD.sub (ws' := [(h4, .inr (0, [.int cs, .int ct, .int cl, .int cb, .int cr])), (h1, .inr (5, [.ref h2, .ref h3, .int isr, .int wh, .int sh])), (h2, .inr (6, [.int rl, .int rf, .int ra, .int rx, .int ry])), (h3, .inr (6, [.int kl, .int kf, .int ka, .int kx, .int ky]))]) [1, 3, 4, 5] (by decide) rfl
  have hKc := hK.sub (tys' := []) [] rfl
  refine rd_i (va_runV (As := [.ref h1, .int hm]) (rest := []) ⟨hx, hb, hml, hown, hts⟩ (kX0_holds l D H.size h4 cs ct cl cb cr h1 h2 h3 isr wh sh rl rf ra rx ry kl kf ka kx ky hm ) (cwV 2 hts gX6_keeps_X0_holds rfl rfl rfl (by decide +kernel) ⟨Nat.le_of_ble_eq_true rfl, Nat.le_of_ble_eq_true rfl⟩) ⟨Pw_blind, (va_recv hKc hPc (ci := 0) (q0 := 0) rfl rfl), fun U hU hW => Pw_at hKc hPc hDc hN hU hW⟩ rfl rfl hl.1 rfl (lv_room (Nat.le_of_ble_eq_true rfl)) dX6_keeps_18 ⟨Nat.le_of_ble_eq_true rfl, Nat.le_of_ble_eq_true rfl⟩) ?_
  refine lv_if_eq (tgt := 79) hx hb dX6_keeps_21 (by decide) (fun c21 => ?_) (fun c21 => ?_)
  · refine lv_aload_n hx hb dX6_keeps_79 rfl (lv_at hl 1 rfl) ?_
    refine va_get (D := D) (ci := 4) (v := .ref h5) (C := RX6) (T := TX6) (N := 4) hx hb hts w_X6 hown hK hP 0 rfl rfl 3 (by decide) f_22 (fun _ h9 => h9) rfl dX6_keeps_80 ?_
    refine lv_aload_n hx hb dX6_keeps_83 rfl (lv_at hl 2 rfl) ?_
    refine lv_aload_n hx hb dX6_keeps_84 rfl (lv_at hl 1 rfl) ?_
    refine va_get (D := D) (ci := 4) (v := .int hm) (C := RX6) (T := TX6) (N := 4) hx hb hts w_X6 hown hK hP 0 rfl rfl 0 (by decide) f_9 (fun _ h9 => h9) rfl dX6_keeps_85 ?_
    have hPc := hP.sub (ws' := [(h5, .inr (0, [.int ts, .int tt, .int tl, .int tb, .int tr])), (h1, .inr (5, [.ref h2, .ref h3, .int isr, .int wh, .int sh])), (h2, .inr (6, [.int rl, .int rf, .int ra, .int rx, .int ry])), (h3, .inr (6, [.int kl, .int kf, .int ka, .int kx, .int ky]))]) [2, 3, 4, 5] rfl
    have hDc := hD.sub (ws' := [(h5, .inr (0, [.int ts, .int tt, .int tl, .int tb, .int tr])), (h1, .inr (5, [.ref h2, .ref h3, .int isr, .int wh, .int sh])), (h2, .inr (6, [.int rl, .int rf, .int ra, .int rx, .int ry])), (h3, .inr (6, [.int kl, .int kf, .int ka, .int kx, .int ky]))]) [2, 3, 4, 5] (by decide) rfl
    have hKc := hK.sub (tys' := []) [] rfl
    refine rd_i (va_runV (As := [.ref h1, .int hm]) (rest := []) ⟨hx, hb, hml, hown, hts⟩ (kX0_holds l D H.size h5 ts tt tl tb tr h1 h2 h3 isr wh sh rl rf ra rx ry kl kf ka kx ky hm ) (cwV 2 hts gX6_keeps_X0_holds rfl rfl rfl (by decide +kernel) ⟨Nat.le_of_ble_eq_true rfl, Nat.le_of_ble_eq_true rfl⟩) ⟨Pw_blind, (va_recv hKc hPc (ci := 0) (q0 := 0) rfl rfl), fun U hU hW => Pw_at hKc hPc hDc hN hU hW⟩ rfl rfl hl.1 rfl (lv_room (Nat.le_of_ble_eq_true rfl)) dX6_keeps_88 ⟨Nat.le_of_ble_eq_true rfl, Nat.le_of_ble_eq_true rfl⟩) ?_
    refine lv_if_eq (tgt := 96) hx hb dX6_keeps_91 (by decide) (fun c91 => ?_) (fun c91 => ?_)
    · refine lv_aload_n hx hb dX6_keeps_96 rfl (lv_at hl 2 rfl) ?_
      refine va_get (D := D) (ci := 5) (v := .int sh) (C := RX7) (T := TX7) (N := 5) hx hb hts w_X7 hown hK hP 3 rfl rfl 4 (by decide) f_59 (fun _ h9 => h9) rfl dX6_keeps_97 ?_
      refine lv_iconst (v := (-1)) hx hb dX6_keeps_100 (by decide) ?_
      have K117_1 : ∀ (v_1 : Int32), v_1 = (if sh = (-1) then (if (fX7_sheetSeenFrom sh hm) = nh then sh else (fX7_sheetSeenFrom sh hm)) else (fX7_sheetSeenFrom sh hm)) → ∀ (H : Heap) (locs : List Loc), va_P D vwCl [(h0, .inr (4, [.int hm, .int nh, .ref h4, .ref h5])), (h4, .inr (0, [.int cs, .int ct, .int cl, .int cb, .int cr])), (h5, .inr (0, [.int ts, .int tt, .int tl, .int tb, .int tr])), (h1, .inr (5, [.ref h2, .ref h3, .int isr, .int wh, .int v_1])), (h2, .inr (6, [.int rl, .int rf, .int ra, .int rx, .int ry])), (h3, .inr (6, [.int kl, .int kf, .int ka, .int kx, .int ky]))] H → va_D A [(h0, .inr (4, [.int hm, .int nh, .ref h4, .ref h5])), (h4, .inr (0, [.int cs, .int ct, .int cl, .int cb, .int cr])), (h5, .inr (0, [.int ts, .int tt, .int tl, .int tb, .int tr])), (h1, .inr (5, [.ref h2, .ref h3, .int isr, .int wh, .int v_1])), (h2, .inr (6, [.int rl, .int rf, .int ra, .int rx, .int ry])), (h3, .inr (6, [.int kl, .int kf, .int ka, .int kx, .int ky]))] → va_S A s.heap H locs → ∀ ls : Array Slot, lv_has ls 3 [] → W p l e (headSpec wsX6_keeps rmX6_keeps).room s m ([.ref h0, .ref h1] : List Value).toArray below meth c H locs 0 0 Q (F0 m 117 ls []) := by
        intro v_1 ev_1 H locs hP hD hS ls hl
        refine lv_iconst (v := 1) hx hb dX6_keeps_117 (by decide) ?_
        have hF : (fX6_keeps hm nh cs ct cl cb cr ts tt tl tb tr sh rf ra kf ka) = (1, v_1, rf, ra, kf, ka) := by subst ev_1; exact ((if_pos c21).trans (if_pos c91))
        subst hAe
        subst hQe
        exact W.zret (v := 1) hx hb hr rfl (fun t ht hW => ⟨⟨_, _, rfl, ⟨(), trivial, by rw [hF], by rw [hF]⟩, by rw [ht]; exact hP, hD⟩, hS.F ht⟩) hS.2.2 dX6_keeps_118
      refine lv_icmp_ne (tgt := 112) hx hb dX6_keeps_101 (by decide) (fun c101 => ?_) (fun c101 => ?_)
      · refine lv_aload_n hx hb dX6_keeps_112 rfl (lv_at hl 2 rfl) ?_
        refine lv_iload_n hx hb dX6_keeps_113 rfl (lv_at hl 0 rfl) ?_
        refine va_put (D := D) (ci := 5) (v := .int (fX7_sheetSeenFrom sh hm)) (ty := .int) (C := RX7) (T := TX7) (N := 5) hx hb hts w_X7 tyX7 tyX7_ok nmX7 hown hK hP hD hS 3 rfl rfl 4 (by decide) f_59 (fun _ h9 => h9) rfl (by decide +kernel) rfl rfl (Nat.le_of_ble_eq_true rfl) dX6_keeps_114 (fun H locs hP hD hS => ?_)
        have hP : va_P D vwCl [(h0, .inr (4, [.int hm, .int nh, .ref h4, .ref h5])), (h4, .inr (0, [.int cs, .int ct, .int cl, .int cb, .int cr])), (h5, .inr (0, [.int ts, .int tt, .int tl, .int tb, .int tr])), (h1, .inr (5, [.ref h2, .ref h3, .int isr, .int wh, .int (fX7_sheetSeenFrom sh hm)])), (h2, .inr (6, [.int rl, .int rf, .int ra, .int rx, .int ry])), (h3, .inr (6, [.int kl, .int kf, .int ka, .int kx, .int ky]))] H := hP
        have hD : va_D A [(h0, .inr (4, [.int hm, .int nh, .ref h4, .ref h5])), (h4, .inr (0, [.int cs, .int ct, .int cl, .int cb, .int cr])), (h5, .inr (0, [.int ts, .int tt, .int tl, .int tb, .int tr])), (h1, .inr (5, [.ref h2, .ref h3, .int isr, .int wh, .int (fX7_sheetSeenFrom sh hm)])), (h2, .inr (6, [.int rl, .int rf, .int ra, .int rx, .int ry])), (h3, .inr (6, [.int kl, .int kf, .int ka, .int kx, .int ky]))] := hD
        exact K117_1 _ (if_neg c101).symm H locs hP hD hS ls (lv_sub hl [] rfl)
      · refine lv_iload_n hx hb dX6_keeps_104 rfl (lv_at hl 0 rfl) ?_
        refine lv_aload_n hx hb dX6_keeps_105 rfl (lv_at hl 1 rfl) ?_
        refine va_get (D := D) (ci := 4) (v := .int nh) (C := RX6) (T := TX6) (N := 4) hx hb hts w_X6 hown hK hP 0 rfl rfl 1 (by decide) f_15 (fun _ h9 => h9) rfl dX6_keeps_106 ?_
        refine lv_icmp_eq (tgt := 117) hx hb dX6_keeps_109 (by decide) (fun c109 => ?_) (fun c109 => ?_)
        · exact K117_1 _ ((if_pos c101).trans (if_pos c109)).symm H locs hP hD hS ls (lv_sub hl [] rfl)
        · refine lv_aload_n hx hb dX6_keeps_112 rfl (lv_at hl 2 rfl) ?_
          refine lv_iload_n hx hb dX6_keeps_113 rfl (lv_at hl 0 rfl) ?_
          refine va_put (D := D) (ci := 5) (v := .int (fX7_sheetSeenFrom sh hm)) (ty := .int) (C := RX7) (T := TX7) (N := 5) hx hb hts w_X7 tyX7 tyX7_ok nmX7 hown hK hP hD hS 3 rfl rfl 4 (by decide) f_59 (fun _ h9 => h9) rfl (by decide +kernel) rfl rfl (Nat.le_of_ble_eq_true rfl) dX6_keeps_114 (fun H locs hP hD hS => ?_)
          have hP : va_P D vwCl [(h0, .inr (4, [.int hm, .int nh, .ref h4, .ref h5])), (h4, .inr (0, [.int cs, .int ct, .int cl, .int cb, .int cr])), (h5, .inr (0, [.int ts, .int tt, .int tl, .int tb, .int tr])), (h1, .inr (5, [.ref h2, .ref h3, .int isr, .int wh, .int (fX7_sheetSeenFrom sh hm)])), (h2, .inr (6, [.int rl, .int rf, .int ra, .int rx, .int ry])), (h3, .inr (6, [.int kl, .int kf, .int ka, .int kx, .int ky]))] H := hP
          have hD : va_D A [(h0, .inr (4, [.int hm, .int nh, .ref h4, .ref h5])), (h4, .inr (0, [.int cs, .int ct, .int cl, .int cb, .int cr])), (h5, .inr (0, [.int ts, .int tt, .int tl, .int tb, .int tr])), (h1, .inr (5, [.ref h2, .ref h3, .int isr, .int wh, .int (fX7_sheetSeenFrom sh hm)])), (h2, .inr (6, [.int rl, .int rf, .int ra, .int rx, .int ry])), (h3, .inr (6, [.int kl, .int kf, .int ka, .int kx, .int ky]))] := hD
          exact K117_1 _ ((if_pos c101).trans (if_neg c109)).symm H locs hP hD hS ls (lv_sub hl [] rfl)
    · refine lv_iconst (v := 0) hx hb dX6_keeps_94 (by decide) ?_
      have hF : (fX6_keeps hm nh cs ct cl cb cr ts tt tl tb tr sh rf ra kf ka) = (0, sh, rf, ra, kf, ka) := by exact ((if_pos c21).trans (if_neg c91))
      subst hAe
      subst hQe
      exact W.zret (v := 0) hx hb hr rfl (fun t ht hW => ⟨⟨_, _, rfl, ⟨(), trivial, by rw [hF], by rw [hF]⟩, by rw [ht]; exact hP, hD⟩, hS.F ht⟩) hS.2.2 dX6_keeps_95
  · refine lv_aload_n hx hb dX6_keeps_24 rfl (lv_at hl 2 rfl) ?_
    refine va_get (D := D) (ci := 5) (v := .ref h2) (C := RX7) (T := TX7) (N := 5) hx hb hts w_X7 hown hK hP 3 rfl rfl 0 (by decide) f_37 (fun _ h9 => h9) rfl dX6_keeps_25 ?_
    refine lv_aload_n hx hb dX6_keeps_28 rfl (lv_at hl 1 rfl) ?_
    refine va_get (D := D) (ci := 4) (v := .ref h5) (C := RX6) (T := TX6) (N := 4) hx hb hts w_X6 hown hK hP 0 rfl rfl 3 (by decide) f_22 (fun _ h9 => h9) rfl dX6_keeps_29 ?_
    refine va_get (D := D) (ci := 0) (v := .int tt) (C := RX0) (T := TX0) (N := 5) hx hb hts w_X0 hown hK hP 2 rfl rfl 1 (by decide) f_41 (fun _ h9 => h9) rfl dX6_keeps_32 ?_
    refine lv_aload_n hx hb dX6_keeps_35 rfl (lv_at hl 1 rfl) ?_
    refine va_get (D := D) (ci := 4) (v := .ref h4) (C := RX6) (T := TX6) (N := 4) hx hb hts w_X6 hown hK hP 0 rfl rfl 2 (by decide) f_18 (fun _ h9 => h9) rfl dX6_keeps_36 ?_
    refine va_get (D := D) (ci := 0) (v := .int ct) (C := RX0) (T := TX0) (N := 5) hx hb hts w_X0 hown hK hP 1 rfl rfl 1 (by decide) f_41 (fun _ h9 => h9) rfl dX6_keeps_39 ?_
    refine lv_isub hx hb dX6_keeps_42 ?_
    have hPc := hP.sub (ws' := [(h2, .inr (6, [.int rl, .int rf, .int ra, .int rx, .int ry]))]) [4] rfl
    have hDc := hD.sub (ws' := [(h2, .inr (6, [.int rl, .int rf, .int ra, .int rx, .int ry]))]) [4] (by decide) rfl
    have hKc := hK.sub (tys' := []) [] rfl
    refine wk_v (β := Unit) (ok := fun _ => True) (wc := [(h2, .inr (6, [.int rl, .int rf, .int ra, .int rx, .int ry]))]) (wr := [(h0, .inr (4, [.int hm, .int nh, .ref h4, .ref h5])), (h4, .inr (0, [.int cs, .int ct, .int cl, .int cb, .int cr])), (h5, .inr (0, [.int ts, .int tt, .int tl, .int tb, .int tr])), (h1, .inr (5, [.ref h2, .ref h3, .int isr, .int wh, .int sh])), (h3, .inr (6, [.int kl, .int kf, .int ka, .int kx, .int ky]))]) (w1 := fun _ => [(h2, .inr (6, [.int rl, .int (rf + (tt - ct)), .int (ra + (tt - ct)), .int rx, .int ry]))]) (ws2 := fun _ => [(h0, .inr (4, [.int hm, .int nh, .ref h4, .ref h5])), (h4, .inr (0, [.int cs, .int ct, .int cl, .int cb, .int cr])), (h5, .inr (0, [.int ts, .int tt, .int tl, .int tb, .int tr])), (h1, .inr (5, [.ref h2, .ref h3, .int isr, .int wh, .int sh])), (h2, .inr (6, [.int rl, .int (rf + (tt - ct)), .int (ra + (tt - ct)), .int rx, .int ry])), (h3, .inr (6, [.int kl, .int kf, .int ka, .int kx, .int ky]))]) (va_runV (As := [.int (tt - ct)]) (rest := []) ⟨hx, hb, hml, hown, hts⟩ (kX8_shift l D H.size h2 rl rf ra rx ry (tt - ct) ) (cwV 1 hts gX6_keeps_X8_shift rfl rfl rfl (by decide +kernel) ⟨Nat.le_of_ble_eq_true rfl, Nat.le_of_ble_eq_true rfl⟩) ⟨Pw_blind, (va_recv hKc hPc (ci := 6) (q0 := 0) rfl rfl), fun U hU hW => Pw_at hKc hPc hDc hN hU hW⟩ rfl rfl hl.1 rfl (lv_room (Nat.le_of_ble_eq_true rfl)) dX6_keeps_43 ⟨Nat.le_of_ble_eq_true rfl, Nat.le_of_ble_eq_true rfl⟩) hP hD hS hA [4] [0, 1, 2, 3, 5] [0, 1, 2, 3, 5, 4] rfl rfl (by decide) (by decide) (fun _ => rfl) (by decide) (fun _ _ H locs hP hD hS => ?_)
    have hP : va_P D vwCl [(h0, .inr (4, [.int hm, .int nh, .ref h4, .ref h5])), (h4, .inr (0, [.int cs, .int ct, .int cl, .int cb, .int cr])), (h5, .inr (0, [.int ts, .int tt, .int tl, .int tb, .int tr])), (h1, .inr (5, [.ref h2, .ref h3, .int isr, .int wh, .int sh])), (h2, .inr (6, [.int rl, .int (rf + (tt - ct)), .int (ra + (tt - ct)), .int rx, .int ry])), (h3, .inr (6, [.int kl, .int kf, .int ka, .int kx, .int ky]))] H := hP
    have hD : va_D A [(h0, .inr (4, [.int hm, .int nh, .ref h4, .ref h5])), (h4, .inr (0, [.int cs, .int ct, .int cl, .int cb, .int cr])), (h5, .inr (0, [.int ts, .int tt, .int tl, .int tb, .int tr])), (h1, .inr (5, [.ref h2, .ref h3, .int isr, .int wh, .int sh])), (h2, .inr (6, [.int rl, .int (rf + (tt - ct)), .int (ra + (tt - ct)), .int rx, .int ry])), (h3, .inr (6, [.int kl, .int kf, .int ka, .int kx, .int ky]))] := hD
    refine lv_aload_n hx hb dX6_keeps_46 rfl (lv_at hl 2 rfl) ?_
    refine va_get (D := D) (ci := 5) (v := .ref h3) (C := RX7) (T := TX7) (N := 5) hx hb hts w_X7 hown hK hP 3 rfl rfl 1 (by decide) f_50 (fun _ h9 => h9) rfl dX6_keeps_47 ?_
    refine lv_aload_n hx hb dX6_keeps_50 rfl (lv_at hl 1 rfl) ?_
    refine va_get (D := D) (ci := 4) (v := .ref h5) (C := RX6) (T := TX6) (N := 4) hx hb hts w_X6 hown hK hP 0 rfl rfl 3 (by decide) f_22 (fun _ h9 => h9) rfl dX6_keeps_51 ?_
    refine va_get (D := D) (ci := 0) (v := .int tl) (C := RX0) (T := TX0) (N := 5) hx hb hts w_X0 hown hK hP 2 rfl rfl 2 (by decide) f_53 (fun _ h9 => h9) rfl dX6_keeps_54 ?_
    refine lv_aload_n hx hb dX6_keeps_57 rfl (lv_at hl 1 rfl) ?_
    refine va_get (D := D) (ci := 4) (v := .ref h4) (C := RX6) (T := TX6) (N := 4) hx hb hts w_X6 hown hK hP 0 rfl rfl 2 (by decide) f_18 (fun _ h9 => h9) rfl dX6_keeps_58 ?_
    refine va_get (D := D) (ci := 0) (v := .int cl) (C := RX0) (T := TX0) (N := 5) hx hb hts w_X0 hown hK hP 1 rfl rfl 2 (by decide) f_53 (fun _ h9 => h9) rfl dX6_keeps_61 ?_
    refine lv_isub hx hb dX6_keeps_64 ?_
    have hPc := hP.sub (ws' := [(h3, .inr (6, [.int kl, .int kf, .int ka, .int kx, .int ky]))]) [5] rfl
    have hDc := hD.sub (ws' := [(h3, .inr (6, [.int kl, .int kf, .int ka, .int kx, .int ky]))]) [5] (by decide) rfl
    have hKc := hK.sub (tys' := []) [] rfl
    refine wk_v (β := Unit) (ok := fun _ => True) (wc := [(h3, .inr (6, [.int kl, .int kf, .int ka, .int kx, .int ky]))]) (wr := [(h0, .inr (4, [.int hm, .int nh, .ref h4, .ref h5])), (h4, .inr (0, [.int cs, .int ct, .int cl, .int cb, .int cr])), (h5, .inr (0, [.int ts, .int tt, .int tl, .int tb, .int tr])), (h1, .inr (5, [.ref h2, .ref h3, .int isr, .int wh, .int sh])), (h2, .inr (6, [.int rl, .int (rf + (tt - ct)), .int (ra + (tt - ct)), .int rx, .int ry]))]) (w1 := fun _ => [(h3, .inr (6, [.int kl, .int (kf + (tl - cl)), .int (ka + (tl - cl)), .int kx, .int ky]))]) (ws2 := fun _ => [(h0, .inr (4, [.int hm, .int nh, .ref h4, .ref h5])), (h4, .inr (0, [.int cs, .int ct, .int cl, .int cb, .int cr])), (h5, .inr (0, [.int ts, .int tt, .int tl, .int tb, .int tr])), (h1, .inr (5, [.ref h2, .ref h3, .int isr, .int wh, .int sh])), (h2, .inr (6, [.int rl, .int (rf + (tt - ct)), .int (ra + (tt - ct)), .int rx, .int ry])), (h3, .inr (6, [.int kl, .int (kf + (tl - cl)), .int (ka + (tl - cl)), .int kx, .int ky]))]) (va_runV (As := [.int (tl - cl)]) (rest := []) ⟨hx, hb, hml, hown, hts⟩ (kX8_shift l D H.size h3 kl kf ka kx ky (tl - cl) ) (cwV 1 hts gX6_keeps_X8_shift rfl rfl rfl (by decide +kernel) ⟨Nat.le_of_ble_eq_true rfl, Nat.le_of_ble_eq_true rfl⟩) ⟨Pw_blind, (va_recv hKc hPc (ci := 6) (q0 := 0) rfl rfl), fun U hU hW => Pw_at hKc hPc hDc hN hU hW⟩ rfl rfl hl.1 rfl (lv_room (Nat.le_of_ble_eq_true rfl)) dX6_keeps_65 ⟨Nat.le_of_ble_eq_true rfl, Nat.le_of_ble_eq_true rfl⟩) hP hD hS hA [5] [0, 1, 2, 3, 4] [0, 1, 2, 3, 4, 5] rfl rfl (by decide) (by decide) (fun _ => rfl) (by decide) (fun _ _ H locs hP hD hS => ?_)
    have hP : va_P D vwCl [(h0, .inr (4, [.int hm, .int nh, .ref h4, .ref h5])), (h4, .inr (0, [.int cs, .int ct, .int cl, .int cb, .int cr])), (h5, .inr (0, [.int ts, .int tt, .int tl, .int tb, .int tr])), (h1, .inr (5, [.ref h2, .ref h3, .int isr, .int wh, .int sh])), (h2, .inr (6, [.int rl, .int (rf + (tt - ct)), .int (ra + (tt - ct)), .int rx, .int ry])), (h3, .inr (6, [.int kl, .int (kf + (tl - cl)), .int (ka + (tl - cl)), .int kx, .int ky]))] H := hP
    have hD : va_D A [(h0, .inr (4, [.int hm, .int nh, .ref h4, .ref h5])), (h4, .inr (0, [.int cs, .int ct, .int cl, .int cb, .int cr])), (h5, .inr (0, [.int ts, .int tt, .int tl, .int tb, .int tr])), (h1, .inr (5, [.ref h2, .ref h3, .int isr, .int wh, .int sh])), (h2, .inr (6, [.int rl, .int (rf + (tt - ct)), .int (ra + (tt - ct)), .int rx, .int ry])), (h3, .inr (6, [.int kl, .int (kf + (tl - cl)), .int (ka + (tl - cl)), .int kx, .int ky]))] := hD
    refine lv_aload_n hx hb dX6_keeps_68 rfl (lv_at hl 1 rfl) ?_
    refine va_get (D := D) (ci := 4) (v := .ref h5) (C := RX6) (T := TX6) (N := 4) hx hb hts w_X6 hown hK hP 0 rfl rfl 3 (by decide) f_22 (fun _ h9 => h9) rfl dX6_keeps_69 ?_
    refine va_get (D := D) (ci := 0) (v := .int ts) (C := RX0) (T := TX0) (N := 5) hx hb hts w_X0 hown hK hP 2 rfl rfl 0 (by decide) f_56 (fun _ h9 => h9) rfl dX6_keeps_72 ?_
    refine lv_istore_n (lv' := [(2, .int ts), (0, .ref h0), (1, .ref h1)]) hx hb dX6_keeps_75 rfl hl (by decide) rfl (fun ls hl => ?_)
    refine lv_goto (tgt := 96) hx hb dX6_keeps_76 (by decide) ?_
    refine lv_aload_n hx hb dX6_keeps_96 rfl (lv_at hl 2 rfl) ?_
    refine va_get (D := D) (ci := 5) (v := .int sh) (C := RX7) (T := TX7) (N := 5) hx hb hts w_X7 hown hK hP 3 rfl rfl 4 (by decide) f_59 (fun _ h9 => h9) rfl dX6_keeps_97 ?_
    refine lv_iconst (v := (-1)) hx hb dX6_keeps_100 (by decide) ?_
    have K117_2 : ∀ (v_2 : Int32), v_2 = (if sh = (-1) then (if ts = nh then sh else ts) else ts) → ∀ (H : Heap) (locs : List Loc), va_P D vwCl [(h0, .inr (4, [.int hm, .int nh, .ref h4, .ref h5])), (h4, .inr (0, [.int cs, .int ct, .int cl, .int cb, .int cr])), (h5, .inr (0, [.int ts, .int tt, .int tl, .int tb, .int tr])), (h1, .inr (5, [.ref h2, .ref h3, .int isr, .int wh, .int v_2])), (h2, .inr (6, [.int rl, .int (rf + (tt - ct)), .int (ra + (tt - ct)), .int rx, .int ry])), (h3, .inr (6, [.int kl, .int (kf + (tl - cl)), .int (ka + (tl - cl)), .int kx, .int ky]))] H → va_D A [(h0, .inr (4, [.int hm, .int nh, .ref h4, .ref h5])), (h4, .inr (0, [.int cs, .int ct, .int cl, .int cb, .int cr])), (h5, .inr (0, [.int ts, .int tt, .int tl, .int tb, .int tr])), (h1, .inr (5, [.ref h2, .ref h3, .int isr, .int wh, .int v_2])), (h2, .inr (6, [.int rl, .int (rf + (tt - ct)), .int (ra + (tt - ct)), .int rx, .int ry])), (h3, .inr (6, [.int kl, .int (kf + (tl - cl)), .int (ka + (tl - cl)), .int kx, .int ky]))] → va_S A s.heap H locs → ∀ ls : Array Slot, lv_has ls 3 [] → W p l e (headSpec wsX6_keeps rmX6_keeps).room s m ([.ref h0, .ref h1] : List Value).toArray below meth c H locs 0 0 Q (F0 m 117 ls []) := by
      intro v_2 ev_2 H locs hP hD hS ls hl
      refine lv_iconst (v := 1) hx hb dX6_keeps_117 (by decide) ?_
      have hF : (fX6_keeps hm nh cs ct cl cb cr ts tt tl tb tr sh rf ra kf ka) = (1, v_2, (rf + (tt - ct)), (ra + (tt - ct)), (kf + (tl - cl)), (ka + (tl - cl))) := by subst ev_2; exact (if_neg c21)
      subst hAe
      subst hQe
      exact W.zret (v := 1) hx hb hr rfl (fun t ht hW => ⟨⟨_, _, rfl, ⟨(), trivial, by rw [hF], by rw [hF]⟩, by rw [ht]; exact hP, hD⟩, hS.F ht⟩) hS.2.2 dX6_keeps_118
    refine lv_icmp_ne (tgt := 112) hx hb dX6_keeps_101 (by decide) (fun c101 => ?_) (fun c101 => ?_)
    · refine lv_aload_n hx hb dX6_keeps_112 rfl (lv_at hl 2 rfl) ?_
      refine lv_iload_n hx hb dX6_keeps_113 rfl (lv_at hl 0 rfl) ?_
      refine va_put (D := D) (ci := 5) (v := .int ts) (ty := .int) (C := RX7) (T := TX7) (N := 5) hx hb hts w_X7 tyX7 tyX7_ok nmX7 hown hK hP hD hS 3 rfl rfl 4 (by decide) f_59 (fun _ h9 => h9) rfl (by decide +kernel) rfl rfl (Nat.le_of_ble_eq_true rfl) dX6_keeps_114 (fun H locs hP hD hS => ?_)
      have hP : va_P D vwCl [(h0, .inr (4, [.int hm, .int nh, .ref h4, .ref h5])), (h4, .inr (0, [.int cs, .int ct, .int cl, .int cb, .int cr])), (h5, .inr (0, [.int ts, .int tt, .int tl, .int tb, .int tr])), (h1, .inr (5, [.ref h2, .ref h3, .int isr, .int wh, .int ts])), (h2, .inr (6, [.int rl, .int (rf + (tt - ct)), .int (ra + (tt - ct)), .int rx, .int ry])), (h3, .inr (6, [.int kl, .int (kf + (tl - cl)), .int (ka + (tl - cl)), .int kx, .int ky]))] H := hP
      have hD : va_D A [(h0, .inr (4, [.int hm, .int nh, .ref h4, .ref h5])), (h4, .inr (0, [.int cs, .int ct, .int cl, .int cb, .int cr])), (h5, .inr (0, [.int ts, .int tt, .int tl, .int tb, .int tr])), (h1, .inr (5, [.ref h2, .ref h3, .int isr, .int wh, .int ts])), (h2, .inr (6, [.int rl, .int (rf + (tt - ct)), .int (ra + (tt - ct)), .int rx, .int ry])), (h3, .inr (6, [.int kl, .int (kf + (tl - cl)), .int (ka + (tl - cl)), .int kx, .int ky]))] := hD
      exact K117_2 _ (if_neg c101).symm H locs hP hD hS ls (lv_sub hl [] rfl)
    · refine lv_iload_n hx hb dX6_keeps_104 rfl (lv_at hl 0 rfl) ?_
      refine lv_aload_n hx hb dX6_keeps_105 rfl (lv_at hl 1 rfl) ?_
      refine va_get (D := D) (ci := 4) (v := .int nh) (C := RX6) (T := TX6) (N := 4) hx hb hts w_X6 hown hK hP 0 rfl rfl 1 (by decide) f_15 (fun _ h9 => h9) rfl dX6_keeps_106 ?_
      refine lv_icmp_eq (tgt := 117) hx hb dX6_keeps_109 (by decide) (fun c109 => ?_) (fun c109 => ?_)
      · exact K117_2 _ ((if_pos c101).trans (if_pos c109)).symm H locs hP hD hS ls (lv_sub hl [] rfl)
      · refine lv_aload_n hx hb dX6_keeps_112 rfl (lv_at hl 2 rfl) ?_
        refine lv_iload_n hx hb dX6_keeps_113 rfl (lv_at hl 0 rfl) ?_
        refine va_put (D := D) (ci := 5) (v := .int ts) (ty := .int) (C := RX7) (T := TX7) (N := 5) hx hb hts w_X7 tyX7 tyX7_ok nmX7 hown hK hP hD hS 3 rfl rfl 4 (by decide) f_59 (fun _ h9 => h9) rfl (by decide +kernel) rfl rfl (Nat.le_of_ble_eq_true rfl) dX6_keeps_114 (fun H locs hP hD hS => ?_)
        have hP : va_P D vwCl [(h0, .inr (4, [.int hm, .int nh, .ref h4, .ref h5])), (h4, .inr (0, [.int cs, .int ct, .int cl, .int cb, .int cr])), (h5, .inr (0, [.int ts, .int tt, .int tl, .int tb, .int tr])), (h1, .inr (5, [.ref h2, .ref h3, .int isr, .int wh, .int ts])), (h2, .inr (6, [.int rl, .int (rf + (tt - ct)), .int (ra + (tt - ct)), .int rx, .int ry])), (h3, .inr (6, [.int kl, .int (kf + (tl - cl)), .int (ka + (tl - cl)), .int kx, .int ky]))] H := hP
        have hD : va_D A [(h0, .inr (4, [.int hm, .int nh, .ref h4, .ref h5])), (h4, .inr (0, [.int cs, .int ct, .int cl, .int cb, .int cr])), (h5, .inr (0, [.int ts, .int tt, .int tl, .int tb, .int tr])), (h1, .inr (5, [.ref h2, .ref h3, .int isr, .int wh, .int ts])), (h2, .inr (6, [.int rl, .int (rf + (tt - ct)), .int (ra + (tt - ct)), .int rx, .int ry])), (h3, .inr (6, [.int kl, .int (kf + (tl - cl)), .int (ka + (tl - cl)), .int kx, .int ky]))] := hD
        exact K117_2 _ ((if_pos c101).trans (if_neg c109)).symm H locs hP hD hS ls (lv_sub hl [] rfl)
