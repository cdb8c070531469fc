def fX7_sheetSeenFrom (sh : Int32) (x : Int32) : Int32 := if sh = (-1) then x else sh
abbrev rmX7_sheetSeenFrom : Room := { frames := 0, cells := 0, slots := 0, locals := 0 }
abbrev qX7_sheetSeenFrom (D : va_G) (sz : Nat) (h0 : Nat) (x0 : Value) (x1 : Value) (isr : Int32) (wh : Int32) (sh : Int32) (x : Int32) : Array Value → State → Outcome → State → Prop := vp_Si (fun r_9 => r_9 = (fX7_sheetSeenFrom sh x))
set_option maxHeartbeats 4000000 in
set_option maxRecDepth 100000 in
theorem kX7_sheetSeenFrom (l : Launch) (D : va_G) (sz : Nat) (h0 : Nat) (x0 : Value) (x1 : Value) (isr : Int32) (wh : Int32) (sh : Int32) (x : Int32) : Met l yX7_sheetSeenFrom wsX7_sheetSeenFrom rmX7_sheetSeenFrom (va_Pc [.ref h0, .int x] (Pw D [] [(h0, .inr (5, [x0, x1, .int isr, .int wh, .int sh]))] sz)) (qX7_sheetSeenFrom D sz h0 x0 x1 isr wh sh x) 0 0 (fun _ => False) := by
  refine Met.ofW (cc := cX7_sheetSeenFrom) (maxL := 2) (ret := (some .int)) (by decide) rfl ?_
  intro p e s m args below meth c s₁ B hml hv
  obtain ⟨rfl, hsz, hP, hK, hD0, hN⟩ := hv
  have hx := B.exec
  have hb := B.bytes
  have hr := B.returns
  have hts := atoms_spec (ws := wsX7_sheetSeenFrom) B.pre
  have hown : s.vm.findClass RX7 = some m.cls := findClass_of_methodNamed B.named
  have hlocks := B.notSynchronized
  subst hsz
  obtain ⟨Q, hQe⟩ : ∃ Q, Q = MQ below (qX7_sheetSeenFrom D s.heap.size h0 x0 x1 isr wh sh x) ([.ref h0, .int x] : List Value).toArray s 0 0 (fun _ => False) := ⟨_, rfl⟩
  rw [← hQe]
  have hD := hD0
  have hP : va_P D vwCl [(h0, .inr (5, [x0, x1, .int isr, .int wh, .int sh]))] s.heap := hP
  have hl := lv_entry ([.ref h0, .int x]) (n := 2) (Nat.le_of_ble_eq_true rfl)
  rw [lg_entry_eq]
  generalize (lg_sl ([.ref h0, .int x]) ++ List.replicate (2 - (lg_sl ([.ref h0, .int x])).length) Slot.unset).toArray = ls at hl ⊢
  have hl : lv_has ls 2 [(0, .ref h0), (1, .int x)] := hl
  have w_X7 : ∀ w ∈ wsX70, w ∈ wsX7_sheetSeenFrom := by decide +kernel
  have f_24 := hts (.fieldLink RX7 24 "ReferenceMover$Reference" "sheet" "I") (by decide +kernel)
  refine lv_aload_n hx hb dX7_sheetSeenFrom_0 rfl (lv_at hl 0 rfl) ?_
  refine va_get (D := D) (ci := 5) (v := .int sh) (C := RX7) (T := TX7) (N := 5) hx hb hts w_X7 hown hK hP 0 rfl rfl 4 (by decide) f_24 (fun _ h9 => h9) rfl dX7_sheetSeenFrom_1 ?_
  refine lv_iconst (v := (-1)) hx hb dX7_sheetSeenFrom_4 (by decide) ?_
  refine lv_icmp_ne (tgt := 12) hx hb dX7_sheetSeenFrom_5 (by decide) (fun c5 => ?_) (fun c5 => ?_)
  · refine lv_aload_n hx hb dX7_sheetSeenFrom_12 rfl (lv_at hl 0 rfl) ?_
    refine va_get (D := D) (ci := 5) (v := .int sh) (C := RX7) (T := TX7) (N := 5) hx hb hts w_X7 hown hK hP 0 rfl rfl 4 (by decide) f_24 (fun _ h9 => h9) rfl dX7_sheetSeenFrom_13 ?_
    have hF : (fX7_sheetSeenFrom sh x) = sh := by exact (if_neg c5)
    subst hQe
    exact W.iret (v := sh) hx hb hr (fun t ht hW => ⟨_, rfl, hF.symm, ht⟩) (fun q h => absurd h List.not_mem_nil) dX7_sheetSeenFrom_16
  · refine lv_iload_n hx hb dX7_sheetSeenFrom_8 rfl (lv_at hl 1 rfl) ?_
    refine lv_goto (tgt := 16) hx hb dX7_sheetSeenFrom_9 (by decide) ?_
    have hF : (fX7_sheetSeenFrom sh x) = x := by exact (if_pos c5)
    subst hQe
    exact W.iret (v := x) hx hb hr (fun t ht hW => ⟨_, rfl, hF.symm, ht⟩) (fun q h => absurd h List.not_mem_nil) dX7_sheetSeenFrom_16

def fX7_cornerMarks (x : Int32) (y : Int32) : Int32 := let v_1 : Int32 := (if x = 0 then 0 else 2); let v_2 : Int32 := (if y = 0 then 0 else 1); (v_1 + v_2)
abbrev rmX7_cornerMarks : Room := { frames := 0, cells := 0, slots := 0, locals := 0 }
abbrev qX7_cornerMarks (D : va_G) (sz : Nat) (x : Int32) (y : Int32) : Array Value → State → Outcome → State → Prop := vp_Si (fun r_9 => r_9 = (fX7_cornerMarks x y))
set_option maxHeartbeats 4000000 in
set_option maxRecDepth 100000 in
theorem kX7_cornerMarks (l : Launch) (D : va_G) (sz : Nat) (x : Int32) (y : Int32) : Met l yX7_cornerMarks wsX7_cornerMarks rmX7_cornerMarks (va_Pc [.int x, .int y] (Pw D [] [] sz)) (qX7_cornerMarks D sz x y) 0 0 (fun _ => False) := by
  refine Met.ofW (cc := cX7_cornerMarks) (maxL := 2) (ret := (some .int)) (by decide) rfl ?_
  intro p e s m args below meth c s₁ B hml hv
  obtain ⟨rfl, hsz, hP, hK, hD0, hN⟩ := hv
  have hx := B.exec
  have hb := B.bytes
  have hr := B.returns
  have hts := atoms_spec (ws := wsX7_cornerMarks) B.pre
  have hown : s.vm.findClass RX7 = some m.cls := findClass_of_methodNamed B.named
  have hlocks := B.notSynchronized
  subst hsz
  obtain ⟨Q, hQe⟩ : ∃ Q, Q = MQ below (qX7_cornerMarks D s.heap.size x y) ([.int x, .int y] : List Value).toArray s 0 0 (fun _ => False) := ⟨_, rfl⟩
  rw [← hQe]
  have hD := hD0
  have hP : va_P D vwCl [] s.heap := hP
  have hl := lv_entry ([.int x, .int y]) (n := 2) (Nat.le_of_ble_eq_true rfl)
  rw [lg_entry_eq]
  generalize (lg_sl ([.int x, .int y]) ++ List.replicate (2 - (lg_sl ([.int x, .int y])).length) Slot.unset).toArray = ls at hl ⊢
  have hl : lv_has ls 2 [(0, .int x), (1, .int y)] := hl
  refine lv_iload_n hx hb dX7_cornerMarks_0 rfl (lv_at hl 0 rfl) ?_
  have K9_1 : ∀ (v_1 : Int32), v_1 = (if x = 0 then 0 else 2) → ∀ ls : Array Slot, lv_has ls 2 [(1, .int y)] → W p l e (headSpec wsX7_cornerMarks rmX7_cornerMarks).room s m ([.int x, .int y] : List Value).toArray below meth c s.heap [] 0 0 Q (F0 m 9 ls [.int v_1]) := by
    intro v_1 ev_1 ls hl
    refine lv_iload_n hx hb dX7_cornerMarks_9 rfl (lv_at hl 0 rfl) ?_
    have K18_2 : ∀ (v_2 : Int32), v_2 = (if y = 0 then 0 else 1) → ∀ ls : Array Slot, lv_has ls 2 [] → W p l e (headSpec wsX7_cornerMarks rmX7_cornerMarks).room s m ([.int x, .int y] : List Value).toArray below meth c s.heap [] 0 0 Q (F0 m 18 ls [.int v_2, .int v_1]) := by
      intro v_2 ev_2 ls hl
      refine lv_iadd hx hb dX7_cornerMarks_18 ?_
      have hF : (fX7_cornerMarks x y) = (v_1 + v_2) := by subst ev_2; subst ev_1; exact rfl
      subst hQe
      exact W.iret (v := (v_1 + v_2)) hx hb hr (fun t ht hW => ⟨_, rfl, hF.symm, ht⟩) (fun q h => absurd h List.not_mem_nil) dX7_cornerMarks_19
    refine lv_if_eq (tgt := 17) hx hb dX7_cornerMarks_10 (by decide) (fun c10 => ?_) (fun c10 => ?_)
    · refine lv_iconst (v := 0) hx hb dX7_cornerMarks_17 (by decide) ?_
      exact K18_2 _ (if_pos c10).symm ls (lv_sub hl [] rfl)
    · refine lv_iconst (v := 1) hx hb dX7_cornerMarks_13 (by decide) ?_
      refine lv_goto (tgt := 18) hx hb dX7_cornerMarks_14 (by decide) ?_
      exact K18_2 _ (if_neg c10).symm ls (lv_sub hl [] rfl)
  refine lv_if_eq (tgt := 8) hx hb dX7_cornerMarks_1 (by decide) (fun c1 => ?_) (fun c1 => ?_)
  · refine lv_iconst (v := 0) hx hb dX7_cornerMarks_8 (by decide) ?_
    exact K9_1 _ (if_pos c1).symm ls (lv_sub hl [1] rfl)
  · refine lv_iconst (v := 2) hx hb dX7_cornerMarks_4 (by decide) ?_
    refine lv_goto (tgt := 9) hx hb dX7_cornerMarks_5 (by decide) ?_
    exact K9_1 _ (if_neg c1).symm ls (lv_sub hl [1] rfl)

abbrev rmX7_firstMarks : Room := { frames := 1, cells := 0, slots := 0, locals := 21 }
abbrev qX7_firstMarks (D : va_G) (sz : Nat) (h0 : Nat) (h2 : Nat) (h3 : Nat) (isr : Int32) (wh : Int32) (sh : Int32) (rl : Int32) (rf : Int32) (ra : Int32) (rx : Int32) (ry : Int32) (kl : Int32) (kf : Int32) (ka : Int32) (kx : Int32) (ky : Int32) : Array Value → State → Outcome → State → Prop := vp_Si (fun r_9 => r_9 = (fX7_cornerMarks rx kx))
set_option maxHeartbeats 4000000 in
set_option maxRecDepth 100000 in
theorem kX7_firstMarks (l : Launch) (D : va_G) (sz : Nat) (h0 : Nat) (h2 : Nat) (h3 : Nat) (isr : Int32) (wh : Int32) (sh : Int32) (rl : Int32) (rf : Int32) (ra : Int32) (rx : Int32) (ry : Int32) (kl : Int32) (kf : Int32) (ka : Int32) (kx : Int32) (ky : Int32) : Met l yX7_firstMarks wsX7_firstMarks rmX7_firstMarks (va_Pc [.ref h0] (Pw D [] [(h0, .inr (5, [.ref h2, .ref h3, .int isr, .int wh, .int sh])), (h2, .inr (6, [.int rl, .int rf, .int ra, .int rx, .int ry])), (h3, .inr (6, [.int kl, .int kf, .int ka, .int kx, .int ky]))] sz)) (qX7_firstMarks D sz h0 h2 h3 isr wh sh rl rf ra rx ry kl kf ka kx ky) 0 0 (fun _ => False) := by
  refine Met.ofW (cc := cX7_firstMarks) (maxL := 1) (ret := (some .int)) (by decide) rfl ?_
  intro p e s m args below meth c s₁ B hml hv
  obtain ⟨rfl, hsz, hP, hK, hD0, hN⟩ := hv
  have hx := B.exec
  have hb := B.bytes
  have hr := B.returns
  have hts := atoms_spec (ws := wsX7_firstMarks) B.pre
  have hown : s.vm.findClass RX7 = some m.cls := findClass_of_methodNamed B.named
  have hlocks := B.notSynchronized
  subst hsz
  obtain ⟨Q, hQe⟩ : ∃ Q, Q = MQ below (qX7_firstMarks D s.heap.size h0 h2 h3 isr wh sh rl rf ra rx ry kl kf ka kx ky) ([.ref h0] : List Value).toArray s 0 0 (fun _ => False) := ⟨_, rfl⟩
  rw [← hQe]
  have hD := hD0
  have hP : va_P D vwCl [(h0, .inr (5, [.ref h2, .ref h3, .int isr, .int wh, .int sh])), (h2, .inr (6, [.int rl, .int rf, .int ra, .int rx, .int ry])), (h3, .inr (6, [.int kl, .int kf, .int ka, .int kx, .int ky]))] s.heap := hP
  have hl := lv_entry ([.ref h0]) (n := 1) (Nat.le_of_ble_eq_true rfl)
  rw [lg_entry_eq]
  generalize (lg_sl ([.ref h0]) ++ List.replicate (1 - (lg_sl ([.ref h0])).length) Slot.unset).toArray = ls at hl ⊢
  have hl : lv_has ls 1 [(0, .ref h0)] := hl
  have w_X7 : ∀ w ∈ wsX70, w ∈ wsX7_firstMarks := by decide +kernel
  have f_15 := hts (.fieldLink RX7 15 "ReferenceMover$Reference" "rows" "LReferenceMover$Span;") (by decide +kernel)
  have w_X8 : ∀ w ∈ wsX80, w ∈ wsX7_firstMarks := by decide +kernel
  have f_45 := hts (.fieldLink RX7 45 "ReferenceMover$Span" "firstFixed" "Z") (by decide +kernel)
  have f_21 := hts (.fieldLink RX7 21 "ReferenceMover$Reference" "columns" "LReferenceMover$Span;") (by decide +kernel)
  refine lv_aload_n hx hb dX7_firstMarks_0 rfl (lv_at hl 0 rfl) ?_
  refine va_get (D := D) (ci := 5) (v := .ref h2) (C := RX7) (T := TX7) (N := 5) hx hb hts w_X7 hown hK hP 0 rfl rfl 0 (by decide) f_15 (fun _ h9 => h9) rfl dX7_firstMarks_1 ?_
  refine va_get (D := D) (ci := 6) (v := .int rx) (C := RX8) (T := TX8) (N := 5) hx hb hts w_X8 hown hK hP 1 rfl rfl 3 (by decide) f_45 (fun _ h9 => h9) rfl dX7_firstMarks_4 ?_
  refine lv_aload_n hx hb dX7_firstMarks_7 rfl (lv_at hl 0 rfl) ?_
  refine va_get (D := D) (ci := 5) (v := .ref h3) (C := RX7) (T := TX7) (N := 5) hx hb hts w_X7 hown hK hP 0 rfl rfl 1 (by decide) f_21 (fun _ h9 => h9) rfl dX7_firstMarks_8 ?_
  refine va_get (D := D) (ci := 6) (v := .int kx) (C := RX8) (T := TX8) (N := 5) hx hb hts w_X8 hown hK hP 2 rfl rfl 3 (by decide) f_45 (fun _ h9 => h9) rfl dX7_firstMarks_11 ?_
  have hPc := hP.sub (ws' := []) [] rfl
  have hDc := hD.sub (ws' := []) [] (by decide) rfl
  have hKc := hK.sub (tys' := []) [] rfl
  refine rd_i (va_runS (As := [.int rx, .int kx]) (rest := []) ⟨hx, hb, hml, hown, hts⟩ (kX7_cornerMarks l D s.heap.size rx kx ) (va_cwS 2 hts gX7_firstMarks_X7_cornerMarks rfl rfl rfl (by decide +kernel) ⟨Nat.le_of_ble_eq_true rfl, Nat.le_of_ble_eq_true rfl⟩) ⟨Pw_blind, fun U hU hW => Pw_at hKc hPc hDc hN hU hW⟩ rfl rfl hl.1 rfl (lv_room (Nat.le_of_ble_eq_true rfl)) dX7_firstMarks_14 ⟨Nat.le_of_ble_eq_true rfl, Nat.le_of_ble_eq_true rfl⟩) ?_
  subst hQe
  exact W.iret (v := (fX7_cornerMarks rx kx)) hx hb hr (fun t ht hW => ⟨_, rfl, rfl, ht⟩) (fun q h => absurd h List.not_mem_nil) dX7_firstMarks_17

abbrev rmX7_rangeMarks : Room := { frames := 2, cells := 0, slots := 0, locals := 41 }
abbrev qX7_rangeMarks (D : va_G) (sz : Nat) (h0 : Nat) (h2 : Nat) (h3 : Nat) (isr : Int32) (wh : Int32) (sh : Int32) (rl : Int32) (rf : Int32) (ra : Int32) (rx : Int32) (ry : Int32) (kl : Int32) (kf : Int32) (ka : Int32) (kx : Int32) (ky : Int32) : Array Value → State → Outcome → State → Prop := vp_Si (fun r_9 => r_9 = ((wh + (fX7_cornerMarks rx kx)) + (4 * (fX7_cornerMarks ry ky))))
set_option maxHeartbeats 4000000 in
set_option maxRecDepth 100000 in
theorem kX7_rangeMarks (l : Launch) (D : va_G) (sz : Nat) (h0 : Nat) (h2 : Nat) (h3 : Nat) (isr : Int32) (wh : Int32) (sh : Int32) (rl : Int32) (rf : Int32) (ra : Int32) (rx : Int32) (ry : Int32) (kl : Int32) (kf : Int32) (ka : Int32) (kx : Int32) (ky : Int32) : Met l yX7_rangeMarks wsX7_rangeMarks rmX7_rangeMarks (va_Pc [.ref h0] (Pw D [] [(h0, .inr (5, [.ref h2, .ref h3, .int isr, .int wh, .int sh])), (h2, .inr (6, [.int rl, .int rf, .int ra, .int rx, .int ry])), (h3, .inr (6, [.int kl, .int kf, .int ka, .int kx, .int ky]))] sz)) (qX7_rangeMarks D sz h0 h2 h3 isr wh sh rl rf ra rx ry kl kf ka kx ky) 0 0 (fun _ => False) := by
  refine Met.ofW (cc := cX7_rangeMarks) (maxL := 2) (ret := (some .int)) (by decide) rfl ?_
  intro p e s m args below meth c s₁ B hml hv
  obtain ⟨rfl, hsz, hP, hK, hD0, hN⟩ := hv
  have hx := B.exec
  have hb := B.bytes
  have hr := B.returns
  have hts := atoms_spec (ws := wsX7_rangeMarks) B.pre
  have hown : s.vm.findClass RX7 = some m.cls := findClass_of_methodNamed B.named
  have hlocks := B.notSynchronized
  subst hsz
  obtain ⟨Q, hQe⟩ : ∃ Q, Q = MQ below (qX7_rangeMarks D s.heap.size h0 h2 h3 isr wh sh rl rf ra rx ry kl kf ka kx ky) ([.ref h0] : List Value).toArray s 0 0 (fun _ => False) := ⟨_, rfl⟩
  rw [← hQe]
  have hD := hD0
  have hP : va_P D vwCl [(h0, .inr (5, [.ref h2, .ref h3, .int isr, .int wh, .int sh])), (h2, .inr (6, [.int rl, .int rf, .int ra, .int rx, .int ry])), (h3, .inr (6, [.int kl, .int kf, .int ka, .int kx, .int ky]))] s.heap := hP
  have hl := lv_entry ([.ref h0]) (n := 2) (Nat.le_of_ble_eq_true rfl)
  rw [lg_entry_eq]
  generalize (lg_sl ([.ref h0]) ++ List.replicate (2 - (lg_sl ([.ref h0])).length) Slot.unset).toArray = ls at hl ⊢
  have hl : lv_has ls 2 [(0, .ref h0)] := hl
  have w_X7 : ∀ w ∈ wsX70, w ∈ wsX7_rangeMarks := by decide +kernel
  have f_15 := hts (.fieldLink RX7 15 "ReferenceMover$Reference" "rows" "LReferenceMover$Span;") (by decide +kernel)
  have w_X8 : ∀ w ∈ wsX80, w ∈ wsX7_rangeMarks := by decide +kernel
  have f_52 := hts (.fieldLink RX7 52 "ReferenceMover$Span" "lastFixed" "Z") (by decide +kernel)
  have f_21 := hts (.fieldLink RX7 21 "ReferenceMover$Reference" "columns" "LReferenceMover$Span;") (by decide +kernel)
  have f_55 := hts (.fieldLink RX7 55 "ReferenceMover$Reference" "whole" "I") (by decide +kernel)
  refine lv_aload_n hx hb dX7_rangeMarks_0 rfl (lv_at hl 0 rfl) ?_
  refine va_get (D := D) (ci := 5) (v := .ref h2) (C := RX7) (T := TX7) (N := 5) hx hb hts w_X7 hown hK hP 0 rfl rfl 0 (by decide) f_15 (fun _ h9 => h9) rfl dX7_rangeMarks_1 ?_
  refine va_get (D := D) (ci := 6) (v := .int ry) (C := RX8) (T := TX8) (N := 5) hx hb hts w_X8 hown hK hP 1 rfl rfl 4 (by decide) f_52 (fun _ h9 => h9) rfl dX7_rangeMarks_4 ?_
  refine lv_aload_n hx hb dX7_rangeMarks_7 rfl (lv_at hl 0 rfl) ?_
  refine va_get (D := D) (ci := 5) (v := .ref h3) (C := RX7) (T := TX7) (N := 5) hx hb hts w_X7 hown hK hP 0 rfl rfl 1 (by decide) f_21 (fun _ h9 => h9) rfl dX7_rangeMarks_8 ?_
  refine va_get (D := D) (ci := 6) (v := .int ky) (C := RX8) (T := TX8) (N := 5) hx hb hts w_X8 hown hK hP 2 rfl rfl 4 (by decide) f_52 (fun _ h9 => h9) rfl dX7_rangeMarks_11 ?_
  have hPc := hP.sub (ws' := []) [] rfl
  have hDc := hD.sub (ws' := []) [] (by decide) rfl
  have hKc := hK.sub (tys' := []) [] rfl
  refine rd_i (va_runS (As := [.int ry, .int ky]) (rest := []) ⟨hx, hb, hml, hown, hts⟩ (kX7_cornerMarks l D s.heap.size ry ky ) (va_cwS 2 hts gX7_rangeMarks_X7_cornerMarks rfl rfl rfl (by decide +kernel) ⟨Nat.le_of_ble_eq_true rfl, Nat.le_of_ble_eq_true rfl⟩) ⟨Pw_blind, fun U hU hW => Pw_at hKc hPc hDc hN hU hW⟩ rfl rfl hl.1 rfl (lv_room (Nat.le_of_ble_eq_true rfl)) dX7_rangeMarks_14 ⟨Nat.le_of_ble_eq_true rfl, Nat.le_of_ble_eq_true rfl⟩) ?_
  refine lv_istore_n (lv' := [(1, .int (fX7_cornerMarks ry ky)), (0, .ref h0)]) hx hb dX7_rangeMarks_17 rfl hl (by decide) rfl (fun ls hl => ?_)
  refine lv_aload_n hx hb dX7_rangeMarks_18 rfl (lv_at hl 1 rfl) ?_
  refine va_get (D := D) (ci := 5) (v := .int wh) (C := RX7) (T := TX7) (N := 5) hx hb hts w_X7 hown hK hP 0 rfl rfl 3 (by decide) f_55 (fun _ h9 => h9) rfl dX7_rangeMarks_19 ?_
  refine lv_aload_n hx hb dX7_rangeMarks_22 rfl (lv_at hl 1 rfl) ?_
  have hPc := hP.sub (ws' := [(h0, .inr (5, [.ref h2, .ref h3, .int isr, .int wh, .int sh])), (h2, .inr (6, [.int rl, .int rf, .int ra, .int rx, .int ry])), (h3, .inr (6, [.int kl, .int kf, .int ka, .int kx, .int ky]))]) [0, 1, 2] rfl
  have hDc := hD.sub (ws' := [(h0, .inr (5, [.ref h2, .ref h3, .int isr, .int wh, .int sh])), (h2, .inr (6, [.int rl, .int rf, .int ra, .int rx, .int ry])), (h3, .inr (6, [.int kl, .int kf, .int ka, .int kx, .int ky]))]) [0, 1, 2] (by decide) rfl
  have hKc := hK.sub (tys' := []) [] rfl
  refine rd_i (va_runV (As := []) (rest := [.int wh]) ⟨hx, hb, hml, hown, hts⟩ (kX7_firstMarks l D s.heap.size h0 h2 h3 isr wh sh rl rf ra rx ry kl kf ka kx ky ) (cwV 0 hts gX7_rangeMarks_X7_firstMarks rfl rfl rfl (by decide +kernel) ⟨Nat.le_of_ble_eq_true rfl, Nat.le_of_ble_eq_true rfl⟩) ⟨Pw_blind, (va_recv hKc hPc (ci := 5) (q0 := 0) rfl rfl), fun U hU hW => Pw_at hKc hPc hDc hN hU hW⟩ rfl rfl hl.1 rfl (lv_room (Nat.le_of_ble_eq_true rfl)) dX7_rangeMarks_23 ⟨Nat.le_of_ble_eq_true rfl, Nat.le_of_ble_eq_true rfl⟩) ?_
  refine lv_iadd hx hb dX7_rangeMarks_26 ?_
  refine lv_iconst (v := 4) hx hb dX7_rangeMarks_27 (by decide) ?_
  refine lv_iload_n hx hb dX7_rangeMarks_28 rfl (lv_at hl 0 rfl) ?_
  refine lv_imul hx hb dX7_rangeMarks_29 ?_
  refine lv_iadd hx hb dX7_rangeMarks_30 ?_
  subst hQe
  exact W.iret (v := ((wh + (fX7_cornerMarks rx kx)) + (4 * (fX7_cornerMarks ry ky)))) hx hb hr (fun t ht hW => ⟨_, rfl, rfl, ht⟩) (fun q h => absurd h List.not_mem_nil) dX7_rangeMarks_31

def fX7_wordAt_0 (isr : Int32) (wh : Int32) (rx : Int32) (ry : Int32) (kx : Int32) (ky : Int32) : Int32 := if isr = 0 then ((4 + (16 * (fX7_cornerMarks rx kx)))) else ((5 + (16 * ((wh + (fX7_cornerMarks rx kx)) + (4 * (fX7_cornerMarks ry ky))))))
abbrev rmX7_wordAt_0 : Room := { frames := 3, cells := 0, slots := 0, locals := 62 }
abbrev qX7_wordAt_0 (D : va_G) (sz : Nat) (h0 : Nat) (h2 : Nat) (h3 : Nat) (isr : Int32) (wh : Int32) (sh : Int32) (rl : Int32) (rf : Int32) (ra : Int32) (rx : Int32) (ry : Int32) (kl : Int32) (kf : Int32) (ka : Int32) (kx : Int32) (ky : Int32) : Array Value → State → Outcome → State → Prop := vp_Si (fun r_9 => r_9 = (fX7_wordAt_0 isr wh rx ry kx ky))
set_option maxHeartbeats 4000000 in
set_option maxRecDepth 100000 in
theorem kX7_wordAt_0 (l : Launch) (D : va_G) (sz : Nat) (h0 : Nat) (h2 : Nat) (h3 : Nat) (isr : Int32) (wh : Int32) (sh : Int32) (rl : Int32) (rf : Int32) (ra : Int32) (rx : Int32) (ry : Int32) (kl : Int32) (kf : Int32) (ka : Int32) (kx : Int32) (ky : Int32) : Met l yX7_wordAt wsX7_wordAt rmX7_wordAt_0 (va_Pc [.ref h0, .int 0] (Pw D [] [(h0, .inr (5, [.ref h2, .ref h3, .int isr, .int wh, .int sh])), (h2, .inr (6, [.int rl, .int rf, .int ra, .int rx, .int ry])), (h3, .inr (6, [.int kl, .int kf, .int ka, .int kx, .int ky]))] sz)) (qX7_wordAt_0 D sz h0 h2 h3 isr wh sh rl rf ra rx ry kl kf ka kx ky) 0 0 (fun _ => False) := by
  refine Met.ofW (cc := cX7_wordAt) (maxL := 2) (ret := (some .int)) (by decide) rfl ?_
  intro p e s m args below meth c s₁ B hml hv
  obtain ⟨rfl, hsz, hP, hK, hD0, hN⟩ := hv
  have hx := B.exec
  have hb := B.bytes
  have hr := B.returns
  have hts := atoms_spec (ws := wsX7_wordAt) B.pre
  have hown : s.vm.findClass RX7 = some m.cls := findClass_of_methodNamed B.named
  have hlocks := B.notSynchronized
  subst hsz
  obtain ⟨Q, hQe⟩ : ∃ Q, Q = MQ below (qX7_wordAt_0 D s.heap.size h0 h2 h3 isr wh sh rl rf ra rx ry kl kf ka kx ky) ([.ref h0, .int 0] : List Value).toArray s 0 0 (fun _ => False) := ⟨_, rfl⟩
  rw [← hQe]
  have hD := hD0
  have hP : va_P D vwCl [(h0, .inr (5, [.ref h2, .ref h3, .int isr, .int wh, .int sh])), (h2, .inr (6, [.int rl, .int rf, .int ra, .int rx, .int ry])), (h3, .inr (6, [.int kl, .int kf, .int ka, .int kx, .int ky]))] s.heap := hP
  have hl := lv_entry ([.ref h0, .int 0]) (n := 2) (Nat.le_of_ble_eq_true rfl)
  rw [lg_entry_eq]
  generalize (lg_sl ([.ref h0, .int 0]) ++ List.replicate (2 - (lg_sl ([.ref h0, .int 0])).length) Slot.unset).toArray = ls at hl ⊢
  have hl : lv_has ls 2 [(0, .ref h0), (1, .int 0)] := hl
  have w_X7 : ∀ w ∈ wsX70, w ∈ wsX7_wordAt := by decide +kernel
  have f_28 := hts (.fieldLink RX7 28 "ReferenceMover$Reference" "isRange" "Z") (by decide +kernel)
  refine lv_iload_n hx hb dX7_wordAt_0 rfl (lv_at hl 1 rfl) ?_
  refine lv_tableIn (tgt := 36) hx hb dX7_wordAt_1 (by decide) (by decide) (show _ = some (35 : Int) by decide) (by decide) ?_
  refine lv_aload_n hx hb dX7_wordAt_36 rfl (lv_at hl 0 rfl) ?_
  refine va_get (D := D) (ci := 5) (v := .int isr) (C := RX7) (T := TX7) (N := 5) hx hb hts w_X7 hown hK hP 0 rfl rfl 2 (by decide) f_28 (fun _ h9 => h9) rfl dX7_wordAt_37 ?_
  refine lv_if_eq (tgt := 55) hx hb dX7_wordAt_40 (by decide) (fun c40 => ?_) (fun c40 => ?_)
  · refine lv_iconst (v := 4) hx hb dX7_wordAt_55 (by decide) ?_
    refine lv_bipush (v := 16) hx hb dX7_wordAt_56 (by decide) ?_
    refine lv_aload_n hx hb dX7_wordAt_58 rfl (lv_at hl 0 rfl) ?_
    have hPc := hP.sub (ws' := [(h0, .inr (5, [.ref h2, .ref h3, .int isr, .int wh, .int sh])), (h2, .inr (6, [.int rl, .int rf, .int ra, .int rx, .int ry])), (h3, .inr (6, [.int kl, .int kf, .int ka, .int kx, .int ky]))]) [0, 1, 2] rfl
    have hDc := hD.sub (ws' := [(h0, .inr (5, [.ref h2, .ref h3, .int isr, .int wh, .int sh])), (h2, .inr (6, [.int rl, .int rf, .int ra, .int rx, .int ry])), (h3, .inr (6, [.int kl, .int kf, .int ka, .int kx, .int ky]))]) [0, 1, 2] (by decide) rfl
    have hKc := hK.sub (tys' := []) [] rfl
    refine rd_i (va_runV (As := []) (rest := [.int 16, .int 4]) ⟨hx, hb, hml, hown, hts⟩ (kX7_firstMarks l D s.heap.size h0 h2 h3 isr wh sh rl rf ra rx ry kl kf ka kx ky ) (cwV 0 hts gX7_wordAt_X7_firstMarks rfl rfl rfl (by decide +kernel) ⟨Nat.le_of_ble_eq_true rfl, Nat.le_of_ble_eq_true rfl⟩) ⟨Pw_blind, (va_recv hKc hPc (ci := 5) (q0 := 0) rfl rfl), fun U hU hW => Pw_at hKc hPc hDc hN hU hW⟩ rfl rfl hl.1 rfl (lv_room (Nat.le_of_ble_eq_true rfl)) dX7_wordAt_59 ⟨Nat.le_of_ble_eq_true rfl, Nat.le_of_ble_eq_true rfl⟩) ?_
    refine lv_imul hx hb dX7_wordAt_62 ?_
    refine lv_iadd hx hb dX7_wordAt_63 ?_
    have hF : (fX7_wordAt_0 isr wh rx ry kx ky) = (4 + (16 * (fX7_cornerMarks rx kx))) := by exact (if_pos c40)
    subst hQe
    exact W.iret (v := (4 + (16 * (fX7_cornerMarks rx kx)))) hx hb hr (fun t ht hW => ⟨_, rfl, hF.symm, ht⟩) (fun q h => absurd h List.not_mem_nil) dX7_wordAt_64
  · refine lv_iconst (v := 5) hx hb dX7_wordAt_43 (by decide) ?_
    refine lv_bipush (v := 16) hx hb dX7_wordAt_44 (by decide) ?_
    refine lv_aload_n hx hb dX7_wordAt_46 rfl (lv_at hl 0 rfl) ?_
    have hPc := hP.sub (ws' := [(h0, .inr (5, [.ref h2, .ref h3, .int isr, .int wh, .int sh])), (h2, .inr (6, [.int rl, .int rf, .int ra, .int rx, .int ry])), (h3, .inr (6, [.int kl, .int kf, .int ka, .int kx, .int ky]))]) [0, 1, 2] rfl
    have hDc := hD.sub (ws' := [(h0, .inr (5, [.ref h2, .ref h3, .int isr, .int wh, .int sh])), (h2, .inr (6, [.int rl, .int rf, .int ra, .int rx, .int ry])), (h3, .inr (6, [.int kl, .int kf, .int ka, .int kx, .int ky]))]) [0, 1, 2] (by decide) rfl
    have hKc := hK.sub (tys' := []) [] rfl
    refine rd_i (va_runV (As := []) (rest := [.int 16, .int 5]) ⟨hx, hb, hml, hown, hts⟩ (kX7_rangeMarks l D s.heap.size h0 h2 h3 isr wh sh rl rf ra rx ry kl kf ka kx ky ) (cwV 0 hts gX7_wordAt_X7_rangeMarks rfl rfl rfl (by decide +kernel) ⟨Nat.le_of_ble_eq_true rfl, Nat.le_of_ble_eq_true rfl⟩) ⟨Pw_blind, (va_recv hKc hPc (ci := 5) (q0 := 0) rfl rfl), fun U hU hW => Pw_at hKc hPc hDc hN hU hW⟩ rfl rfl hl.1 rfl (lv_room (Nat.le_of_ble_eq_true rfl)) dX7_wordAt_47 ⟨Nat.le_of_ble_eq_true rfl, Nat.le_of_ble_eq_true rfl⟩) ?_
    refine lv_imul hx hb dX7_wordAt_50 ?_
    refine lv_iadd hx hb dX7_wordAt_51 ?_
    refine lv_goto (tgt := 64) hx hb dX7_wordAt_52 (by decide) ?_
    have hF : (fX7_wordAt_0 isr wh rx ry kx ky) = (5 + (16 * ((wh + (fX7_cornerMarks rx kx)) + (4 * (fX7_cornerMarks ry ky))))) := by exact (if_neg c40)
    subst hQe
    exact W.iret (v := (5 + (16 * ((wh + (fX7_cornerMarks rx kx)) + (4 * (fX7_cornerMarks ry ky)))))) hx hb hr (fun t ht hW => ⟨_, rfl, hF.symm, ht⟩) (fun q h => absurd h List.not_mem_nil) dX7_wordAt_64

abbrev rmX7_wordAt_1 : Room := { frames := 0, cells := 0, slots := 0, locals := 0 }
abbrev qX7_wordAt_1 (D : va_G) (sz : Nat) (h0 : Nat) (h2 : Nat) (h3 : Nat) (isr : Int32) (wh : Int32) (sh : Int32) (rl : Int32) (rf : Int32) (ra : Int32) (rx : Int32) (ry : Int32) (kl : Int32) (kf : Int32) (ka : Int32) (kx : Int32) (ky : Int32) : Array Value → State → Outcome → State → Prop := vp_Si (fun r_9 => r_9 = sh)
set_option maxHeartbeats 4000000 in
set_option maxRecDepth 100000 in
theorem kX7_wordAt_1 (l : Launch) (D : va_G) (sz : Nat) (h0 : Nat) (h2 : Nat) (h3 : Nat) (isr : Int32) (wh : Int32) (sh : Int32) (rl : Int32) (rf : Int32) (ra : Int32) (rx : Int32) (ry : Int32) (kl : Int32) (kf : Int32) (ka : Int32) (kx : Int32) (ky : Int32) : Met l yX7_wordAt wsX7_wordAt rmX7_wordAt_1 (va_Pc [.ref h0, .int 1] (Pw D [] [(h0, .inr (5, [.ref h2, .ref h3, .int isr, .int wh, .int sh])), (h2, .inr (6, [.int rl, .int rf, .int ra, .int rx, .int ry])), (h3, .inr (6, [.int kl, .int kf, .int ka, .int kx, .int ky]))] sz)) (qX7_wordAt_1 D sz h0 h2 h3 isr wh sh rl rf ra rx ry kl kf ka kx ky) 0 0 (fun _ => False) := by
  refine Met.ofW (cc := cX7_wordAt) (maxL := 2) (ret := (some .int)) (by decide) rfl ?_
  intro p e s m args below meth c s₁ B hml hv
  obtain ⟨rfl, hsz, hP, hK, hD0, hN⟩ := hv
  have hx := B.exec
  have hb := B.bytes
  have hr := B.returns
  have hts := atoms_spec (ws := wsX7_wordAt) B.pre
  have hown : s.vm.findClass RX7 = some m.cls := findClass_of_methodNamed B.named
  have hlocks := B.notSynchronized
  subst hsz
  obtain ⟨Q, hQe⟩ : ∃ Q, Q = MQ below (qX7_wordAt_1 D s.heap.size h0 h2 h3 isr wh sh rl rf ra rx ry kl kf ka kx ky) ([.ref h0, .int 1] : List Value).toArray s 0 0 (fun _ => False) := ⟨_, rfl⟩
  rw [← hQe]
  have hD := hD0
  have hP : va_P D vwCl [(h0, .inr (5, [.ref h2, .ref h3, .int isr, .int wh, .int sh])), (h2, .inr (6, [.int rl, .int rf, .int ra, .int rx, .int ry])), (h3, .inr (6, [.int kl, .int kf, .int ka, .int kx, .int ky]))] s.heap := hP
  have hl := lv_entry ([.ref h0, .int 1]) (n := 2) (Nat.le_of_ble_eq_true rfl)
  rw [lg_entry_eq]
  generalize (lg_sl ([.ref h0, .int 1]) ++ List.replicate (2 - (lg_sl ([.ref h0, .int 1])).length) Slot.unset).toArray = ls at hl ⊢
  have hl : lv_has ls 2 [(0, .ref h0), (1, .int 1)] := hl
  have w_X7 : ∀ w ∈ wsX70, w ∈ wsX7_wordAt := by decide +kernel
  have f_24 := hts (.fieldLink RX7 24 "ReferenceMover$Reference" "sheet" "I") (by decide +kernel)
  refine lv_iload_n hx hb dX7_wordAt_0 rfl (lv_at hl 1 rfl) ?_
  refine lv_tableIn (tgt := 65) hx hb dX7_wordAt_1 (by decide) (by decide) (show _ = some (64 : Int) by decide) (by decide) ?_
  refine lv_aload_n hx hb dX7_wordAt_65 rfl (lv_at hl 0 rfl) ?_
  refine va_get (D := D) (ci := 5) (v := .int sh) (C := RX7) (T := TX7) (N := 5) hx hb hts w_X7 hown hK hP 0 rfl rfl 4 (by decide) f_24 (fun _ h9 => h9) rfl dX7_wordAt_66 ?_
  subst hQe
  exact W.iret (v := sh) hx hb hr (fun t ht hW => ⟨_, rfl, rfl, ht⟩) (fun q h => absurd h List.not_mem_nil) dX7_wordAt_69

abbrev rmX7_wordAt_2 : Room := { frames := 0, cells := 0, slots := 0, locals := 0 }
abbrev qX7_wordAt_2 (D : va_G) (sz : Nat) (h0 : Nat) (h2 : Nat) (h3 : Nat) (isr : Int32) (wh : Int32) (sh : Int32) (rl : Int32) (rf : Int32) (ra : Int32) (rx : Int32) (ry : Int32) (kl : Int32) (kf : Int32) (ka : Int32) (kx : Int32) (ky : Int32) : Array Value → State → Outcome → State → Prop := vp_Si (fun r_9 => r_9 = rf)
set_option maxHeartbeats 4000000 in
set_option maxRecDepth 100000 in
theorem kX7_wordAt_2 (l : Launch) (D : va_G) (sz : Nat) (h0 : Nat) (h2 : Nat) (h3 : Nat) (isr : Int32) (wh : Int32) (sh : Int32) (rl : Int32) (rf : Int32) (ra : Int32) (rx : Int32) (ry : Int32) (kl : Int32) (kf : Int32) (ka : Int32) (kx : Int32) (ky : Int32) : Met l yX7_wordAt wsX7_wordAt rmX7_wordAt_2 (va_Pc [.ref h0, .int 2] (Pw D [] [(h0, .inr (5, [.ref h2, .ref h3, .int isr, .int wh, .int sh])), (h2, .inr (6, [.int rl, .int rf, .int ra, .int rx, .int ry])), (h3, .inr (6, [.int kl, .int kf, .int ka, .int kx, .int ky]))] sz)) (qX7_wordAt_2 D sz h0 h2 h3 isr wh sh rl rf ra rx ry kl kf ka kx ky) 0 0 (fun _ => False) := by
  refine Met.ofW (cc := cX7_wordAt) (maxL := 2) (ret := (some .int)) (by decide) rfl ?_
  intro p e s m args below meth c s₁ B hml hv
  obtain ⟨rfl, hsz, hP, hK, hD0, hN⟩ := hv
  have hx := B.exec
  have hb := B.bytes
  have hr := B.returns
  have hts := atoms_spec (ws := wsX7_wordAt) B.pre
  have hown : s.vm.findClass RX7 = some m.cls := findClass_of_methodNamed B.named
  have hlocks := B.notSynchronized
  subst hsz
  obtain ⟨Q, hQe⟩ : ∃ Q, Q = MQ below (qX7_wordAt_2 D s.heap.size h0 h2 h3 isr wh sh rl rf ra rx ry kl kf ka kx ky) ([.ref h0, .int 2] : List Value).toArray s 0 0 (fun _ => False) := ⟨_, rfl⟩
  rw [← hQe]
  have hD := hD0
  have hP : va_P D vwCl [(h0, .inr (5, [.ref h2, .ref h3, .int isr, .int wh, .int sh])), (h2, .inr (6, [.int rl, .int rf, .int ra, .int rx, .int ry])), (h3, .inr (6, [.int kl, .int kf, .int ka, .int kx, .int ky]))] s.heap := hP
  have hl := lv_entry ([.ref h0, .int 2]) (n := 2) (Nat.le_of_ble_eq_true rfl)
  rw [lg_entry_eq]
  generalize (lg_sl ([.ref h0, .int 2]) ++ List.replicate (2 - (lg_sl ([.ref h0, .int 2])).length) Slot.unset).toArray = ls at hl ⊢
  have hl : lv_has ls 2 [(0, .ref h0), (1, .int 2)] := hl
  have w_X7 : ∀ w ∈ wsX70, w ∈ wsX7_wordAt := by decide +kernel
  have f_15 := hts (.fieldLink RX7 15 "ReferenceMover$Reference" "rows" "LReferenceMover$Span;") (by decide +kernel)
  have w_X8 : ∀ w ∈ wsX80, w ∈ wsX7_wordAt := by decide +kernel
  have f_39 := hts (.fieldLink RX7 39 "ReferenceMover$Span" "first" "I") (by decide +kernel)
  refine lv_iload_n hx hb dX7_wordAt_0 rfl (lv_at hl 1 rfl) ?_
  refine lv_tableIn (tgt := 70) hx hb dX7_wordAt_1 (by decide) (by decide) (show _ = some (69 : Int) by decide) (by decide) ?_
  refine lv_aload_n hx hb dX7_wordAt_70 rfl (lv_at hl 0 rfl) ?_
  refine va_get (D := D) (ci := 5) (v := .ref h2) (C := RX7) (T := TX7) (N := 5) hx hb hts w_X7 hown hK hP 0 rfl rfl 0 (by decide) f_15 (fun _ h9 => h9) rfl dX7_wordAt_71 ?_
  refine va_get (D := D) (ci := 6) (v := .int rf) (C := RX8) (T := TX8) (N := 5) hx hb hts w_X8 hown hK hP 1 rfl rfl 1 (by decide) f_39 (fun _ h9 => h9) rfl dX7_wordAt_74 ?_
  subst hQe
  exact W.iret (v := rf) hx hb hr (fun t ht hW => ⟨_, rfl, rfl, ht⟩) (fun q h => absurd h List.not_mem_nil) dX7_wordAt_77

abbrev rmX7_wordAt_3 : Room := { frames := 0, cells := 0, slots := 0, locals := 0 }
abbrev qX7_wordAt_3 (D : va_G) (sz : Nat) (h0 : Nat) (h2 : Nat) (h3 : Nat) (isr : Int32) (wh : Int32) (sh : Int32) (rl : Int32) (rf : Int32) (ra : Int32) (rx : Int32) (ry : Int32) (kl : Int32) (kf : Int32) (ka : Int32) (kx : Int32) (ky : Int32) : Array Value → State → Outcome → State → Prop := vp_Si (fun r_9 => r_9 = kf)
set_option maxHeartbeats 4000000 in
set_option maxRecDepth 100000 in
theorem kX7_wordAt_3 (l : Launch) (D : va_G) (sz : Nat) (h0 : Nat) (h2 : Nat) (h3 : Nat) (isr : Int32) (wh : Int32) (sh : Int32) (rl : Int32) (rf : Int32) (ra : Int32) (rx : Int32) (ry : Int32) (kl : Int32) (kf : Int32) (ka : Int32) (kx : Int32) (ky : Int32) : Met l yX7_wordAt wsX7_wordAt rmX7_wordAt_3 (va_Pc [.ref h0, .int 3] (Pw D [] [(h0, .inr (5, [.ref h2, .ref h3, .int isr, .int wh, .int sh])), (h2, .inr (6, [.int rl, .int rf, .int ra, .int rx, .int ry])), (h3, .inr (6, [.int kl, .int kf, .int ka, .int kx, .int ky]))] sz)) (qX7_wordAt_3 D sz h0 h2 h3 isr wh sh rl rf ra rx ry kl kf ka kx ky) 0 0 (fun _ => False) := by
  refine Met.ofW (cc := cX7_wordAt) (maxL := 2) (ret := (some .int)) (by decide) rfl ?_
  intro p e s m args below meth c s₁ B hml hv
  obtain ⟨rfl, hsz, hP, hK, hD0, hN⟩ := hv
  have hx := B.exec
  have hb := B.bytes
  have hr := B.returns
  have hts := atoms_spec (ws := wsX7_wordAt) B.pre
  have hown : s.vm.findClass RX7 = some m.cls := findClass_of_methodNamed B.named
  have hlocks := B.notSynchronized
  subst hsz
  obtain ⟨Q, hQe⟩ : ∃ Q, Q = MQ below (qX7_wordAt_3 D s.heap.size h0 h2 h3 isr wh sh rl rf ra rx ry kl kf ka kx ky) ([.ref h0, .int 3] : List Value).toArray s 0 0 (fun _ => False) := ⟨_, rfl⟩
  rw [← hQe]
  have hD := hD0
  have hP : va_P D vwCl [(h0, .inr (5, [.ref h2, .ref h3, .int isr, .int wh, .int sh])), (h2, .inr (6, [.int rl, .int rf, .int ra, .int rx, .int ry])), (h3, .inr (6, [.int kl, .int kf, .int ka, .int kx, .int ky]))] s.heap := hP
  have hl := lv_entry ([.ref h0, .int 3]) (n := 2) (Nat.le_of_ble_eq_true rfl)
  rw [lg_entry_eq]
  generalize (lg_sl ([.ref h0, .int 3]) ++ List.replicate (2 - (lg_sl ([.ref h0, .int 3])).length) Slot.unset).toArray = ls at hl ⊢
  have hl : lv_has ls 2 [(0, .ref h0), (1, .int 3)] := hl
  have w_X7 : ∀ w ∈ wsX70, w ∈ wsX7_wordAt := by decide +kernel
  have f_21 := hts (.fieldLink RX7 21 "ReferenceMover$Reference" "columns" "LReferenceMover$Span;") (by decide +kernel)
  have w_X8 : ∀ w ∈ wsX80, w ∈ wsX7_wordAt := by decide +kernel
  have f_39 := hts (.fieldLink RX7 39 "ReferenceMover$Span" "first" "I") (by decide +kernel)
  refine lv_iload_n hx hb dX7_wordAt_0 rfl (lv_at hl 1 rfl) ?_
  refine lv_tableIn (tgt := 78) hx hb dX7_wordAt_1 (by decide) (by decide) (show _ = some (77 : Int) by decide) (by decide) ?_
  refine lv_aload_n hx hb dX7_wordAt_78 rfl (lv_at hl 0 rfl) ?_
  refine va_get (D := D) (ci := 5) (v := .ref h3) (C := RX7) (T := TX7) (N := 5) hx hb hts w_X7 hown hK hP 0 rfl rfl 1 (by decide) f_21 (fun _ h9 => h9) rfl dX7_wordAt_79 ?_
  refine va_get (D := D) (ci := 6) (v := .int kf) (C := RX8) (T := TX8) (N := 5) hx hb hts w_X8 hown hK hP 2 rfl rfl 1 (by decide) f_39 (fun _ h9 => h9) rfl dX7_wordAt_82 ?_
  subst hQe
  exact W.iret (v := kf) hx hb hr (fun t ht hW => ⟨_, rfl, rfl, ht⟩) (fun q h => absurd h List.not_mem_nil) dX7_wordAt_85

abbrev rmX7_wordAt_4 : Room := { frames := 0, cells := 0, slots := 0, locals := 0 }
abbrev qX7_wordAt_4 (D : va_G) (sz : Nat) (h0 : Nat) (h2 : Nat) (h3 : Nat) (isr : Int32) (wh : Int32) (sh : Int32) (rl : Int32) (rf : Int32) (ra : Int32) (rx : Int32) (ry : Int32) (kl : Int32) (kf : Int32) (ka : Int32) (kx : Int32) (ky : Int32) : Array Value → State → Outcome → State → Prop := vp_Si (fun r_9 => r_9 = ra)
set_option maxHeartbeats 4000000 in
set_option maxRecDepth 100000 in
theorem kX7_wordAt_4 (l : Launch) (D : va_G) (sz : Nat) (h0 : Nat) (h2 : Nat) (h3 : Nat) (isr : Int32) (wh : Int32) (sh : Int32) (rl : Int32) (rf : Int32) (ra : Int32) (rx : Int32) (ry : Int32) (kl : Int32) (kf : Int32) (ka : Int32) (kx : Int32) (ky : Int32) : Met l yX7_wordAt wsX7_wordAt rmX7_wordAt_4 (va_Pc [.ref h0, .int 4] (Pw D [] [(h0, .inr (5, [.ref h2, .ref h3, .int isr, .int wh, .int sh])), (h2, .inr (6, [.int rl, .int rf, .int ra, .int rx, .int ry])), (h3, .inr (6, [.int kl, .int kf, .int ka, .int kx, .int ky]))] sz)) (qX7_wordAt_4 D sz h0 h2 h3 isr wh sh rl rf ra rx ry kl kf ka kx ky) 0 0 (fun _ => False) := by
  refine Met.ofW (cc := cX7_wordAt) (maxL := 2) (ret := (some .int)) (by decide) rfl ?_
  intro p e s m args below meth c s₁ B hml hv
  obtain ⟨rfl, hsz, hP, hK, hD0, hN⟩ := hv
  have hx := B.exec
  have hb := B.bytes
  have hr := B.returns
  have hts := atoms_spec (ws := wsX7_wordAt) B.pre
  have hown : s.vm.findClass RX7 = some m.cls := findClass_of_methodNamed B.named
  have hlocks := B.notSynchronized
  subst hsz
  obtain ⟨Q, hQe⟩ : ∃ Q, Q = MQ below (qX7_wordAt_4 D s.heap.size h0 h2 h3 isr wh sh rl rf ra rx ry kl kf ka kx ky) ([.ref h0, .int 4] : List Value).toArray s 0 0 (fun _ => False) := ⟨_, rfl⟩
  rw [← hQe]
  have hD := hD0
  have hP : va_P D vwCl [(h0, .inr (5, [.ref h2, .ref h3, .int isr, .int wh, .int sh])), (h2, .inr (6, [.int rl, .int rf, .int ra, .int rx, .int ry])), (h3, .inr (6, [.int kl, .int kf, .int ka, .int kx, .int ky]))] s.heap := hP
  have hl := lv_entry ([.ref h0, .int 4]) (n := 2) (Nat.le_of_ble_eq_true rfl)
  rw [lg_entry_eq]
  generalize (lg_sl ([.ref h0, .int 4]) ++ List.replicate (2 - (lg_sl ([.ref h0, .int 4])).length) Slot.unset).toArray = ls at hl ⊢
  have hl : lv_has ls 2 [(0, .ref h0), (1, .int 4)] := hl
  have w_X7 : ∀ w ∈ wsX70, w ∈ wsX7_wordAt := by decide +kernel
  have f_15 := hts (.fieldLink RX7 15 "ReferenceMover$Reference" "rows" "LReferenceMover$Span;") (by decide +kernel)
  have w_X8 : ∀ w ∈ wsX80, w ∈ wsX7_wordAt := by decide +kernel
  have f_42 := hts (.fieldLink RX7 42 "ReferenceMover$Span" "last" "I") (by decide +kernel)
  refine lv_iload_n hx hb dX7_wordAt_0 rfl (lv_at hl 1 rfl) ?_
  refine lv_tableIn (tgt := 86) hx hb dX7_wordAt_1 (by decide) (by decide) (show _ = some (85 : Int) by decide) (by decide) ?_
  refine lv_aload_n hx hb dX7_wordAt_86 rfl (lv_at hl 0 rfl) ?_
  refine va_get (D := D) (ci := 5) (v := .ref h2) (C := RX7) (T := TX7) (N := 5) hx hb hts w_X7 hown hK hP 0 rfl rfl 0 (by decide) f_15 (fun _ h9 => h9) rfl dX7_wordAt_87 ?_
  refine va_get (D := D) (ci := 6) (v := .int ra) (C := RX8) (T := TX8) (N := 5) hx hb hts w_X8 hown hK hP 1 rfl rfl 2 (by decide) f_42 (fun _ h9 => h9) rfl dX7_wordAt_90 ?_
  subst hQe
  exact W.iret (v := ra) hx hb hr (fun t ht hW => ⟨_, rfl, rfl, ht⟩) (fun q h => absurd h List.not_mem_nil) dX7_wordAt_93

abbrev rmX7_wordAt_5 : Room := { frames := 0, cells := 0, slots := 0, locals := 0 }
abbrev qX7_wordAt_5 (D : va_G) (sz : Nat) (h0 : Nat) (h2 : Nat) (h3 : Nat) (isr : Int32) (wh : Int32) (sh : Int32) (rl : Int32) (rf : Int32) (ra : Int32) (rx : Int32) (ry : Int32) (kl : Int32) (kf : Int32) (ka : Int32) (kx : Int32) (ky : Int32) : Array Value → State → Outcome → State → Prop := vp_Si (fun r_9 => r_9 = ka)
set_option maxHeartbeats 4000000 in
set_option maxRecDepth 100000 in
theorem kX7_wordAt_5 (l : Launch) (D : va_G) (sz : Nat) (h0 : Nat) (h2 : Nat) (h3 : Nat) (isr : Int32) (wh : Int32) (sh : Int32) (rl : Int32) (rf : Int32) (ra : Int32) (rx : Int32) (ry : Int32) (kl : Int32) (kf : Int32) (ka : Int32) (kx : Int32) (ky : Int32) : Met l yX7_wordAt wsX7_wordAt rmX7_wordAt_5 (va_Pc [.ref h0, .int 5] (Pw D [] [(h0, .inr (5, [.ref h2, .ref h3, .int isr, .int wh, .int sh])), (h2, .inr (6, [.int rl, .int rf, .int ra, .int rx, .int ry])), (h3, .inr (6, [.int kl, .int kf, .int ka, .int kx, .int ky]))] sz)) (qX7_wordAt_5 D sz h0 h2 h3 isr wh sh rl rf ra rx ry kl kf ka kx ky) 0 0 (fun _ => False) := by
  refine Met.ofW (cc := cX7_wordAt) (maxL := 2) (ret := (some .int)) (by decide) rfl ?_
  intro p e s m args below meth c s₁ B hml hv
  obtain ⟨rfl, hsz, hP, hK, hD0, hN⟩ := hv
  have hx := B.exec
  have hb := B.bytes
  have hr := B.returns
  have hts := atoms_spec (ws := wsX7_wordAt) B.pre
  have hown : s.vm.findClass RX7 = some m.cls := findClass_of_methodNamed B.named
  have hlocks := B.notSynchronized
  subst hsz
  obtain ⟨Q, hQe⟩ : ∃ Q, Q = MQ below (qX7_wordAt_5 D s.heap.size h0 h2 h3 isr wh sh rl rf ra rx ry kl kf ka kx ky) ([.ref h0, .int 5] : List Value).toArray s 0 0 (fun _ => False) := ⟨_, rfl⟩
  rw [← hQe]
  have hD := hD0
  have hP : va_P D vwCl [(h0, .inr (5, [.ref h2, .ref h3, .int isr, .int wh, .int sh])), (h2, .inr (6, [.int rl, .int rf, .int ra, .int rx, .int ry])), (h3, .inr (6, [.int kl, .int kf, .int ka, .int kx, .int ky]))] s.heap := hP
  have hl := lv_entry ([.ref h0, .int 5]) (n := 2) (Nat.le_of_ble_eq_true rfl)
  rw [lg_entry_eq]
  generalize (lg_sl ([.ref h0, .int 5]) ++ List.replicate (2 - (lg_sl ([.ref h0, .int 5])).length) Slot.unset).toArray = ls at hl ⊢
  have hl : lv_has ls 2 [(0, .ref h0), (1, .int 5)] := hl
  have w_X7 : ∀ w ∈ wsX70, w ∈ wsX7_wordAt := by decide +kernel
  have f_21 := hts (.fieldLink RX7 21 "ReferenceMover$Reference" "columns" "LReferenceMover$Span;") (by decide +kernel)
  have w_X8 : ∀ w ∈ wsX80, w ∈ wsX7_wordAt := by decide +kernel
  have f_42 := hts (.fieldLink RX7 42 "ReferenceMover$Span" "last" "I") (by decide +kernel)
  refine lv_iload_n hx hb dX7_wordAt_0 rfl (lv_at hl 1 rfl) ?_
  refine lv_tableOut (tgt := 94) hx hb dX7_wordAt_1 (by decide) (by decide) ?_
  refine lv_aload_n hx hb dX7_wordAt_94 rfl (lv_at hl 0 rfl) ?_
  refine va_get (D := D) (ci := 5) (v := .ref h3) (C := RX7) (T := TX7) (N := 5) hx hb hts w_X7 hown hK hP 0 rfl rfl 1 (by decide) f_21 (fun _ h9 => h9) rfl dX7_wordAt_95 ?_
  refine va_get (D := D) (ci := 6) (v := .int ka) (C := RX8) (T := TX8) (N := 5) hx hb hts w_X8 hown hK hP 2 rfl rfl 2 (by decide) f_42 (fun _ h9 => h9) rfl dX7_wordAt_98 ?_
  subst hQe
  exact W.iret (v := ka) hx hb hr (fun t ht hW => ⟨_, rfl, rfl, ht⟩) (fun q h => absurd h List.not_mem_nil) dX7_wordAt_101
