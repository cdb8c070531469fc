def fX10_copyRange (md : Int32) (ch : Int32) (f : Nat → Int32) (g : Nat → Int32) (k : Int32) (dn : Int32) (al : Int32) : Int32 × Int32 × (Nat → Int32) := let v_1 : Int32 := (if ((((f k.toNatClampNeg) / 16) / 32) - (((f k.toNatClampNeg) / 16) / 32) / 2 * 2) = 1 then 1 else 0); let v_2 : Int32 := (if ((((f k.toNatClampNeg) / 16) / 16) - (((f k.toNatClampNeg) / 16) / 16) / 2 * 2) = 1 then 1 else 0); let v_3 : Int32 := (if v_2 = 0 then (if (((f k.toNatClampNeg) / 16) &&& 2) ≤ 0 then 0 else 1) else 1); let v_4 : Int32 := (if v_2 = 0 then (if (((f k.toNatClampNeg) / 16) &&& 8) ≤ 0 then 0 else 1) else 1); let v_5 : Int32 := (if v_1 = 0 then (if (((f k.toNatClampNeg) / 16) &&& 1) ≤ 0 then 0 else 1) else 1); let v_6 : Int32 := (if v_1 = 0 then (if (((f k.toNatClampNeg) / 16) &&& 4) ≤ 0 then 0 else 1) else 1); if (fX10_moved (f (k + 2).toNatClampNeg) v_3 dn 1048576) = 0 then (((md + 1), (ch + 1), (upd g md.toNatClampNeg 67))) else (if (fX10_moved (f (k + 4).toNatClampNeg) v_4 dn 1048576) = 0 then (((md + 1), (ch + 1), (upd g md.toNatClampNeg 67))) else (if (fX10_moved (f (k + 3).toNatClampNeg) v_5 al 16384) = 0 then (((md + 1), (ch + 1), (upd g md.toNatClampNeg 67))) else (if (fX10_moved (f (k + 5).toNatClampNeg) v_6 al 16384) = 0 then (((md + 1), (ch + 1), (upd g md.toNatClampNeg 67))) else (let v_7 : Int32 := (if (fX10_moved (f (k + 3).toNatClampNeg) v_5 al 16384) ≤ (fX10_moved (f (k + 5).toNatClampNeg) v_6 al 16384) then (((f k.toNatClampNeg) / 16) &&& 5) else (((((f k.toNatClampNeg) / 16) &&& 1) * 4) + ((((f k.toNatClampNeg) / 16) &&& 4) / 4))); let v_8 : Int32 := (if (fX10_moved (f (k + 2).toNatClampNeg) v_3 dn 1048576) ≤ (fX10_moved (f (k + 4).toNatClampNeg) v_4 dn 1048576) then (((f k.toNatClampNeg) / 16) &&& 10) else (((((f k.toNatClampNeg) / 16) &&& 2) * 4) + ((((f k.toNatClampNeg) / 16) &&& 8) / 4))); let v_9 : Int32 := (if (fX10_moved (f (k + 2).toNatClampNeg) v_3 dn 1048576) ≤ (fX10_moved (f (k + 4).toNatClampNeg) v_4 dn 1048576) then (fX10_moved (f (k + 2).toNatClampNeg) v_3 dn 1048576) else (fX10_moved (f (k + 4).toNatClampNeg) v_4 dn 1048576)); let v_10 : Int32 := (if (fX10_moved (f (k + 3).toNatClampNeg) v_5 al 16384) ≤ (fX10_moved (f (k + 5).toNatClampNeg) v_6 al 16384) then (fX10_moved (f (k + 3).toNatClampNeg) v_5 al 16384) else (fX10_moved (f (k + 5).toNatClampNeg) v_6 al 16384)); let v_11 : Int32 := (if (fX10_moved (f (k + 2).toNatClampNeg) v_3 dn 1048576) ≤ (fX10_moved (f (k + 4).toNatClampNeg) v_4 dn 1048576) then (fX10_moved (f (k + 4).toNatClampNeg) v_4 dn 1048576) else (fX10_moved (f (k + 2).toNatClampNeg) v_3 dn 1048576)); let v_12 : Int32 := (if (fX10_moved (f (k + 3).toNatClampNeg) v_5 al 16384) ≤ (fX10_moved (f (k + 5).toNatClampNeg) v_6 al 16384) then (fX10_moved (f (k + 5).toNatClampNeg) v_6 al 16384) else (fX10_moved (f (k + 3).toNatClampNeg) v_5 al 16384)); ((fX10_makeRange md ch f g k (((((f k.toNatClampNeg) / 16) &&& 48) + v_7) + v_8) (f (k + 1).toNatClampNeg) v_9 v_10 v_11 v_12).1, (fX10_makeRange md ch f g k (((((f k.toNatClampNeg) / 16) &&& 48) + v_7) + v_8) (f (k + 1).toNatClampNeg) v_9 v_10 v_11 v_12).2.1, (fX10_makeRange md ch f g k (((((f k.toNatClampNeg) / 16) &&& 48) + v_7) + v_8) (f (k + 1).toNatClampNeg) v_9 v_10 v_11 v_12).2.2)))))
abbrev rmX10_copyRange : Room := { frames := 2, cells := 0, slots := 0, locals := 49 }
abbrev qX10_copyRange (D : va_G) (sz : Nat) (h0 : Nat) (h1 : Nat) (h2 : Nat) (cA : ClassId) (cB : ClassId) (cd : Int32) (n : Int32) (md : Int32) (ch : Int32) (sh : Int32) (tp : Int32) (lf : Int32) (bt : Int32) (rt : Int32) (f : Nat → Int32) (g : Nat → Int32) (k : Int32) (dn : Int32) (al : Int32) : Array Value → State → Outcome → State → Prop := va_Qv (fun w_9 => ∃ _u : Unit, True ∧ w_9 = [(h0, .inr (8, [.int cd, .int n, .ref h1, .int (fX10_copyRange md ch f g k dn al).1, .ref h2, .int (fX10_copyRange md ch f g k dn al).2.1, .int sh, .int tp, .int lf, .int bt, .int rt])), (h1, .inl (cA, 1000, .inl f)), (h2, .inl (cB, 1000, .inl (fX10_copyRange md ch f g k dn al).2.2))]) (Bq D (va_A [(h0, .inr (8, [.int cd, .int n, .ref h1, .int md, .ref h2, .int ch, .int sh, .int tp, .int lf, .int bt, .int rt])), (h1, .inl (cA, 1000, .inl f)), (h2, .inl (cB, 1000, .inl g))] sz)) (va_A [(h0, .inr (8, [.int cd, .int n, .ref h1, .int md, .ref h2, .int ch, .int sh, .int tp, .int lf, .int bt, .int rt])), (h1, .inl (cA, 1000, .inl f)), (h2, .inl (cB, 1000, .inl g))] sz)
set_option maxHeartbeats 4000000 in
set_option maxRecDepth 100000 in
theorem kX10_copyRange (l : Launch) (D : va_G) (sz : Nat) (h0 : Nat) (h1 : Nat) (h2 : Nat) (cA : ClassId) (cB : ClassId) (cd : Int32) (n : Int32) (md : Int32) (ch : Int32) (sh : Int32) (tp : Int32) (lf : Int32) (bt : Int32) (rt : Int32) (f : Nat → Int32) (g : Nat → Int32) (k : Int32) (dn : Int32) (al : Int32) (hk : vp_in k 995) (hm : vp_in md 995) : Met l yX10_copyRange wsX10_copyRange rmX10_copyRange (va_Pc [.ref h0, .int k, .int dn, .int al] (Pw D [(cA, .int), (cB, .int)] [(h0, .inr (8, [.int cd, .int n, .ref h1, .int md, .ref h2, .int ch, .int sh, .int tp, .int lf, .int bt, .int rt])), (h1, .inl (cA, 1000, .inl f)), (h2, .inl (cB, 1000, .inl g))] sz)) (qX10_copyRange D sz h0 h1 h2 cA cB cd n md ch sh tp lf bt rt f g k dn al) 0 0 (va_A [(h0, .inr (8, [.int cd, .int n, .ref h1, .int md, .ref h2, .int ch, .int sh, .int tp, .int lf, .int bt, .int rt])), (h1, .inl (cA, 1000, .inl f)), (h2, .inl (cB, 1000, .inl g))] sz) := by
  refine Met.ofW (cc := cX10_copyRange) (maxL := 14) (ret := none) (by decide) rfl ?_
  intro p e s m args below meth c s₁ B hml hv
  obtain ⟨rfl, hsz, hP, hK, hD0, hN⟩ := hv
  have hx := B.exec
  have hb := B.bytes
  have hr := B.returns
  have hts := atoms_spec (ws := wsX10_copyRange) B.pre
  have hown : s.vm.findClass RX10 = some m.cls := findClass_of_methodNamed B.named
  have hlocks := B.notSynchronized
  subst hsz
  obtain ⟨Q, hQe⟩ : ∃ Q, Q = MQ below (qX10_copyRange D s.heap.size h0 h1 h2 cA cB cd n md ch sh tp lf bt rt f g k dn al) ([.ref h0, .int k, .int dn, .int al] : List Value).toArray s 0 0 (va_A [(h0, .inr (8, [.int cd, .int n, .ref h1, .int md, .ref h2, .int ch, .int sh, .int tp, .int lf, .int bt, .int rt])), (h1, .inl (cA, 1000, .inl f)), (h2, .inl (cB, 1000, .inl g))] s.heap.size) := ⟨_, rfl⟩
  rw [← hQe]
  obtain ⟨A, hAe⟩ : ∃ A, A = va_A [(h0, .inr (8, [.int cd, .int n, .ref h1, .int md, .ref h2, .int ch, .int sh, .int tp, .int lf, .int bt, .int rt])), (h1, .inl (cA, 1000, .inl f)), (h2, .inl (cB, 1000, .inl g))] s.heap.size := ⟨_, rfl⟩
  have hD : va_D A [(h0, .inr (8, [.int cd, .int n, .ref h1, .int md, .ref h2, .int ch, .int sh, .int tp, .int lf, .int bt, .int rt])), (h1, .inl (cA, 1000, .inl f)), (h2, .inl (cB, 1000, .inl g))] := by rw [hAe]; exact hD0.self
  have hA : ∀ q : Nat, s.heap.size ≤ q → A q := by rw [hAe]; exact mo_A
  have hS : va_S A s.heap s.heap [] := va_S.rf
  obtain ⟨H, hHe⟩ : ∃ H, H = s.heap := ⟨_, rfl⟩
  obtain ⟨locs, hLe⟩ : ∃ L : List Loc, L = [] := ⟨_, rfl⟩
  have hP : va_P D vwCl [(h0, .inr (8, [.int cd, .int n, .ref h1, .int md, .ref h2, .int ch, .int sh, .int tp, .int lf, .int bt, .int rt])), (h1, .inl (cA, 1000, .inl f)), (h2, .inl (cB, 1000, .inl g))] H := by rw [hHe]; exact hP
  have hS : va_S A s.heap H locs := by rw [hHe, hLe]; exact hS
  have hl := lv_entry ([.ref h0, .int k, .int dn, .int al]) (n := 14) (Nat.le_of_ble_eq_true rfl)
  rw [lg_entry_eq]
  generalize (lg_sl ([.ref h0, .int k, .int dn, .int al]) ++ List.replicate (14 - (lg_sl ([.ref h0, .int k, .int dn, .int al])).length) Slot.unset).toArray = ls at hl ⊢
  have hl : lv_has ls 14 [(0, .ref h0), (1, .int k), (2, .int dn), (3, .int al)] := hl
  refine hStart hHe hLe ?_
  clear hHe hLe
  have w_X10 : ∀ w ∈ wsX100, w ∈ wsX10_copyRange := by decide +kernel
  have f_7 := hts (.fieldLink RX10 7 "ReferenceMoverModel" "words" "[I") (by decide +kernel)
  have k_39 := hts (.constant RX10 39 (1048576)) (by decide +kernel)
  refine lv_aload_n hx hb dX10_copyRange_0 rfl (lv_at hl 0 rfl) ?_
  refine va_get (D := D) (ci := 8) (v := .ref h1) (C := RX10) (T := TX10) (N := 11) hx hb hts w_X10 hown hK hP 0 rfl rfl 2 (by decide) f_7 (fun _ h9 => h9) rfl dX10_copyRange_1 ?_
  refine lv_iload_n hx hb dX10_copyRange_4 rfl (lv_at hl 1 rfl) ?_
  refine va_iald hx hb hK hP 1 0 rfl rfl (in_w hk (by decide)) dX10_copyRange_5 ?_
  refine lv_bipush (v := 16) hx hb dX10_copyRange_6 (by decide) ?_
  refine lv_idiv hx hb dX10_copyRange_8 (by decide) ?_
  refine lv_istore (lv' := [(4, .int ((f k.toNatClampNeg) / 16)), (0, .ref h0), (1, .int k), (2, .int dn), (3, .int al)]) hx hb dX10_copyRange_9 hl (by decide) rfl (fun ls hl => ?_)
  refine lv_iload hx hb dX10_copyRange_11 (lv_at hl 0 rfl) ?_
  refine lv_bipush (v := 32) hx hb dX10_copyRange_13 (by decide) ?_
  refine lv_idiv hx hb dX10_copyRange_15 (by decide) ?_
  refine lv_iconst (v := 2) hx hb dX10_copyRange_16 (by decide) ?_
  refine lv_irem hx hb dX10_copyRange_17 (by decide) ?_
  refine lv_iconst (v := 1) hx hb dX10_copyRange_18 (by decide) ?_
  have K27_1 : ∀ (v_1 : Int32), v_1 = (if ((((f k.toNatClampNeg) / 16) / 32) - (((f k.toNatClampNeg) / 16) / 32) / 2 * 2) = 1 then 1 else 0) → ∀ ls : Array Slot, lv_has ls 14 [(0, .ref h0), (1, .int k), (2, .int dn), (3, .int al), (4, .int ((f k.toNatClampNeg) / 16))] → W p l e (headSpec wsX10_copyRange rmX10_copyRange).room s m ([.ref h0, .int k, .int dn, .int al] : List Value).toArray below meth c H locs 0 0 Q (F0 m 27 ls [.int v_1]) := by
    intro v_1 ev_1 ls hl
    refine lv_istore (lv' := [(5, .int v_1), (0, .ref h0), (1, .int k), (2, .int dn), (3, .int al), (4, .int ((f k.toNatClampNeg) / 16))]) hx hb dX10_copyRange_27 hl (by decide) rfl (fun ls hl => ?_)
    refine lv_iload hx hb dX10_copyRange_29 (lv_at hl 5 rfl) ?_
    refine lv_bipush (v := 16) hx hb dX10_copyRange_31 (by decide) ?_
    refine lv_idiv hx hb dX10_copyRange_33 (by decide) ?_
    refine lv_iconst (v := 2) hx hb dX10_copyRange_34 (by decide) ?_
    refine lv_irem hx hb dX10_copyRange_35 (by decide) ?_
    refine lv_iconst (v := 1) hx hb dX10_copyRange_36 (by decide) ?_
    have K45_2 : ∀ (v_2 : Int32), v_2 = (if ((((f k.toNatClampNeg) / 16) / 16) - (((f k.toNatClampNeg) / 16) / 16) / 2 * 2) = 1 then 1 else 0) → ∀ ls : Array Slot, lv_has ls 14 [(0, .ref h0), (1, .int k), (2, .int dn), (3, .int al), (4, .int ((f k.toNatClampNeg) / 16)), (5, .int v_1)] → W p l e (headSpec wsX10_copyRange rmX10_copyRange).room s m ([.ref h0, .int k, .int dn, .int al] : List Value).toArray below meth c H locs 0 0 Q (F0 m 45 ls [.int v_2]) := by
      intro v_2 ev_2 ls hl
      refine lv_istore (lv' := [(6, .int v_2), (0, .ref h0), (1, .int k), (2, .int dn), (3, .int al), (4, .int ((f k.toNatClampNeg) / 16)), (5, .int v_1)]) hx hb dX10_copyRange_45 hl (by decide) rfl (fun ls hl => ?_)
      refine lv_aload_n hx hb dX10_copyRange_47 rfl (lv_at hl 1 rfl) ?_
      refine va_get (D := D) (ci := 8) (v := .ref h1) (C := RX10) (T := TX10) (N := 11) hx hb hts w_X10 hown hK hP 0 rfl rfl 2 (by decide) f_7 (fun _ h9 => h9) rfl dX10_copyRange_48 ?_
      refine lv_iload_n hx hb dX10_copyRange_51 rfl (lv_at hl 2 rfl) ?_
      refine lv_iconst (v := 2) hx hb dX10_copyRange_52 (by decide) ?_
      refine lv_iadd hx hb dX10_copyRange_53 ?_
      refine va_iald hx hb hK hP 1 0 rfl rfl (in_add (c := 2) (n := 1000) hk (by decide) (by decide) (by decide)) dX10_copyRange_54 ?_
      refine lv_iload hx hb dX10_copyRange_55 (lv_at hl 0 rfl) ?_
      have K72_3 : ∀ (v_3 : Int32), v_3 = (if v_2 = 0 then (if (((f k.toNatClampNeg) / 16) &&& 2) ≤ 0 then 0 else 1) else 1) → ∀ ls : Array Slot, lv_has ls 14 [(0, .ref h0), (1, .int k), (2, .int dn), (3, .int al), (4, .int ((f k.toNatClampNeg) / 16)), (5, .int v_1), (6, .int v_2)] → W p l e (headSpec wsX10_copyRange rmX10_copyRange).room s m ([.ref h0, .int k, .int dn, .int al] : List Value).toArray below meth c H locs 0 0 Q (F0 m 72 ls [.int v_3, .int (f (k + 2).toNatClampNeg)]) := by
        intro v_3 ev_3 ls hl
        refine lv_iload_n hx hb dX10_copyRange_72 rfl (lv_at hl 2 rfl) ?_
        refine lv_ldc (v := 1048576) hx hb hown k_39 dX10_copyRange_73 ?_
        have hPc := hP.sub (ws' := []) [] rfl
        have hDc := hD.sub (ws' := []) [] (by decide) rfl
        have hKc := hK.sub (tys' := []) [] rfl
        refine rd_i (va_runS (As := [.int (f (k + 2).toNatClampNeg), .int v_3, .int dn, .int 1048576]) (rest := []) ⟨hx, hb, hml, hown, hts⟩ (kX10_moved l D H.size (f (k + 2).toNatClampNeg) v_3 dn 1048576 ) (va_cwS 4 hts gX10_copyRange_X10_moved rfl rfl rfl (by decide +kernel) ⟨Nat.le_of_ble_eq_true rfl, Nat.le_of_ble_eq_true rfl⟩) ⟨Pw_blind, fun U hU hW => Pw_at hKc hPc hDc hN hU hW⟩ rfl rfl hl.1 rfl (lv_room (Nat.le_of_ble_eq_true rfl)) dX10_copyRange_75 ⟨Nat.le_of_ble_eq_true rfl, Nat.le_of_ble_eq_true rfl⟩) ?_
        refine lv_istore (lv' := [(7, .int (fX10_moved (f (k + 2).toNatClampNeg) v_3 dn 1048576)), (0, .ref h0), (1, .int k), (2, .int dn), (3, .int al), (4, .int ((f k.toNatClampNeg) / 16)), (5, .int v_1), (6, .int v_2)]) hx hb dX10_copyRange_78 hl (by decide) rfl (fun ls hl => ?_)
        refine lv_aload_n hx hb dX10_copyRange_80 rfl (lv_at hl 1 rfl) ?_
        refine va_get (D := D) (ci := 8) (v := .ref h1) (C := RX10) (T := TX10) (N := 11) hx hb hts w_X10 hown hK hP 0 rfl rfl 2 (by decide) f_7 (fun _ h9 => h9) rfl dX10_copyRange_81 ?_
        refine lv_iload_n hx hb dX10_copyRange_84 rfl (lv_at hl 2 rfl) ?_
        refine lv_iconst (v := 4) hx hb dX10_copyRange_85 (by decide) ?_
        refine lv_iadd hx hb dX10_copyRange_86 ?_
        refine va_iald hx hb hK hP 1 0 rfl rfl (in_add (c := 4) (n := 1000) hk (by decide) (by decide) (by decide)) dX10_copyRange_87 ?_
        refine lv_iload hx hb dX10_copyRange_88 (lv_at hl 7 rfl) ?_
        have K106_4 : ∀ (v_4 : Int32), v_4 = (if v_2 = 0 then (if (((f k.toNatClampNeg) / 16) &&& 8) ≤ 0 then 0 else 1) else 1) → ∀ ls : Array Slot, lv_has ls 14 [(0, .ref h0), (1, .int k), (2, .int dn), (3, .int al), (4, .int ((f k.toNatClampNeg) / 16)), (5, .int v_1), (7, .int (fX10_moved (f (k + 2).toNatClampNeg) v_3 dn 1048576))] → W p l e (headSpec wsX10_copyRange rmX10_copyRange).room s m ([.ref h0, .int k, .int dn, .int al] : List Value).toArray below meth c H locs 0 0 Q (F0 m 106 ls [.int v_4, .int (f (k + 4).toNatClampNeg)]) := by
          intro v_4 ev_4 ls hl
          refine lv_iload_n hx hb dX10_copyRange_106 rfl (lv_at hl 2 rfl) ?_
          refine lv_ldc (v := 1048576) hx hb hown k_39 dX10_copyRange_107 ?_
          have hPc := hP.sub (ws' := []) [] rfl
          have hDc := hD.sub (ws' := []) [] (by decide) rfl
          have hKc := hK.sub (tys' := []) [] rfl
          refine rd_i (va_runS (As := [.int (f (k + 4).toNatClampNeg), .int v_4, .int dn, .int 1048576]) (rest := []) ⟨hx, hb, hml, hown, hts⟩ (kX10_moved l D H.size (f (k + 4).toNatClampNeg) v_4 dn 1048576 ) (va_cwS 4 hts gX10_copyRange_X10_moved rfl rfl rfl (by decide +kernel) ⟨Nat.le_of_ble_eq_true rfl, Nat.le_of_ble_eq_true rfl⟩) ⟨Pw_blind, fun U hU hW => Pw_at hKc hPc hDc hN hU hW⟩ rfl rfl hl.1 rfl (lv_room (Nat.le_of_ble_eq_true rfl)) dX10_copyRange_109 ⟨Nat.le_of_ble_eq_true rfl, Nat.le_of_ble_eq_true rfl⟩) ?_
          refine lv_istore (lv' := [(8, .int (fX10_moved (f (k + 4).toNatClampNeg) v_4 dn 1048576)), (0, .ref h0), (1, .int k), (2, .int dn), (3, .int al), (4, .int ((f k.toNatClampNeg) / 16)), (5, .int v_1), (7, .int (fX10_moved (f (k + 2).toNatClampNeg) v_3 dn 1048576))]) hx hb dX10_copyRange_112 hl (by decide) rfl (fun ls hl => ?_)
          refine lv_aload_n hx hb dX10_copyRange_114 rfl (lv_at hl 1 rfl) ?_
          refine va_get (D := D) (ci := 8) (v := .ref h1) (C := RX10) (T := TX10) (N := 11) hx hb hts w_X10 hown hK hP 0 rfl rfl 2 (by decide) f_7 (fun _ h9 => h9) rfl dX10_copyRange_115 ?_
          refine lv_iload_n hx hb dX10_copyRange_118 rfl (lv_at hl 2 rfl) ?_
          refine lv_iconst (v := 3) hx hb dX10_copyRange_119 (by decide) ?_
          refine lv_iadd hx hb dX10_copyRange_120 ?_
          refine va_iald hx hb hK hP 1 0 rfl rfl (in_add (c := 3) (n := 1000) hk (by decide) (by decide) (by decide)) dX10_copyRange_121 ?_
          refine lv_iload hx hb dX10_copyRange_122 (lv_at hl 6 rfl) ?_
          have K139_5 : ∀ (v_5 : Int32), v_5 = (if v_1 = 0 then (if (((f k.toNatClampNeg) / 16) &&& 1) ≤ 0 then 0 else 1) else 1) → ∀ ls : Array Slot, lv_has ls 14 [(0, .ref h0), (1, .int k), (3, .int al), (4, .int ((f k.toNatClampNeg) / 16)), (5, .int v_1), (7, .int (fX10_moved (f (k + 2).toNatClampNeg) v_3 dn 1048576)), (8, .int (fX10_moved (f (k + 4).toNatClampNeg) v_4 dn 1048576))] → W p l e (headSpec wsX10_copyRange rmX10_copyRange).room s m ([.ref h0, .int k, .int dn, .int al] : List Value).toArray below meth c H locs 0 0 Q (F0 m 139 ls [.int v_5, .int (f (k + 3).toNatClampNeg)]) := by
            intro v_5 ev_5 ls hl
            refine lv_iload_n hx hb dX10_copyRange_139 rfl (lv_at hl 2 rfl) ?_
            refine lv_sipush (v := 16384) hx hb dX10_copyRange_140 (by decide) ?_
            have hPc := hP.sub (ws' := []) [] rfl
            have hDc := hD.sub (ws' := []) [] (by decide) rfl
            have hKc := hK.sub (tys' := []) [] rfl
            refine rd_i (va_runS (As := [.int (f (k + 3).toNatClampNeg), .int v_5, .int al, .int 16384]) (rest := []) ⟨hx, hb, hml, hown, hts⟩ (kX10_moved l D H.size (f (k + 3).toNatClampNeg) v_5 al 16384 ) (va_cwS 4 hts gX10_copyRange_X10_moved rfl rfl rfl (by decide +kernel) ⟨Nat.le_of_ble_eq_true rfl, Nat.le_of_ble_eq_true rfl⟩) ⟨Pw_blind, fun U hU hW => Pw_at hKc hPc hDc hN hU hW⟩ rfl rfl hl.1 rfl (lv_room (Nat.le_of_ble_eq_true rfl)) dX10_copyRange_143 ⟨Nat.le_of_ble_eq_true rfl, Nat.le_of_ble_eq_true rfl⟩) ?_
            refine lv_istore (lv' := [(9, .int (fX10_moved (f (k + 3).toNatClampNeg) v_5 al 16384)), (0, .ref h0), (1, .int k), (3, .int al), (4, .int ((f k.toNatClampNeg) / 16)), (5, .int v_1), (7, .int (fX10_moved (f (k + 2).toNatClampNeg) v_3 dn 1048576)), (8, .int (fX10_moved (f (k + 4).toNatClampNeg) v_4 dn 1048576))]) hx hb dX10_copyRange_146 hl (by decide) rfl (fun ls hl => ?_)
            refine lv_aload_n hx hb dX10_copyRange_148 rfl (lv_at hl 1 rfl) ?_
            refine va_get (D := D) (ci := 8) (v := .ref h1) (C := RX10) (T := TX10) (N := 11) hx hb hts w_X10 hown hK hP 0 rfl rfl 2 (by decide) f_7 (fun _ h9 => h9) rfl dX10_copyRange_149 ?_
            refine lv_iload_n hx hb dX10_copyRange_152 rfl (lv_at hl 2 rfl) ?_
            refine lv_iconst (v := 5) hx hb dX10_copyRange_153 (by decide) ?_
            refine lv_iadd hx hb dX10_copyRange_154 ?_
            refine va_iald hx hb hK hP 1 0 rfl rfl (in_add (c := 5) (n := 1000) hk (by decide) (by decide) (by decide)) dX10_copyRange_155 ?_
            refine lv_iload hx hb dX10_copyRange_156 (lv_at hl 5 rfl) ?_
            have K173_6 : ∀ (v_6 : Int32), v_6 = (if v_1 = 0 then (if (((f k.toNatClampNeg) / 16) &&& 4) ≤ 0 then 0 else 1) else 1) → ∀ ls : Array Slot, lv_has ls 14 [(0, .ref h0), (1, .int k), (3, .int al), (4, .int ((f k.toNatClampNeg) / 16)), (7, .int (fX10_moved (f (k + 2).toNatClampNeg) v_3 dn 1048576)), (8, .int (fX10_moved (f (k + 4).toNatClampNeg) v_4 dn 1048576)), (9, .int (fX10_moved (f (k + 3).toNatClampNeg) v_5 al 16384))] → W p l e (headSpec wsX10_copyRange rmX10_copyRange).room s m ([.ref h0, .int k, .int dn, .int al] : List Value).toArray below meth c H locs 0 0 Q (F0 m 173 ls [.int v_6, .int (f (k + 5).toNatClampNeg)]) := by
              intro v_6 ev_6 ls hl
              refine lv_iload_n hx hb dX10_copyRange_173 rfl (lv_at hl 2 rfl) ?_
              refine lv_sipush (v := 16384) hx hb dX10_copyRange_174 (by decide) ?_
              have hPc := hP.sub (ws' := []) [] rfl
              have hDc := hD.sub (ws' := []) [] (by decide) rfl
              have hKc := hK.sub (tys' := []) [] rfl
              refine rd_i (va_runS (As := [.int (f (k + 5).toNatClampNeg), .int v_6, .int al, .int 16384]) (rest := []) ⟨hx, hb, hml, hown, hts⟩ (kX10_moved l D H.size (f (k + 5).toNatClampNeg) v_6 al 16384 ) (va_cwS 4 hts gX10_copyRange_X10_moved rfl rfl rfl (by decide +kernel) ⟨Nat.le_of_ble_eq_true rfl, Nat.le_of_ble_eq_true rfl⟩) ⟨Pw_blind, fun U hU hW => Pw_at hKc hPc hDc hN hU hW⟩ rfl rfl hl.1 rfl (lv_room (Nat.le_of_ble_eq_true rfl)) dX10_copyRange_177 ⟨Nat.le_of_ble_eq_true rfl, Nat.le_of_ble_eq_true rfl⟩) ?_
              refine lv_istore (lv' := [(10, .int (fX10_moved (f (k + 5).toNatClampNeg) v_6 al 16384)), (0, .ref h0), (1, .int k), (3, .int al), (4, .int ((f k.toNatClampNeg) / 16)), (7, .int (fX10_moved (f (k + 2).toNatClampNeg) v_3 dn 1048576)), (8, .int (fX10_moved (f (k + 4).toNatClampNeg) v_4 dn 1048576)), (9, .int (fX10_moved (f (k + 3).toNatClampNeg) v_5 al 16384))]) hx hb dX10_copyRange_180 hl (by decide) rfl (fun ls hl => ?_)
              refine lv_iload hx hb dX10_copyRange_182 (lv_at hl 5 rfl) ?_
              refine lv_if_eq (tgt := 202) hx hb dX10_copyRange_184 (by decide) (fun c184 => ?_) (fun c184 => ?_)
              · refine lv_aload_n hx hb dX10_copyRange_202 rfl (lv_at hl 1 rfl) ?_
                have hPc := hP.sub (ws' := [(h0, .inr (8, [.int cd, .int n, .ref h1, .int md, .ref h2, .int ch, .int sh, .int tp, .int lf, .int bt, .int rt])), (h1, .inl (cA, 1000, .inl f)), (h2, .inl (cB, 1000, .inl g))]) [0, 1, 2] rfl
                have hDc := hD.sub (ws' := [(h0, .inr (8, [.int cd, .int n, .ref h1, .int md, .ref h2, .int ch, .int sh, .int tp, .int lf, .int bt, .int rt])), (h1, .inl (cA, 1000, .inl f)), (h2, .inl (cB, 1000, .inl g))]) [0, 1, 2] (by decide) rfl
                have hKc := hK.sub (tys' := [(cA, .int), (cB, .int)]) [0, 1] rfl
                refine wk_v (β := Unit) (ok := fun _ => True) (wc := [(h0, .inr (8, [.int cd, .int n, .ref h1, .int md, .ref h2, .int ch, .int sh, .int tp, .int lf, .int bt, .int rt])), (h1, .inl (cA, 1000, .inl f)), (h2, .inl (cB, 1000, .inl g))]) (wr := []) (w1 := fun _ => [(h0, .inr (8, [.int cd, .int n, .ref h1, .int (md + 1), .ref h2, .int (ch + 1), .int sh, .int tp, .int lf, .int bt, .int rt])), (h1, .inl (cA, 1000, .inl f)), (h2, .inl (cB, 1000, .inl (upd g md.toNatClampNeg 67)))]) (ws2 := fun _ => [(h0, .inr (8, [.int cd, .int n, .ref h1, .int (md + 1), .ref h2, .int (ch + 1), .int sh, .int tp, .int lf, .int bt, .int rt])), (h1, .inl (cA, 1000, .inl f)), (h2, .inl (cB, 1000, .inl (upd g md.toNatClampNeg 67)))]) (va_runV (As := []) (rest := []) ⟨hx, hb, hml, hown, hts⟩ (kX10_lose l D H.size h0 h1 h2 cA cB cd n md ch sh tp lf bt rt f g (in_w hm (by decide))) (cwV 0 hts gX10_copyRange_X10_lose rfl rfl rfl (by decide +kernel) ⟨Nat.le_of_ble_eq_true rfl, Nat.le_of_ble_eq_true rfl⟩) ⟨Pw_blind, (va_recv hKc hPc (ci := 8) (q0 := 0) rfl rfl), fun U hU hW => Pw_at hKc hPc hDc hN hU hW⟩ rfl rfl hl.1 rfl (lv_room (Nat.le_of_ble_eq_true rfl)) dX10_copyRange_203 ⟨Nat.le_of_ble_eq_true rfl, Nat.le_of_ble_eq_true rfl⟩) hP hD hS hA [0, 1, 2] [] [0, 1, 2] rfl rfl (by decide) (by decide) (fun _ => rfl) (by decide) (fun _ _ H locs hP hD hS => ?_)
                have hP : va_P D vwCl [(h0, .inr (8, [.int cd, .int n, .ref h1, .int (md + 1), .ref h2, .int (ch + 1), .int sh, .int tp, .int lf, .int bt, .int rt])), (h1, .inl (cA, 1000, .inl f)), (h2, .inl (cB, 1000, .inl (upd g md.toNatClampNeg 67)))] H := hP
                have hD : va_D A [(h0, .inr (8, [.int cd, .int n, .ref h1, .int (md + 1), .ref h2, .int (ch + 1), .int sh, .int tp, .int lf, .int bt, .int rt])), (h1, .inl (cA, 1000, .inl f)), (h2, .inl (cB, 1000, .inl (upd g md.toNatClampNeg 67)))] := hD
                have hF : (fX10_copyRange md ch f g k dn al) = ((md + 1), (ch + 1), (upd g md.toNatClampNeg 67)) := by subst ev_6; subst ev_5; subst ev_4; subst ev_3; subst ev_2; subst ev_1; exact (if_pos c184)
                subst hAe
                subst hQe
                exact W.vret hx hb hr (fun t ht hW => ⟨⟨_, rfl, ⟨(), trivial, by rw [hF]⟩, by rw [ht]; exact hP, hD⟩, hS.F ht⟩) hS.2.2 dX10_copyRange_206
              · refine lv_iload hx hb dX10_copyRange_187 (lv_at hl 6 rfl) ?_
                refine lv_if_eq (tgt := 202) hx hb dX10_copyRange_189 (by decide) (fun c189 => ?_) (fun c189 => ?_)
                · refine lv_aload_n hx hb dX10_copyRange_202 rfl (lv_at hl 1 rfl) ?_
                  have hPc := hP.sub (ws' := [(h0, .inr (8, [.int cd, .int n, .ref h1, .int md, .ref h2, .int ch, .int sh, .int tp, .int lf, .int bt, .int rt])), (h1, .inl (cA, 1000, .inl f)), (h2, .inl (cB, 1000, .inl g))]) [0, 1, 2] rfl
                  have hDc := hD.sub (ws' := [(h0, .inr (8, [.int cd, .int n, .ref h1, .int md, .ref h2, .int ch, .int sh, .int tp, .int lf, .int bt, .int rt])), (h1, .inl (cA, 1000, .inl f)), (h2, .inl (cB, 1000, .inl g))]) [0, 1, 2] (by decide) rfl
                  have hKc := hK.sub (tys' := [(cA, .int), (cB, .int)]) [0, 1] rfl
                  refine wk_v (β := Unit) (ok := fun _ => True) (wc := [(h0, .inr (8, [.int cd, .int n, .ref h1, .int md, .ref h2, .int ch, .int sh, .int tp, .int lf, .int bt, .int rt])), (h1, .inl (cA, 1000, .inl f)), (h2, .inl (cB, 1000, .inl g))]) (wr := []) (w1 := fun _ => [(h0, .inr (8, [.int cd, .int n, .ref h1, .int (md + 1), .ref h2, .int (ch + 1), .int sh, .int tp, .int lf, .int bt, .int rt])), (h1, .inl (cA, 1000, .inl f)), (h2, .inl (cB, 1000, .inl (upd g md.toNatClampNeg 67)))]) (ws2 := fun _ => [(h0, .inr (8, [.int cd, .int n, .ref h1, .int (md + 1), .ref h2, .int (ch + 1), .int sh, .int tp, .int lf, .int bt, .int rt])), (h1, .inl (cA, 1000, .inl f)), (h2, .inl (cB, 1000, .inl (upd g md.toNatClampNeg 67)))]) (va_runV (As := []) (rest := []) ⟨hx, hb, hml, hown, hts⟩ (kX10_lose l D H.size h0 h1 h2 cA cB cd n md ch sh tp lf bt rt f g (in_w hm (by decide))) (cwV 0 hts gX10_copyRange_X10_lose rfl rfl rfl (by decide +kernel) ⟨Nat.le_of_ble_eq_true rfl, Nat.le_of_ble_eq_true rfl⟩) ⟨Pw_blind, (va_recv hKc hPc (ci := 8) (q0 := 0) rfl rfl), fun U hU hW => Pw_at hKc hPc hDc hN hU hW⟩ rfl rfl hl.1 rfl (lv_room (Nat.le_of_ble_eq_true rfl)) dX10_copyRange_203 ⟨Nat.le_of_ble_eq_true rfl, Nat.le_of_ble_eq_true rfl⟩) hP hD hS hA [0, 1, 2] [] [0, 1, 2] rfl rfl (by decide) (by decide) (fun _ => rfl) (by decide) (fun _ _ H locs hP hD hS => ?_)
                  have hP : va_P D vwCl [(h0, .inr (8, [.int cd, .int n, .ref h1, .int (md + 1), .ref h2, .int (ch + 1), .int sh, .int tp, .int lf, .int bt, .int rt])), (h1, .inl (cA, 1000, .inl f)), (h2, .inl (cB, 1000, .inl (upd g md.toNatClampNeg 67)))] H := hP
                  have hD : va_D A [(h0, .inr (8, [.int cd, .int n, .ref h1, .int (md + 1), .ref h2, .int (ch + 1), .int sh, .int tp, .int lf, .int bt, .int rt])), (h1, .inl (cA, 1000, .inl f)), (h2, .inl (cB, 1000, .inl (upd g md.toNatClampNeg 67)))] := hD
                  have hF : (fX10_copyRange md ch f g k dn al) = ((md + 1), (ch + 1), (upd g md.toNatClampNeg 67)) := by subst ev_6; subst ev_5; subst ev_4; subst ev_3; subst ev_2; subst ev_1; exact ((if_neg c184).trans (if_pos c189))
                  subst hAe
                  subst hQe
                  exact W.vret hx hb hr (fun t ht hW => ⟨⟨_, rfl, ⟨(), trivial, by rw [hF]⟩, by rw [ht]; exact hP, hD⟩, hS.F ht⟩) hS.2.2 dX10_copyRange_206
                · refine lv_iload hx hb dX10_copyRange_192 (lv_at hl 7 rfl) ?_
                  refine lv_if_eq (tgt := 202) hx hb dX10_copyRange_194 (by decide) (fun c194 => ?_) (fun c194 => ?_)
                  · refine lv_aload_n hx hb dX10_copyRange_202 rfl (lv_at hl 1 rfl) ?_
                    have hPc := hP.sub (ws' := [(h0, .inr (8, [.int cd, .int n, .ref h1, .int md, .ref h2, .int ch, .int sh, .int tp, .int lf, .int bt, .int rt])), (h1, .inl (cA, 1000, .inl f)), (h2, .inl (cB, 1000, .inl g))]) [0, 1, 2] rfl
                    have hDc := hD.sub (ws' := [(h0, .inr (8, [.int cd, .int n, .ref h1, .int md, .ref h2, .int ch, .int sh, .int tp, .int lf, .int bt, .int rt])), (h1, .inl (cA, 1000, .inl f)), (h2, .inl (cB, 1000, .inl g))]) [0, 1, 2] (by decide) rfl
                    have hKc := hK.sub (tys' := [(cA, .int), (cB, .int)]) [0, 1] rfl
                    refine wk_v (β := Unit) (ok := fun _ => True) (wc := [(h0, .inr (8, [.int cd, .int n, .ref h1, .int md, .ref h2, .int ch, .int sh, .int tp, .int lf, .int bt, .int rt])), (h1, .inl (cA, 1000, .inl f)), (h2, .inl (cB, 1000, .inl g))]) (wr := []) (w1 := fun _ => [(h0, .inr (8, [.int cd, .int n, .ref h1, .int (md + 1), .ref h2, .int (ch + 1), .int sh, .int tp, .int lf, .int bt, .int rt])), (h1, .inl (cA, 1000, .inl f)), (h2, .inl (cB, 1000, .inl (upd g md.toNatClampNeg 67)))]) (ws2 := fun _ => [(h0, .inr (8, [.int cd, .int n, .ref h1, .int (md + 1), .ref h2, .int (ch + 1), .int sh, .int tp, .int lf, .int bt, .int rt])), (h1, .inl (cA, 1000, .inl f)), (h2, .inl (cB, 1000, .inl (upd g md.toNatClampNeg 67)))]) (va_runV (As := []) (rest := []) ⟨hx, hb, hml, hown, hts⟩ (kX10_lose l D H.size h0 h1 h2 cA cB cd n md ch sh tp lf bt rt f g (in_w hm (by decide))) (cwV 0 hts gX10_copyRange_X10_lose rfl rfl rfl (by decide +kernel) ⟨Nat.le_of_ble_eq_true rfl, Nat.le_of_ble_eq_true rfl⟩) ⟨Pw_blind, (va_recv hKc hPc (ci := 8) (q0 := 0) rfl rfl), fun U hU hW => Pw_at hKc hPc hDc hN hU hW⟩ rfl rfl hl.1 rfl (lv_room (Nat.le_of_ble_eq_true rfl)) dX10_copyRange_203 ⟨Nat.le_of_ble_eq_true rfl, Nat.le_of_ble_eq_true rfl⟩) hP hD hS hA [0, 1, 2] [] [0, 1, 2] rfl rfl (by decide) (by decide) (fun _ => rfl) (by decide) (fun _ _ H locs hP hD hS => ?_)
                    have hP : va_P D vwCl [(h0, .inr (8, [.int cd, .int n, .ref h1, .int (md + 1), .ref h2, .int (ch + 1), .int sh, .int tp, .int lf, .int bt, .int rt])), (h1, .inl (cA, 1000, .inl f)), (h2, .inl (cB, 1000, .inl (upd g md.toNatClampNeg 67)))] H := hP
                    have hD : va_D A [(h0, .inr (8, [.int cd, .int n, .ref h1, .int (md + 1), .ref h2, .int (ch + 1), .int sh, .int tp, .int lf, .int bt, .int rt])), (h1, .inl (cA, 1000, .inl f)), (h2, .inl (cB, 1000, .inl (upd g md.toNatClampNeg 67)))] := hD
                    have hF : (fX10_copyRange md ch f g k dn al) = ((md + 1), (ch + 1), (upd g md.toNatClampNeg 67)) := by subst ev_6; subst ev_5; subst ev_4; subst ev_3; subst ev_2; subst ev_1; exact ((if_neg c184).trans ((if_neg c189).trans (if_pos c194)))
                    subst hAe
                    subst hQe
                    exact W.vret hx hb hr (fun t ht hW => ⟨⟨_, rfl, ⟨(), trivial, by rw [hF]⟩, by rw [ht]; exact hP, hD⟩, hS.F ht⟩) hS.2.2 dX10_copyRange_206
                  · refine lv_iload hx hb dX10_copyRange_197 (lv_at hl 0 rfl) ?_
                    refine lv_if_ne (tgt := 207) hx hb dX10_copyRange_199 (by decide) (fun c199 => ?_) (fun c199 => ?_)
                    · refine lv_iload hx hb dX10_copyRange_207 (lv_at hl 4 rfl) ?_
                      refine lv_bipush (v := 48) hx hb dX10_copyRange_209 (by decide) ?_
                      refine lv_iand hx hb dX10_copyRange_211 ?_
                      refine lv_istore (lv' := [(11, .int (((f k.toNatClampNeg) / 16) &&& 48)), (10, .int (fX10_moved (f (k + 5).toNatClampNeg) v_6 al 16384)), (0, .ref h0), (1, .int k), (3, .int al), (4, .int ((f k.toNatClampNeg) / 16)), (7, .int (fX10_moved (f (k + 2).toNatClampNeg) v_3 dn 1048576)), (8, .int (fX10_moved (f (k + 4).toNatClampNeg) v_4 dn 1048576)), (9, .int (fX10_moved (f (k + 3).toNatClampNeg) v_5 al 16384))]) hx hb dX10_copyRange_212 hl (by decide) rfl (fun ls hl => ?_)
                      refine lv_iload hx hb dX10_copyRange_214 (lv_at hl 5 rfl) ?_
                      refine lv_iconst (v := 5) hx hb dX10_copyRange_216 (by decide) ?_
                      refine lv_iand hx hb dX10_copyRange_217 ?_
                      refine lv_istore (lv' := [(12, .int (((f k.toNatClampNeg) / 16) &&& 5)), (11, .int (((f k.toNatClampNeg) / 16) &&& 48)), (10, .int (fX10_moved (f (k + 5).toNatClampNeg) v_6 al 16384)), (0, .ref h0), (1, .int k), (3, .int al), (4, .int ((f k.toNatClampNeg) / 16)), (7, .int (fX10_moved (f (k + 2).toNatClampNeg) v_3 dn 1048576)), (8, .int (fX10_moved (f (k + 4).toNatClampNeg) v_4 dn 1048576)), (9, .int (fX10_moved (f (k + 3).toNatClampNeg) v_5 al 16384))]) hx hb dX10_copyRange_218 hl (by decide) rfl (fun ls hl => ?_)
                      refine lv_iload hx hb dX10_copyRange_220 (lv_at hl 6 rfl) ?_
                      refine lv_bipush (v := 10) hx hb dX10_copyRange_222 (by decide) ?_
                      refine lv_iand hx hb dX10_copyRange_224 ?_
                      refine lv_istore (lv' := [(13, .int (((f k.toNatClampNeg) / 16) &&& 10)), (12, .int (((f k.toNatClampNeg) / 16) &&& 5)), (11, .int (((f k.toNatClampNeg) / 16) &&& 48)), (10, .int (fX10_moved (f (k + 5).toNatClampNeg) v_6 al 16384)), (0, .ref h0), (1, .int k), (3, .int al), (4, .int ((f k.toNatClampNeg) / 16)), (7, .int (fX10_moved (f (k + 2).toNatClampNeg) v_3 dn 1048576)), (8, .int (fX10_moved (f (k + 4).toNatClampNeg) v_4 dn 1048576)), (9, .int (fX10_moved (f (k + 3).toNatClampNeg) v_5 al 16384))]) hx hb dX10_copyRange_225 hl (by decide) rfl (fun ls hl => ?_)
                      refine lv_iload hx hb dX10_copyRange_227 (lv_at hl 3 rfl) ?_
                      refine lv_iload hx hb dX10_copyRange_229 (lv_at hl 10 rfl) ?_
                      have K249_7 : ∀ (v_7 : Int32), v_7 = (if (fX10_moved (f (k + 3).toNatClampNeg) v_5 al 16384) ≤ (fX10_moved (f (k + 5).toNatClampNeg) v_6 al 16384) then (((f k.toNatClampNeg) / 16) &&& 5) else (((((f k.toNatClampNeg) / 16) &&& 1) * 4) + ((((f k.toNatClampNeg) / 16) &&& 4) / 4))) → ∀ ls : Array Slot, lv_has ls 14 [(0, .ref h0), (1, .int k), (4, .int ((f k.toNatClampNeg) / 16)), (7, .int (fX10_moved (f (k + 2).toNatClampNeg) v_3 dn 1048576)), (8, .int (fX10_moved (f (k + 4).toNatClampNeg) v_4 dn 1048576)), (9, .int (fX10_moved (f (k + 3).toNatClampNeg) v_5 al 16384)), (10, .int (fX10_moved (f (k + 5).toNatClampNeg) v_6 al 16384)), (11, .int (((f k.toNatClampNeg) / 16) &&& 48)), (12, .int v_7), (13, .int (((f k.toNatClampNeg) / 16) &&& 10))] → W p l e (headSpec wsX10_copyRange rmX10_copyRange).room s m ([.ref h0, .int k, .int dn, .int al] : List Value).toArray below meth c H locs 0 0 Q (F0 m 249 ls []) := by
                        intro v_7 ev_7 ls hl
                        refine lv_iload hx hb dX10_copyRange_249 (lv_at hl 4 rfl) ?_
                        refine lv_iload hx hb dX10_copyRange_251 (lv_at hl 3 rfl) ?_
                        have K272_8 : ∀ (v_8 : Int32), v_8 = (if (fX10_moved (f (k + 2).toNatClampNeg) v_3 dn 1048576) ≤ (fX10_moved (f (k + 4).toNatClampNeg) v_4 dn 1048576) then (((f k.toNatClampNeg) / 16) &&& 10) else (((((f k.toNatClampNeg) / 16) &&& 2) * 4) + ((((f k.toNatClampNeg) / 16) &&& 8) / 4))) → ∀ ls : Array Slot, lv_has ls 14 [(0, .ref h0), (1, .int k), (7, .int (fX10_moved (f (k + 2).toNatClampNeg) v_3 dn 1048576)), (8, .int (fX10_moved (f (k + 4).toNatClampNeg) v_4 dn 1048576)), (9, .int (fX10_moved (f (k + 3).toNatClampNeg) v_5 al 16384)), (10, .int (fX10_moved (f (k + 5).toNatClampNeg) v_6 al 16384)), (11, .int (((f k.toNatClampNeg) / 16) &&& 48)), (12, .int v_7), (13, .int v_8)] → W p l e (headSpec wsX10_copyRange rmX10_copyRange).room s m ([.ref h0, .int k, .int dn, .int al] : List Value).toArray below meth c H locs 0 0 Q (F0 m 272 ls []) := by
                          intro v_8 ev_8 ls hl
                          refine lv_aload_n hx hb dX10_copyRange_272 rfl (lv_at hl 0 rfl) ?_
                          refine lv_iload_n hx hb dX10_copyRange_273 rfl (lv_at hl 1 rfl) ?_
                          refine lv_iload hx hb dX10_copyRange_274 (lv_at hl 6 rfl) ?_
                          refine lv_iload hx hb dX10_copyRange_276 (lv_at hl 7 rfl) ?_
                          refine lv_iadd hx hb dX10_copyRange_278 ?_
                          refine lv_iload hx hb dX10_copyRange_279 (lv_at hl 8 rfl) ?_
                          refine lv_iadd hx hb dX10_copyRange_281 ?_
                          refine lv_aload_n hx hb dX10_copyRange_282 rfl (lv_at hl 0 rfl) ?_
                          refine va_get (D := D) (ci := 8) (v := .ref h1) (C := RX10) (T := TX10) (N := 11) hx hb hts w_X10 hown hK hP 0 rfl rfl 2 (by decide) f_7 (fun _ h9 => h9) rfl dX10_copyRange_283 ?_
                          refine lv_iload_n hx hb dX10_copyRange_286 rfl (lv_at hl 1 rfl) ?_
                          refine lv_iconst (v := 1) hx hb dX10_copyRange_287 (by decide) ?_
                          refine lv_iadd hx hb dX10_copyRange_288 ?_
                          refine va_iald hx hb hK hP 1 0 rfl rfl (in_add (c := 1) (n := 1000) hk (by decide) (by decide) (by decide)) dX10_copyRange_289 ?_
                          refine lv_iload hx hb dX10_copyRange_290 (lv_at hl 3 rfl) ?_
                          refine lv_iload hx hb dX10_copyRange_292 (lv_at hl 2 rfl) ?_
                          have K304_9 : ∀ (v_9 : Int32), v_9 = (if (fX10_moved (f (k + 2).toNatClampNeg) v_3 dn 1048576) ≤ (fX10_moved (f (k + 4).toNatClampNeg) v_4 dn 1048576) then (fX10_moved (f (k + 2).toNatClampNeg) v_3 dn 1048576) else (fX10_moved (f (k + 4).toNatClampNeg) v_4 dn 1048576)) → ∀ ls : Array Slot, lv_has ls 14 [(7, .int (fX10_moved (f (k + 2).toNatClampNeg) v_3 dn 1048576)), (8, .int (fX10_moved (f (k + 4).toNatClampNeg) v_4 dn 1048576)), (9, .int (fX10_moved (f (k + 3).toNatClampNeg) v_5 al 16384)), (10, .int (fX10_moved (f (k + 5).toNatClampNeg) v_6 al 16384))] → W p l e (headSpec wsX10_copyRange rmX10_copyRange).room s m ([.ref h0, .int k, .int dn, .int al] : List Value).toArray below meth c H locs 0 0 Q (F0 m 304 ls [.int v_9, .int (f (k + 1).toNatClampNeg), .int (((((f k.toNatClampNeg) / 16) &&& 48) + v_7) + v_8), .int k, .ref h0]) := by
                            intro v_9 ev_9 ls hl
                            refine lv_iload hx hb dX10_copyRange_304 (lv_at hl 3 rfl) ?_
                            refine lv_iload hx hb dX10_copyRange_306 (lv_at hl 2 rfl) ?_
                            have K318_10 : ∀ (v_10 : Int32), v_10 = (if (fX10_moved (f (k + 3).toNatClampNeg) v_5 al 16384) ≤ (fX10_moved (f (k + 5).toNatClampNeg) v_6 al 16384) then (fX10_moved (f (k + 3).toNatClampNeg) v_5 al 16384) else (fX10_moved (f (k + 5).toNatClampNeg) v_6 al 16384)) → ∀ ls : Array Slot, lv_has ls 14 [(7, .int (fX10_moved (f (k + 2).toNatClampNeg) v_3 dn 1048576)), (8, .int (fX10_moved (f (k + 4).toNatClampNeg) v_4 dn 1048576)), (9, .int (fX10_moved (f (k + 3).toNatClampNeg) v_5 al 16384)), (10, .int (fX10_moved (f (k + 5).toNatClampNeg) v_6 al 16384))] → W p l e (headSpec wsX10_copyRange rmX10_copyRange).room s m ([.ref h0, .int k, .int dn, .int al] : List Value).toArray below meth c H locs 0 0 Q (F0 m 318 ls [.int v_10, .int v_9, .int (f (k + 1).toNatClampNeg), .int (((((f k.toNatClampNeg) / 16) &&& 48) + v_7) + v_8), .int k, .ref h0]) := by
                              intro v_10 ev_10 ls hl
                              refine lv_iload hx hb dX10_copyRange_318 (lv_at hl 1 rfl) ?_
                              refine lv_iload hx hb dX10_copyRange_320 (lv_at hl 0 rfl) ?_
                              have K332_11 : ∀ (v_11 : Int32), v_11 = (if (fX10_moved (f (k + 2).toNatClampNeg) v_3 dn 1048576) ≤ (fX10_moved (f (k + 4).toNatClampNeg) v_4 dn 1048576) then (fX10_moved (f (k + 4).toNatClampNeg) v_4 dn 1048576) else (fX10_moved (f (k + 2).toNatClampNeg) v_3 dn 1048576)) → ∀ ls : Array Slot, lv_has ls 14 [(9, .int (fX10_moved (f (k + 3).toNatClampNeg) v_5 al 16384)), (10, .int (fX10_moved (f (k + 5).toNatClampNeg) v_6 al 16384))] → W p l e (headSpec wsX10_copyRange rmX10_copyRange).room s m ([.ref h0, .int k, .int dn, .int al] : List Value).toArray below meth c H locs 0 0 Q (F0 m 332 ls [.int v_11, .int v_10, .int v_9, .int (f (k + 1).toNatClampNeg), .int (((((f k.toNatClampNeg) / 16) &&& 48) + v_7) + v_8), .int k, .ref h0]) := by
                                intro v_11 ev_11 ls hl
                                refine lv_iload hx hb dX10_copyRange_332 (lv_at hl 1 rfl) ?_
                                refine lv_iload hx hb dX10_copyRange_334 (lv_at hl 0 rfl) ?_
                                have K346_12 : ∀ (v_12 : Int32), v_12 = (if (fX10_moved (f (k + 3).toNatClampNeg) v_5 al 16384) ≤ (fX10_moved (f (k + 5).toNatClampNeg) v_6 al 16384) then (fX10_moved (f (k + 5).toNatClampNeg) v_6 al 16384) else (fX10_moved (f (k + 3).toNatClampNeg) v_5 al 16384)) → ∀ ls : Array Slot, lv_has ls 14 [] → W p l e (headSpec wsX10_copyRange rmX10_copyRange).room s m ([.ref h0, .int k, .int dn, .int al] : List Value).toArray below meth c H locs 0 0 Q (F0 m 346 ls [.int v_12, .int v_11, .int v_10, .int v_9, .int (f (k + 1).toNatClampNeg), .int (((((f k.toNatClampNeg) / 16) &&& 48) + v_7) + v_8), .int k, .ref h0]) := by
                                  intro v_12 ev_12 ls hl
                                  have hPc := hP.sub (ws' := [(h0, .inr (8, [.int cd, .int n, .ref h1, .int md, .ref h2, .int ch, .int sh, .int tp, .int lf, .int bt, .int rt])), (h1, .inl (cA, 1000, .inl f)), (h2, .inl (cB, 1000, .inl g))]) [0, 1, 2] rfl
                                  have hDc := hD.sub (ws' := [(h0, .inr (8, [.int cd, .int n, .ref h1, .int md, .ref h2, .int ch, .int sh, .int tp, .int lf, .int bt, .int rt])), (h1, .inl (cA, 1000, .inl f)), (h2, .inl (cB, 1000, .inl g))]) [0, 1, 2] (by decide) rfl
                                  have hKc := hK.sub (tys' := [(cA, .int), (cB, .int)]) [0, 1] rfl
                                  refine wk_v (β := Unit) (ok := fun _ => True) (wc := [(h0, .inr (8, [.int cd, .int n, .ref h1, .int md, .ref h2, .int ch, .int sh, .int tp, .int lf, .int bt, .int rt])), (h1, .inl (cA, 1000, .inl f)), (h2, .inl (cB, 1000, .inl g))]) (wr := []) (w1 := fun _ => [(h0, .inr (8, [.int cd, .int n, .ref h1, .int (fX10_makeRange md ch f g k (((((f k.toNatClampNeg) / 16) &&& 48) + v_7) + v_8) (f (k + 1).toNatClampNeg) v_9 v_10 v_11 v_12).1, .ref h2, .int (fX10_makeRange md ch f g k (((((f k.toNatClampNeg) / 16) &&& 48) + v_7) + v_8) (f (k + 1).toNatClampNeg) v_9 v_10 v_11 v_12).2.1, .int sh, .int tp, .int lf, .int bt, .int rt])), (h1, .inl (cA, 1000, .inl f)), (h2, .inl (cB, 1000, .inl (fX10_makeRange md ch f g k (((((f k.toNatClampNeg) / 16) &&& 48) + v_7) + v_8) (f (k + 1).toNatClampNeg) v_9 v_10 v_11 v_12).2.2))]) (ws2 := fun _ => [(h0, .inr (8, [.int cd, .int n, .ref h1, .int (fX10_makeRange md ch f g k (((((f k.toNatClampNeg) / 16) &&& 48) + v_7) + v_8) (f (k + 1).toNatClampNeg) v_9 v_10 v_11 v_12).1, .ref h2, .int (fX10_makeRange md ch f g k (((((f k.toNatClampNeg) / 16) &&& 48) + v_7) + v_8) (f (k + 1).toNatClampNeg) v_9 v_10 v_11 v_12).2.1, .int sh, .int tp, .int lf, .int bt, .int rt])), (h1, .inl (cA, 1000, .inl f)), (h2, .inl (cB, 1000, .inl (fX10_makeRange md ch f g k (((((f k.toNatClampNeg) / 16) &&& 48) + v_7) + v_8) (f (k + 1).toNatClampNeg) v_9 v_10 v_11 v_12).2.2))]) (va_runV (As := [.int k, .int (((((f k.toNatClampNeg) / 16) &&& 48) + v_7) + v_8), .int (f (k + 1).toNatClampNeg), .int v_9, .int v_10, .int v_11, .int v_12]) (rest := []) ⟨hx, hb, hml, hown, hts⟩ (kX10_makeRange l D H.size h0 h1 h2 cA cB cd n md ch sh tp lf bt rt f g k (((((f k.toNatClampNeg) / 16) &&& 48) + v_7) + v_8) (f (k + 1).toNatClampNeg) v_9 v_10 v_11 v_12 hk hm) (cwV 7 hts gX10_copyRange_X10_makeRange rfl rfl rfl (by decide +kernel) ⟨Nat.le_of_ble_eq_true rfl, Nat.le_of_ble_eq_true rfl⟩) ⟨Pw_blind, (va_recv hKc hPc (ci := 8) (q0 := 0) rfl rfl), fun U hU hW => Pw_at hKc hPc hDc hN hU hW⟩ rfl rfl hl.1 rfl (lv_room (Nat.le_of_ble_eq_true rfl)) dX10_copyRange_346 ⟨Nat.le_of_ble_eq_true rfl, Nat.le_of_ble_eq_true rfl⟩) hP hD hS hA [0, 1, 2] [] [0, 1, 2] rfl rfl (by decide) (by decide) (fun _ => rfl) (by decide) (fun _ _ H locs hP hD hS => ?_)
                                  have hP : va_P D vwCl [(h0, .inr (8, [.int cd, .int n, .ref h1, .int (fX10_makeRange md ch f g k (((((f k.toNatClampNeg) / 16) &&& 48) + v_7) + v_8) (f (k + 1).toNatClampNeg) v_9 v_10 v_11 v_12).1, .ref h2, .int (fX10_makeRange md ch f g k (((((f k.toNatClampNeg) / 16) &&& 48) + v_7) + v_8) (f (k + 1).toNatClampNeg) v_9 v_10 v_11 v_12).2.1, .int sh, .int tp, .int lf, .int bt, .int rt])), (h1, .inl (cA, 1000, .inl f)), (h2, .inl (cB, 1000, .inl (fX10_makeRange md ch f g k (((((f k.toNatClampNeg) / 16) &&& 48) + v_7) + v_8) (f (k + 1).toNatClampNeg) v_9 v_10 v_11 v_12).2.2))] H := hP
                                  have hD : va_D A [(h0, .inr (8, [.int cd, .int n, .ref h1, .int (fX10_makeRange md ch f g k (((((f k.toNatClampNeg) / 16) &&& 48) + v_7) + v_8) (f (k + 1).toNatClampNeg) v_9 v_10 v_11 v_12).1, .ref h2, .int (fX10_makeRange md ch f g k (((((f k.toNatClampNeg) / 16) &&& 48) + v_7) + v_8) (f (k + 1).toNatClampNeg) v_9 v_10 v_11 v_12).2.1, .int sh, .int tp, .int lf, .int bt, .int rt])), (h1, .inl (cA, 1000, .inl f)), (h2, .inl (cB, 1000, .inl (fX10_makeRange md ch f g k (((((f k.toNatClampNeg) / 16) &&& 48) + v_7) + v_8) (f (k + 1).toNatClampNeg) v_9 v_10 v_11 v_12).2.2))] := hD
                                  have hF : (fX10_copyRange md ch f g k dn al) = ((fX10_makeRange md ch f g k (((((f k.toNatClampNeg) / 16) &&& 48) + v_7) + v_8) (f (k + 1).toNatClampNeg) v_9 v_10 v_11 v_12).1, (fX10_makeRange md ch f g k (((((f k.toNatClampNeg) / 16) &&& 48) + v_7) + v_8) (f (k + 1).toNatClampNeg) v_9 v_10 v_11 v_12).2.1, (fX10_makeRange md ch f g k (((((f k.toNatClampNeg) / 16) &&& 48) + v_7) + v_8) (f (k + 1).toNatClampNeg) v_9 v_10 v_11 v_12).2.2) := by subst ev_12; subst ev_11; subst ev_10; subst ev_9; subst ev_8; subst ev_7; subst ev_6; subst ev_5; subst ev_4; subst ev_3; subst ev_2; subst ev_1; exact ((if_neg c184).trans ((if_neg c189).trans ((if_neg c194).trans (if_neg c199))))
                                  subst hAe
                                  subst hQe
                                  exact W.vret hx hb hr (fun t ht hW => ⟨⟨_, rfl, ⟨(), trivial, by rw [hF]⟩, by rw [ht]; exact hP, hD⟩, hS.F ht⟩) hS.2.2 dX10_copyRange_349
                                refine lv_icmp_ge (tgt := 344) hx hb dX10_copyRange_336 (by decide) (fun c336 => ?_) (fun c336 => ?_)
                                · refine lv_iload hx hb dX10_copyRange_344 (lv_at hl 1 rfl) ?_
                                  exact K346_12 _ (if_pos c336).symm ls (lv_sub hl [] rfl)
                                · refine lv_iload hx hb dX10_copyRange_339 (lv_at hl 0 rfl) ?_
                                  refine lv_goto (tgt := 346) hx hb dX10_copyRange_341 (by decide) ?_
                                  exact K346_12 _ (if_neg c336).symm ls (lv_sub hl [] rfl)
                              refine lv_icmp_ge (tgt := 330) hx hb dX10_copyRange_322 (by decide) (fun c322 => ?_) (fun c322 => ?_)
                              · refine lv_iload hx hb dX10_copyRange_330 (lv_at hl 1 rfl) ?_
                                exact K332_11 _ (if_pos c322).symm ls (lv_sub hl [2, 3] rfl)
                              · refine lv_iload hx hb dX10_copyRange_325 (lv_at hl 0 rfl) ?_
                                refine lv_goto (tgt := 332) hx hb dX10_copyRange_327 (by decide) ?_
                                exact K332_11 _ (if_neg c322).symm ls (lv_sub hl [2, 3] rfl)
                            refine lv_icmp_ge (tgt := 316) hx hb dX10_copyRange_308 (by decide) (fun c308 => ?_) (fun c308 => ?_)
                            · refine lv_iload hx hb dX10_copyRange_316 (lv_at hl 2 rfl) ?_
                              exact K318_10 _ (if_pos c308).symm ls (lv_sub hl [0, 1, 2, 3] rfl)
                            · refine lv_iload hx hb dX10_copyRange_311 (lv_at hl 3 rfl) ?_
                              refine lv_goto (tgt := 318) hx hb dX10_copyRange_313 (by decide) ?_
                              exact K318_10 _ (if_neg c308).symm ls (lv_sub hl [0, 1, 2, 3] rfl)
                          refine lv_icmp_ge (tgt := 302) hx hb dX10_copyRange_294 (by decide) (fun c294 => ?_) (fun c294 => ?_)
                          · refine lv_iload hx hb dX10_copyRange_302 (lv_at hl 2 rfl) ?_
                            exact K304_9 _ (if_pos c294).symm ls (lv_sub hl [2, 3, 4, 5] rfl)
                          · refine lv_iload hx hb dX10_copyRange_297 (lv_at hl 3 rfl) ?_
                            refine lv_goto (tgt := 304) hx hb dX10_copyRange_299 (by decide) ?_
                            exact K304_9 _ (if_neg c294).symm ls (lv_sub hl [2, 3, 4, 5] rfl)
                        refine lv_icmp_ge (tgt := 272) hx hb dX10_copyRange_253 (by decide) (fun c253 => ?_) (fun c253 => ?_)
                        · exact K272_8 _ (if_pos c253).symm ls (lv_sub hl [0, 1, 3, 4, 5, 6, 7, 8, 9] rfl)
                        · refine lv_iload hx hb dX10_copyRange_256 (lv_at hl 2 rfl) ?_
                          refine lv_iconst (v := 2) hx hb dX10_copyRange_258 (by decide) ?_
                          refine lv_iand hx hb dX10_copyRange_259 ?_
                          refine lv_iconst (v := 4) hx hb dX10_copyRange_260 (by decide) ?_
                          refine lv_imul hx hb dX10_copyRange_261 ?_
                          refine lv_iload hx hb dX10_copyRange_262 (lv_at hl 2 rfl) ?_
                          refine lv_bipush (v := 8) hx hb dX10_copyRange_264 (by decide) ?_
                          refine lv_iand hx hb dX10_copyRange_266 ?_
                          refine lv_iconst (v := 4) hx hb dX10_copyRange_267 (by decide) ?_
                          refine lv_idiv hx hb dX10_copyRange_268 (by decide) ?_
                          refine lv_iadd hx hb dX10_copyRange_269 ?_
                          refine lv_istore (lv' := [(13, .int (((((f k.toNatClampNeg) / 16) &&& 2) * 4) + ((((f k.toNatClampNeg) / 16) &&& 8) / 4))), (0, .ref h0), (1, .int k), (4, .int ((f k.toNatClampNeg) / 16)), (7, .int (fX10_moved (f (k + 2).toNatClampNeg) v_3 dn 1048576)), (8, .int (fX10_moved (f (k + 4).toNatClampNeg) v_4 dn 1048576)), (9, .int (fX10_moved (f (k + 3).toNatClampNeg) v_5 al 16384)), (10, .int (fX10_moved (f (k + 5).toNatClampNeg) v_6 al 16384)), (11, .int (((f k.toNatClampNeg) / 16) &&& 48)), (12, .int v_7)]) hx hb dX10_copyRange_270 hl (by decide) rfl (fun ls hl => ?_)
                          exact K272_8 _ (if_neg c253).symm ls (lv_sub hl [1, 2, 4, 5, 6, 7, 8, 9, 0] rfl)
                      refine lv_icmp_ge (tgt := 249) hx hb dX10_copyRange_231 (by decide) (fun c231 => ?_) (fun c231 => ?_)
                      · exact K249_7 _ (if_pos c231).symm ls (lv_sub hl [4, 5, 7, 8, 9, 10, 3, 2, 1, 0] rfl)
                      · refine lv_iload hx hb dX10_copyRange_234 (lv_at hl 7 rfl) ?_
                        refine lv_iconst (v := 1) hx hb dX10_copyRange_236 (by decide) ?_
                        refine lv_iand hx hb dX10_copyRange_237 ?_
                        refine lv_iconst (v := 4) hx hb dX10_copyRange_238 (by decide) ?_
                        refine lv_imul hx hb dX10_copyRange_239 ?_
                        refine lv_iload hx hb dX10_copyRange_240 (lv_at hl 7 rfl) ?_
                        refine lv_iconst (v := 4) hx hb dX10_copyRange_242 (by decide) ?_
                        refine lv_iand hx hb dX10_copyRange_243 ?_
                        refine lv_iconst (v := 4) hx hb dX10_copyRange_244 (by decide) ?_
                        refine lv_idiv hx hb dX10_copyRange_245 (by decide) ?_
                        refine lv_iadd hx hb dX10_copyRange_246 ?_
                        refine lv_istore (lv' := [(12, .int (((((f k.toNatClampNeg) / 16) &&& 1) * 4) + ((((f k.toNatClampNeg) / 16) &&& 4) / 4))), (13, .int (((f k.toNatClampNeg) / 16) &&& 10)), (11, .int (((f k.toNatClampNeg) / 16) &&& 48)), (10, .int (fX10_moved (f (k + 5).toNatClampNeg) v_6 al 16384)), (0, .ref h0), (1, .int k), (3, .int al), (4, .int ((f k.toNatClampNeg) / 16)), (7, .int (fX10_moved (f (k + 2).toNatClampNeg) v_3 dn 1048576)), (8, .int (fX10_moved (f (k + 4).toNatClampNeg) v_4 dn 1048576)), (9, .int (fX10_moved (f (k + 3).toNatClampNeg) v_5 al 16384))]) hx hb dX10_copyRange_247 hl (by decide) rfl (fun ls hl => ?_)
                        exact K249_7 _ (if_neg c231).symm ls (lv_sub hl [4, 5, 7, 8, 9, 10, 3, 2, 0, 1] rfl)
                    · refine lv_aload_n hx hb dX10_copyRange_202 rfl (lv_at hl 1 rfl) ?_
                      have hPc := hP.sub (ws' := [(h0, .inr (8, [.int cd, .int n, .ref h1, .int md, .ref h2, .int ch, .int sh, .int tp, .int lf, .int bt, .int rt])), (h1, .inl (cA, 1000, .inl f)), (h2, .inl (cB, 1000, .inl g))]) [0, 1, 2] rfl
                      have hDc := hD.sub (ws' := [(h0, .inr (8, [.int cd, .int n, .ref h1, .int md, .ref h2, .int ch, .int sh, .int tp, .int lf, .int bt, .int rt])), (h1, .inl (cA, 1000, .inl f)), (h2, .inl (cB, 1000, .inl g))]) [0, 1, 2] (by decide) rfl
                      have hKc := hK.sub (tys' := [(cA, .int), (cB, .int)]) [0, 1] rfl
                      refine wk_v (β := Unit) (ok := fun _ => True) (wc := [(h0, .inr (8, [.int cd, .int n, .ref h1, .int md, .ref h2, .int ch, .int sh, .int tp, .int lf, .int bt, .int rt])), (h1, .inl (cA, 1000, .inl f)), (h2, .inl (cB, 1000, .inl g))]) (wr := []) (w1 := fun _ => [(h0, .inr (8, [.int cd, .int n, .ref h1, .int (md + 1), .ref h2, .int (ch + 1), .int sh, .int tp, .int lf, .int bt, .int rt])), (h1, .inl (cA, 1000, .inl f)), (h2, .inl (cB, 1000, .inl (upd g md.toNatClampNeg 67)))]) (ws2 := fun _ => [(h0, .inr (8, [.int cd, .int n, .ref h1, .int (md + 1), .ref h2, .int (ch + 1), .int sh, .int tp, .int lf, .int bt, .int rt])), (h1, .inl (cA, 1000, .inl f)), (h2, .inl (cB, 1000, .inl (upd g md.toNatClampNeg 67)))]) (va_runV (As := []) (rest := []) ⟨hx, hb, hml, hown, hts⟩ (kX10_lose l D H.size h0 h1 h2 cA cB cd n md ch sh tp lf bt rt f g (in_w hm (by decide))) (cwV 0 hts gX10_copyRange_X10_lose rfl rfl rfl (by decide +kernel) ⟨Nat.le_of_ble_eq_true rfl, Nat.le_of_ble_eq_true rfl⟩) ⟨Pw_blind, (va_recv hKc hPc (ci := 8) (q0 := 0) rfl rfl), fun U hU hW => Pw_at hKc hPc hDc hN hU hW⟩ rfl rfl hl.1 rfl (lv_room (Nat.le_of_ble_eq_true rfl)) dX10_copyRange_203 ⟨Nat.le_of_ble_eq_true rfl, Nat.le_of_ble_eq_true rfl⟩) hP hD hS hA [0, 1, 2] [] [0, 1, 2] rfl rfl (by decide) (by decide) (fun _ => rfl) (by decide) (fun _ _ H locs hP hD hS => ?_)
                      have hP : va_P D vwCl [(h0, .inr (8, [.int cd, .int n, .ref h1, .int (md + 1), .ref h2, .int (ch + 1), .int sh, .int tp, .int lf, .int bt, .int rt])), (h1, .inl (cA, 1000, .inl f)), (h2, .inl (cB, 1000, .inl (upd g md.toNatClampNeg 67)))] H := hP
                      have hD : va_D A [(h0, .inr (8, [.int cd, .int n, .ref h1, .int (md + 1), .ref h2, .int (ch + 1), .int sh, .int tp, .int lf, .int bt, .int rt])), (h1, .inl (cA, 1000, .inl f)), (h2, .inl (cB, 1000, .inl (upd g md.toNatClampNeg 67)))] := hD
                      have hF : (fX10_copyRange md ch f g k dn al) = ((md + 1), (ch + 1), (upd g md.toNatClampNeg 67)) := by subst ev_6; subst ev_5; subst ev_4; subst ev_3; subst ev_2; subst ev_1; exact ((if_neg c184).trans ((if_neg c189).trans ((if_neg c194).trans (if_pos c199))))
                      subst hAe
                      subst hQe
                      exact W.vret hx hb hr (fun t ht hW => ⟨⟨_, rfl, ⟨(), trivial, by rw [hF]⟩, by rw [ht]; exact hP, hD⟩, hS.F ht⟩) hS.2.2 dX10_copyRange_206
            refine lv_if_ne (tgt := 168) hx hb dX10_copyRange_158 (by decide) (fun c158 => ?_) (fun c158 => ?_)
            · refine lv_iconst (v := 1) hx hb dX10_copyRange_168 (by decide) ?_
              refine lv_goto (tgt := 173) hx hb dX10_copyRange_169 (by decide) ?_
              exact K173_6 _ (if_neg c158).symm ls (lv_sub hl [1, 2, 3, 4, 6, 7, 0] rfl)
            · refine lv_iload hx hb dX10_copyRange_161 (lv_at hl 4 rfl) ?_
              refine lv_iconst (v := 4) hx hb dX10_copyRange_163 (by decide) ?_
              refine lv_iand hx hb dX10_copyRange_164 ?_
              refine lv_if_le (tgt := 172) hx hb dX10_copyRange_165 (by decide) (fun c165 => ?_) (fun c165 => ?_)
              · refine lv_iconst (v := 0) hx hb dX10_copyRange_172 (by decide) ?_
                exact K173_6 _ ((if_pos c158).trans (if_pos c165)).symm ls (lv_sub hl [1, 2, 3, 4, 6, 7, 0] rfl)
              · refine lv_iconst (v := 1) hx hb dX10_copyRange_168 (by decide) ?_
                refine lv_goto (tgt := 173) hx hb dX10_copyRange_169 (by decide) ?_
                exact K173_6 _ ((if_pos c158).trans (if_neg c165)).symm ls (lv_sub hl [1, 2, 3, 4, 6, 7, 0] rfl)
          refine lv_if_ne (tgt := 134) hx hb dX10_copyRange_124 (by decide) (fun c124 => ?_) (fun c124 => ?_)
          · refine lv_iconst (v := 1) hx hb dX10_copyRange_134 (by decide) ?_
            refine lv_goto (tgt := 139) hx hb dX10_copyRange_135 (by decide) ?_
            exact K139_5 _ (if_neg c124).symm ls (lv_sub hl [1, 2, 4, 5, 6, 7, 0] rfl)
          · refine lv_iload hx hb dX10_copyRange_127 (lv_at hl 5 rfl) ?_
            refine lv_iconst (v := 1) hx hb dX10_copyRange_129 (by decide) ?_
            refine lv_iand hx hb dX10_copyRange_130 ?_
            refine lv_if_le (tgt := 138) hx hb dX10_copyRange_131 (by decide) (fun c131 => ?_) (fun c131 => ?_)
            · refine lv_iconst (v := 0) hx hb dX10_copyRange_138 (by decide) ?_
              exact K139_5 _ ((if_pos c124).trans (if_pos c131)).symm ls (lv_sub hl [1, 2, 4, 5, 6, 7, 0] rfl)
            · refine lv_iconst (v := 1) hx hb dX10_copyRange_134 (by decide) ?_
              refine lv_goto (tgt := 139) hx hb dX10_copyRange_135 (by decide) ?_
              exact K139_5 _ ((if_pos c124).trans (if_neg c131)).symm ls (lv_sub hl [1, 2, 4, 5, 6, 7, 0] rfl)
        refine lv_if_ne (tgt := 101) hx hb dX10_copyRange_90 (by decide) (fun c90 => ?_) (fun c90 => ?_)
        · refine lv_iconst (v := 1) hx hb dX10_copyRange_101 (by decide) ?_
          refine lv_goto (tgt := 106) hx hb dX10_copyRange_102 (by decide) ?_
          exact K106_4 _ (if_neg c90).symm ls (lv_sub hl [1, 2, 3, 4, 5, 6, 0] rfl)
        · refine lv_iload hx hb dX10_copyRange_93 (lv_at hl 5 rfl) ?_
          refine lv_bipush (v := 8) hx hb dX10_copyRange_95 (by decide) ?_
          refine lv_iand hx hb dX10_copyRange_97 ?_
          refine lv_if_le (tgt := 105) hx hb dX10_copyRange_98 (by decide) (fun c98 => ?_) (fun c98 => ?_)
          · refine lv_iconst (v := 0) hx hb dX10_copyRange_105 (by decide) ?_
            exact K106_4 _ ((if_pos c90).trans (if_pos c98)).symm ls (lv_sub hl [1, 2, 3, 4, 5, 6, 0] rfl)
          · refine lv_iconst (v := 1) hx hb dX10_copyRange_101 (by decide) ?_
            refine lv_goto (tgt := 106) hx hb dX10_copyRange_102 (by decide) ?_
            exact K106_4 _ ((if_pos c90).trans (if_neg c98)).symm ls (lv_sub hl [1, 2, 3, 4, 5, 6, 0] rfl)
      refine lv_if_ne (tgt := 67) hx hb dX10_copyRange_57 (by decide) (fun c57 => ?_) (fun c57 => ?_)
      · refine lv_iconst (v := 1) hx hb dX10_copyRange_67 (by decide) ?_
        refine lv_goto (tgt := 72) hx hb dX10_copyRange_68 (by decide) ?_
        exact K72_3 _ (if_neg c57).symm ls (lv_sub hl [1, 2, 3, 4, 5, 6, 0] rfl)
      · refine lv_iload hx hb dX10_copyRange_60 (lv_at hl 5 rfl) ?_
        refine lv_iconst (v := 2) hx hb dX10_copyRange_62 (by decide) ?_
        refine lv_iand hx hb dX10_copyRange_63 ?_
        refine lv_if_le (tgt := 71) hx hb dX10_copyRange_64 (by decide) (fun c64 => ?_) (fun c64 => ?_)
        · refine lv_iconst (v := 0) hx hb dX10_copyRange_71 (by decide) ?_
          exact K72_3 _ ((if_pos c57).trans (if_pos c64)).symm ls (lv_sub hl [1, 2, 3, 4, 5, 6, 0] rfl)
        · refine lv_iconst (v := 1) hx hb dX10_copyRange_67 (by decide) ?_
          refine lv_goto (tgt := 72) hx hb dX10_copyRange_68 (by decide) ?_
          exact K72_3 _ ((if_pos c57).trans (if_neg c64)).symm ls (lv_sub hl [1, 2, 3, 4, 5, 6, 0] rfl)
    refine lv_icmp_ne (tgt := 44) hx hb dX10_copyRange_37 (by decide) (fun c37 => ?_) (fun c37 => ?_)
    · refine lv_iconst (v := 0) hx hb dX10_copyRange_44 (by decide) ?_
      exact K45_2 _ (if_neg c37).symm ls (lv_sub hl [1, 2, 3, 4, 5, 0] rfl)
    · refine lv_iconst (v := 1) hx hb dX10_copyRange_40 (by decide) ?_
      refine lv_goto (tgt := 45) hx hb dX10_copyRange_41 (by decide) ?_
      exact K45_2 _ (if_pos c37).symm ls (lv_sub hl [1, 2, 3, 4, 5, 0] rfl)
  refine lv_icmp_ne (tgt := 26) hx hb dX10_copyRange_19 (by decide) (fun c19 => ?_) (fun c19 => ?_)
  · refine lv_iconst (v := 0) hx hb dX10_copyRange_26 (by decide) ?_
    exact K27_1 _ (if_neg c19).symm ls (lv_sub hl [1, 2, 3, 4, 0] rfl)
  · refine lv_iconst (v := 1) hx hb dX10_copyRange_22 (by decide) ?_
    refine lv_goto (tgt := 27) hx hb dX10_copyRange_23 (by decide) ?_
    exact K27_1 _ (if_pos c19).symm ls (lv_sub hl [1, 2, 3, 4, 0] rfl)

def fX10_shiftRange (md : Int32) (ch : Int32) (f : Nat → Int32) (g : Nat → Int32) (k : Int32) (z : Int32) (at_ : Int32) (nn : Int32) : Int32 × Int32 × (Nat → Int32) := let v_1 : Int32 := (if z = 0 then (f (k + 2).toNatClampNeg) else (f (k + 3).toNatClampNeg)); let v_2 : Int32 := (if z = 0 then (f (k + 4).toNatClampNeg) else (f (k + 5).toNatClampNeg)); let v_3 : Int32 := (if v_1 = 1 then (if v_2 = (fX10_lines z) then 1 else 0) else 0); let v_4 : Int32 := (if v_3 = 0 then (fX10_firstLeft v_1 v_2 z at_ nn) else v_1); let v_5 : Int32 := (if v_3 = 0 then (fX10_lastLeft v_1 v_2 z at_ nn) else v_2); if v_4 = 0 then (((md + 1), (ch + 1), (upd g md.toNatClampNeg 67))) else (if v_5 = 0 then (((md + 1), (ch + 1), (upd g md.toNatClampNeg 67))) else (if z = 0 then (((fX10_makeRange md ch f g k ((f k.toNatClampNeg) / 16) (f (k + 1).toNatClampNeg) v_4 (f (k + 3).toNatClampNeg) v_5 (f (k + 5).toNatClampNeg)).1, (fX10_makeRange md ch f g k ((f k.toNatClampNeg) / 16) (f (k + 1).toNatClampNeg) v_4 (f (k + 3).toNatClampNeg) v_5 (f (k + 5).toNatClampNeg)).2.1, (fX10_makeRange md ch f g k ((f k.toNatClampNeg) / 16) (f (k + 1).toNatClampNeg) v_4 (f (k + 3).toNatClampNeg) v_5 (f (k + 5).toNatClampNeg)).2.2)) else (((fX10_makeRange md ch f g k ((f k.toNatClampNeg) / 16) (f (k + 1).toNatClampNeg) (f (k + 2).toNatClampNeg) v_4 (f (k + 4).toNatClampNeg) v_5).1, (fX10_makeRange md ch f g k ((f k.toNatClampNeg) / 16) (f (k + 1).toNatClampNeg) (f (k + 2).toNatClampNeg) v_4 (f (k + 4).toNatClampNeg) v_5).2.1, (fX10_makeRange md ch f g k ((f k.toNatClampNeg) / 16) (f (k + 1).toNatClampNeg) (f (k + 2).toNatClampNeg) v_4 (f (k + 4).toNatClampNeg) v_5).2.2))))
abbrev rmX10_shiftRange : Room := { frames := 3, cells := 0, slots := 0, locals := 68 }
abbrev qX10_shiftRange (D : va_G) (sz : Nat) (h0 : Nat) (h1 : Nat) (h2 : Nat) (cA : ClassId) (cB : ClassId) (cd : Int32) (n : Int32) (md : Int32) (ch : Int32) (sh : Int32) (tp : Int32) (lf : Int32) (bt : Int32) (rt : Int32) (f : Nat → Int32) (g : Nat → Int32) (k : Int32) (z : Int32) (at_ : Int32) (nn : Int32) : Array Value → State → Outcome → State → Prop := va_Qv (fun w_9 => ∃ _u : Unit, True ∧ w_9 = [(h0, .inr (8, [.int cd, .int n, .ref h1, .int (fX10_shiftRange md ch f g k z at_ nn).1, .ref h2, .int (fX10_shiftRange md ch f g k z at_ nn).2.1, .int sh, .int tp, .int lf, .int bt, .int rt])), (h1, .inl (cA, 1000, .inl f)), (h2, .inl (cB, 1000, .inl (fX10_shiftRange md ch f g k z at_ nn).2.2))]) (Bq D (va_A [(h0, .inr (8, [.int cd, .int n, .ref h1, .int md, .ref h2, .int ch, .int sh, .int tp, .int lf, .int bt, .int rt])), (h1, .inl (cA, 1000, .inl f)), (h2, .inl (cB, 1000, .inl g))] sz)) (va_A [(h0, .inr (8, [.int cd, .int n, .ref h1, .int md, .ref h2, .int ch, .int sh, .int tp, .int lf, .int bt, .int rt])), (h1, .inl (cA, 1000, .inl f)), (h2, .inl (cB, 1000, .inl g))] sz)
set_option maxHeartbeats 4000000 in
set_option maxRecDepth 100000 in
theorem kX10_shiftRange (l : Launch) (D : va_G) (sz : Nat) (h0 : Nat) (h1 : Nat) (h2 : Nat) (cA : ClassId) (cB : ClassId) (cd : Int32) (n : Int32) (md : Int32) (ch : Int32) (sh : Int32) (tp : Int32) (lf : Int32) (bt : Int32) (rt : Int32) (f : Nat → Int32) (g : Nat → Int32) (k : Int32) (z : Int32) (at_ : Int32) (nn : Int32) (hk : vp_in k 995) (hm : vp_in md 995) : Met l yX10_shiftRange wsX10_shiftRange rmX10_shiftRange (va_Pc [.ref h0, .int k, .int z, .int at_, .int nn] (Pw D [(cA, .int), (cB, .int)] [(h0, .inr (8, [.int cd, .int n, .ref h1, .int md, .ref h2, .int ch, .int sh, .int tp, .int lf, .int bt, .int rt])), (h1, .inl (cA, 1000, .inl f)), (h2, .inl (cB, 1000, .inl g))] sz)) (qX10_shiftRange D sz h0 h1 h2 cA cB cd n md ch sh tp lf bt rt f g k z at_ nn) 0 0 (va_A [(h0, .inr (8, [.int cd, .int n, .ref h1, .int md, .ref h2, .int ch, .int sh, .int tp, .int lf, .int bt, .int rt])), (h1, .inl (cA, 1000, .inl f)), (h2, .inl (cB, 1000, .inl g))] sz) := by
  refine Met.ofW (cc := cX10_shiftRange) (maxL := 10) (ret := none) (by decide) rfl ?_
  intro p e s m args below meth c s₁ B hml hv
  obtain ⟨rfl, hsz, hP, hK, hD0, hN⟩ := hv
  have hx := B.exec
  have hb := B.bytes
  have hr := B.returns
  have hts := atoms_spec (ws := wsX10_shiftRange) B.pre
  have hown : s.vm.findClass RX10 = some m.cls := findClass_of_methodNamed B.named
  have hlocks := B.notSynchronized
  subst hsz
  obtain ⟨Q, hQe⟩ : ∃ Q, Q = MQ below (qX10_shiftRange D s.heap.size h0 h1 h2 cA cB cd n md ch sh tp lf bt rt f g k z at_ nn) ([.ref h0, .int k, .int z, .int at_, .int nn] : List Value).toArray s 0 0 (va_A [(h0, .inr (8, [.int cd, .int n, .ref h1, .int md, .ref h2, .int ch, .int sh, .int tp, .int lf, .int bt, .int rt])), (h1, .inl (cA, 1000, .inl f)), (h2, .inl (cB, 1000, .inl g))] s.heap.size) := ⟨_, rfl⟩
  rw [← hQe]
  obtain ⟨A, hAe⟩ : ∃ A, A = va_A [(h0, .inr (8, [.int cd, .int n, .ref h1, .int md, .ref h2, .int ch, .int sh, .int tp, .int lf, .int bt, .int rt])), (h1, .inl (cA, 1000, .inl f)), (h2, .inl (cB, 1000, .inl g))] s.heap.size := ⟨_, rfl⟩
  have hD : va_D A [(h0, .inr (8, [.int cd, .int n, .ref h1, .int md, .ref h2, .int ch, .int sh, .int tp, .int lf, .int bt, .int rt])), (h1, .inl (cA, 1000, .inl f)), (h2, .inl (cB, 1000, .inl g))] := by rw [hAe]; exact hD0.self
  have hA : ∀ q : Nat, s.heap.size ≤ q → A q := by rw [hAe]; exact mo_A
  have hS : va_S A s.heap s.heap [] := va_S.rf
  obtain ⟨H, hHe⟩ : ∃ H, H = s.heap := ⟨_, rfl⟩
  obtain ⟨locs, hLe⟩ : ∃ L : List Loc, L = [] := ⟨_, rfl⟩
  have hP : va_P D vwCl [(h0, .inr (8, [.int cd, .int n, .ref h1, .int md, .ref h2, .int ch, .int sh, .int tp, .int lf, .int bt, .int rt])), (h1, .inl (cA, 1000, .inl f)), (h2, .inl (cB, 1000, .inl g))] H := by rw [hHe]; exact hP
  have hS : va_S A s.heap H locs := by rw [hHe, hLe]; exact hS
  have hl := lv_entry ([.ref h0, .int k, .int z, .int at_, .int nn]) (n := 10) (Nat.le_of_ble_eq_true rfl)
  rw [lg_entry_eq]
  generalize (lg_sl ([.ref h0, .int k, .int z, .int at_, .int nn]) ++ List.replicate (10 - (lg_sl ([.ref h0, .int k, .int z, .int at_, .int nn])).length) Slot.unset).toArray = ls at hl ⊢
  have hl : lv_has ls 10 [(0, .ref h0), (1, .int k), (2, .int z), (3, .int at_), (4, .int nn)] := hl
  refine hStart hHe hLe ?_
  clear hHe hLe
  have w_X10 : ∀ w ∈ wsX100, w ∈ wsX10_shiftRange := by decide +kernel
  have f_7 := hts (.fieldLink RX10 7 "ReferenceMoverModel" "words" "[I") (by decide +kernel)
  refine lv_iload_n hx hb dX10_shiftRange_0 rfl (lv_at hl 2 rfl) ?_
  have K23_1 : ∀ (v_1 : Int32), v_1 = (if z = 0 then (f (k + 2).toNatClampNeg) else (f (k + 3).toNatClampNeg)) → ∀ ls : Array Slot, lv_has ls 10 [(0, .ref h0), (1, .int k), (2, .int z), (3, .int at_), (4, .int nn)] → W p l e (headSpec wsX10_shiftRange rmX10_shiftRange).room s m ([.ref h0, .int k, .int z, .int at_, .int nn] : List Value).toArray below meth c H locs 0 0 Q (F0 m 23 ls [.int v_1]) := by
    intro v_1 ev_1 ls hl
    refine lv_istore (lv' := [(5, .int v_1), (0, .ref h0), (1, .int k), (2, .int z), (3, .int at_), (4, .int nn)]) hx hb dX10_shiftRange_23 hl (by decide) rfl (fun ls hl => ?_)
    refine lv_iload_n hx hb dX10_shiftRange_25 rfl (lv_at hl 3 rfl) ?_
    have K48_2 : ∀ (v_2 : Int32), v_2 = (if z = 0 then (f (k + 4).toNatClampNeg) else (f (k + 5).toNatClampNeg)) → ∀ ls : Array Slot, lv_has ls 10 [(0, .ref h0), (1, .int k), (2, .int z), (3, .int at_), (4, .int nn), (5, .int v_1)] → W p l e (headSpec wsX10_shiftRange rmX10_shiftRange).room s m ([.ref h0, .int k, .int z, .int at_, .int nn] : List Value).toArray below meth c H locs 0 0 Q (F0 m 48 ls [.int v_2]) := by
      intro v_2 ev_2 ls hl
      refine lv_istore (lv' := [(6, .int v_2), (0, .ref h0), (1, .int k), (2, .int z), (3, .int at_), (4, .int nn), (5, .int v_1)]) hx hb dX10_shiftRange_48 hl (by decide) rfl (fun ls hl => ?_)
      refine lv_iload hx hb dX10_shiftRange_50 (lv_at hl 6 rfl) ?_
      refine lv_iconst (v := 1) hx hb dX10_shiftRange_52 (by decide) ?_
      have K70_3 : ∀ (v_3 : Int32), v_3 = (if v_1 = 1 then (if v_2 = (fX10_lines z) then 1 else 0) else 0) → ∀ ls : Array Slot, lv_has ls 10 [(0, .ref h0), (1, .int k), (2, .int z), (3, .int at_), (4, .int nn), (5, .int v_1), (6, .int v_2)] → W p l e (headSpec wsX10_shiftRange rmX10_shiftRange).room s m ([.ref h0, .int k, .int z, .int at_, .int nn] : List Value).toArray below meth c H locs 0 0 Q (F0 m 70 ls [.int v_3]) := by
        intro v_3 ev_3 ls hl
        refine lv_istore (lv' := [(7, .int v_3), (0, .ref h0), (1, .int k), (2, .int z), (3, .int at_), (4, .int nn), (5, .int v_1), (6, .int v_2)]) hx hb dX10_shiftRange_70 hl (by decide) rfl (fun ls hl => ?_)
        refine lv_iload hx hb dX10_shiftRange_72 (lv_at hl 0 rfl) ?_
        have K93_4 : ∀ (v_4 : Int32), v_4 = (if v_3 = 0 then (fX10_firstLeft v_1 v_2 z at_ nn) else v_1) → ∀ ls : Array Slot, lv_has ls 10 [(0, .ref h0), (1, .int k), (2, .int z), (3, .int at_), (4, .int nn), (5, .int v_1), (6, .int v_2), (7, .int v_3)] → W p l e (headSpec wsX10_shiftRange rmX10_shiftRange).room s m ([.ref h0, .int k, .int z, .int at_, .int nn] : List Value).toArray below meth c H locs 0 0 Q (F0 m 93 ls [.int v_4]) := by
          intro v_4 ev_4 ls hl
          refine lv_istore (lv' := [(8, .int v_4), (0, .ref h0), (1, .int k), (2, .int z), (3, .int at_), (4, .int nn), (5, .int v_1), (6, .int v_2), (7, .int v_3)]) hx hb dX10_shiftRange_93 hl (by decide) rfl (fun ls hl => ?_)
          refine lv_iload hx hb dX10_shiftRange_95 (lv_at hl 8 rfl) ?_
          have K116_5 : ∀ (v_5 : Int32), v_5 = (if v_3 = 0 then (fX10_lastLeft v_1 v_2 z at_ nn) else v_2) → ∀ ls : Array Slot, lv_has ls 10 [(0, .ref h0), (1, .int k), (2, .int z), (8, .int v_4)] → W p l e (headSpec wsX10_shiftRange rmX10_shiftRange).room s m ([.ref h0, .int k, .int z, .int at_, .int nn] : List Value).toArray below meth c H locs 0 0 Q (F0 m 116 ls [.int v_5]) := by
            intro v_5 ev_5 ls hl
            refine lv_istore (lv' := [(9, .int v_5), (0, .ref h0), (1, .int k), (2, .int z), (8, .int v_4)]) hx hb dX10_shiftRange_116 hl (by decide) rfl (fun ls hl => ?_)
            refine lv_iload hx hb dX10_shiftRange_118 (lv_at hl 4 rfl) ?_
            refine lv_if_eq (tgt := 128) hx hb dX10_shiftRange_120 (by decide) (fun c120 => ?_) (fun c120 => ?_)
            · refine lv_aload_n hx hb dX10_shiftRange_128 rfl (lv_at hl 1 rfl) ?_
              have hPc := hP.sub (ws' := [(h0, .inr (8, [.int cd, .int n, .ref h1, .int md, .ref h2, .int ch, .int sh, .int tp, .int lf, .int bt, .int rt])), (h1, .inl (cA, 1000, .inl f)), (h2, .inl (cB, 1000, .inl g))]) [0, 1, 2] rfl
              have hDc := hD.sub (ws' := [(h0, .inr (8, [.int cd, .int n, .ref h1, .int md, .ref h2, .int ch, .int sh, .int tp, .int lf, .int bt, .int rt])), (h1, .inl (cA, 1000, .inl f)), (h2, .inl (cB, 1000, .inl g))]) [0, 1, 2] (by decide) rfl
              have hKc := hK.sub (tys' := [(cA, .int), (cB, .int)]) [0, 1] rfl
              refine wk_v (β := Unit) (ok := fun _ => True) (wc := [(h0, .inr (8, [.int cd, .int n, .ref h1, .int md, .ref h2, .int ch, .int sh, .int tp, .int lf, .int bt, .int rt])), (h1, .inl (cA, 1000, .inl f)), (h2, .inl (cB, 1000, .inl g))]) (wr := []) (w1 := fun _ => [(h0, .inr (8, [.int cd, .int n, .ref h1, .int (md + 1), .ref h2, .int (ch + 1), .int sh, .int tp, .int lf, .int bt, .int rt])), (h1, .inl (cA, 1000, .inl f)), (h2, .inl (cB, 1000, .inl (upd g md.toNatClampNeg 67)))]) (ws2 := fun _ => [(h0, .inr (8, [.int cd, .int n, .ref h1, .int (md + 1), .ref h2, .int (ch + 1), .int sh, .int tp, .int lf, .int bt, .int rt])), (h1, .inl (cA, 1000, .inl f)), (h2, .inl (cB, 1000, .inl (upd g md.toNatClampNeg 67)))]) (va_runV (As := []) (rest := []) ⟨hx, hb, hml, hown, hts⟩ (kX10_lose l D H.size h0 h1 h2 cA cB cd n md ch sh tp lf bt rt f g (in_w hm (by decide))) (cwV 0 hts gX10_shiftRange_X10_lose rfl rfl rfl (by decide +kernel) ⟨Nat.le_of_ble_eq_true rfl, Nat.le_of_ble_eq_true rfl⟩) ⟨Pw_blind, (va_recv hKc hPc (ci := 8) (q0 := 0) rfl rfl), fun U hU hW => Pw_at hKc hPc hDc hN hU hW⟩ rfl rfl hl.1 rfl (lv_room (Nat.le_of_ble_eq_true rfl)) dX10_shiftRange_129 ⟨Nat.le_of_ble_eq_true rfl, Nat.le_of_ble_eq_true rfl⟩) hP hD hS hA [0, 1, 2] [] [0, 1, 2] rfl rfl (by decide) (by decide) (fun _ => rfl) (by decide) (fun _ _ H locs hP hD hS => ?_)
              have hP : va_P D vwCl [(h0, .inr (8, [.int cd, .int n, .ref h1, .int (md + 1), .ref h2, .int (ch + 1), .int sh, .int tp, .int lf, .int bt, .int rt])), (h1, .inl (cA, 1000, .inl f)), (h2, .inl (cB, 1000, .inl (upd g md.toNatClampNeg 67)))] H := hP
              have hD : va_D A [(h0, .inr (8, [.int cd, .int n, .ref h1, .int (md + 1), .ref h2, .int (ch + 1), .int sh, .int tp, .int lf, .int bt, .int rt])), (h1, .inl (cA, 1000, .inl f)), (h2, .inl (cB, 1000, .inl (upd g md.toNatClampNeg 67)))] := hD
              refine lv_goto (tgt := 226) hx hb dX10_shiftRange_132 (by decide) ?_
              have hF : (fX10_shiftRange md ch f g k z at_ nn) = ((md + 1), (ch + 1), (upd g md.toNatClampNeg 67)) := by subst ev_5; subst ev_4; subst ev_3; subst ev_2; subst ev_1; exact (if_pos c120)
              subst hAe
              subst hQe
              exact W.vret hx hb hr (fun t ht hW => ⟨⟨_, rfl, ⟨(), trivial, by rw [hF]⟩, by rw [ht]; exact hP, hD⟩, hS.F ht⟩) hS.2.2 dX10_shiftRange_226
            · refine lv_iload hx hb dX10_shiftRange_123 (lv_at hl 0 rfl) ?_
              refine lv_if_ne (tgt := 135) hx hb dX10_shiftRange_125 (by decide) (fun c125 => ?_) (fun c125 => ?_)
              · refine lv_iload_n hx hb dX10_shiftRange_135 rfl (lv_at hl 3 rfl) ?_
                refine lv_if_eq (tgt := 184) hx hb dX10_shiftRange_136 (by decide) (fun c136 => ?_) (fun c136 => ?_)
                · refine lv_aload_n hx hb dX10_shiftRange_184 rfl (lv_at hl 1 rfl) ?_
                  refine lv_iload_n hx hb dX10_shiftRange_185 rfl (lv_at hl 2 rfl) ?_
                  refine lv_aload_n hx hb dX10_shiftRange_186 rfl (lv_at hl 1 rfl) ?_
                  refine va_get (D := D) (ci := 8) (v := .ref h1) (C := RX10) (T := TX10) (N := 11) hx hb hts w_X10 hown hK hP 0 rfl rfl 2 (by decide) f_7 (fun _ h9 => h9) rfl dX10_shiftRange_187 ?_
                  refine lv_iload_n hx hb dX10_shiftRange_190 rfl (lv_at hl 2 rfl) ?_
                  refine va_iald hx hb hK hP 1 0 rfl rfl (in_w hk (by decide)) dX10_shiftRange_191 ?_
                  refine lv_bipush (v := 16) hx hb dX10_shiftRange_192 (by decide) ?_
                  refine lv_idiv hx hb dX10_shiftRange_194 (by decide) ?_
                  refine lv_aload_n hx hb dX10_shiftRange_195 rfl (lv_at hl 1 rfl) ?_
                  refine va_get (D := D) (ci := 8) (v := .ref h1) (C := RX10) (T := TX10) (N := 11) hx hb hts w_X10 hown hK hP 0 rfl rfl 2 (by decide) f_7 (fun _ h9 => h9) rfl dX10_shiftRange_196 ?_
                  refine lv_iload_n hx hb dX10_shiftRange_199 rfl (lv_at hl 2 rfl) ?_
                  refine lv_iconst (v := 1) hx hb dX10_shiftRange_200 (by decide) ?_
                  refine lv_iadd hx hb dX10_shiftRange_201 ?_
                  refine va_iald hx hb hK hP 1 0 rfl rfl (in_add (c := 1) (n := 1000) hk (by decide) (by decide) (by decide)) dX10_shiftRange_202 ?_
                  refine lv_iload hx hb dX10_shiftRange_203 (lv_at hl 4 rfl) ?_
                  refine lv_aload_n hx hb dX10_shiftRange_205 rfl (lv_at hl 1 rfl) ?_
                  refine va_get (D := D) (ci := 8) (v := .ref h1) (C := RX10) (T := TX10) (N := 11) hx hb hts w_X10 hown hK hP 0 rfl rfl 2 (by decide) f_7 (fun _ h9 => h9) rfl dX10_shiftRange_206 ?_
                  refine lv_iload_n hx hb dX10_shiftRange_209 rfl (lv_at hl 2 rfl) ?_
                  refine lv_iconst (v := 3) hx hb dX10_shiftRange_210 (by decide) ?_
                  refine lv_iadd hx hb dX10_shiftRange_211 ?_
                  refine va_iald hx hb hK hP 1 0 rfl rfl (in_add (c := 3) (n := 1000) hk (by decide) (by decide) (by decide)) dX10_shiftRange_212 ?_
                  refine lv_iload hx hb dX10_shiftRange_213 (lv_at hl 0 rfl) ?_
                  refine lv_aload_n hx hb dX10_shiftRange_215 rfl (lv_at hl 1 rfl) ?_
                  refine va_get (D := D) (ci := 8) (v := .ref h1) (C := RX10) (T := TX10) (N := 11) hx hb hts w_X10 hown hK hP 0 rfl rfl 2 (by decide) f_7 (fun _ h9 => h9) rfl dX10_shiftRange_216 ?_
                  refine lv_iload_n hx hb dX10_shiftRange_219 rfl (lv_at hl 2 rfl) ?_
                  refine lv_iconst (v := 5) hx hb dX10_shiftRange_220 (by decide) ?_
                  refine lv_iadd hx hb dX10_shiftRange_221 ?_
                  refine va_iald hx hb hK hP 1 0 rfl rfl (in_add (c := 5) (n := 1000) hk (by decide) (by decide) (by decide)) dX10_shiftRange_222 ?_
                  have hPc := hP.sub (ws' := [(h0, .inr (8, [.int cd, .int n, .ref h1, .int md, .ref h2, .int ch, .int sh, .int tp, .int lf, .int bt, .int rt])), (h1, .inl (cA, 1000, .inl f)), (h2, .inl (cB, 1000, .inl g))]) [0, 1, 2] rfl
                  have hDc := hD.sub (ws' := [(h0, .inr (8, [.int cd, .int n, .ref h1, .int md, .ref h2, .int ch, .int sh, .int tp, .int lf, .int bt, .int rt])), (h1, .inl (cA, 1000, .inl f)), (h2, .inl (cB, 1000, .inl g))]) [0, 1, 2] (by decide) rfl
                  have hKc := hK.sub (tys' := [(cA, .int), (cB, .int)]) [0, 1] rfl
                  refine wk_v (β := Unit) (ok := fun _ => True) (wc := [(h0, .inr (8, [.int cd, .int n, .ref h1, .int md, .ref h2, .int ch, .int sh, .int tp, .int lf, .int bt, .int rt])), (h1, .inl (cA, 1000, .inl f)), (h2, .inl (cB, 1000, .inl g))]) (wr := []) (w1 := fun _ => [(h0, .inr (8, [.int cd, .int n, .ref h1, .int (fX10_makeRange md ch f g k ((f k.toNatClampNeg) / 16) (f (k + 1).toNatClampNeg) v_4 (f (k + 3).toNatClampNeg) v_5 (f (k + 5).toNatClampNeg)).1, .ref h2, .int (fX10_makeRange md ch f g k ((f k.toNatClampNeg) / 16) (f (k + 1).toNatClampNeg) v_4 (f (k + 3).toNatClampNeg) v_5 (f (k + 5).toNatClampNeg)).2.1, .int sh, .int tp, .int lf, .int bt, .int rt])), (h1, .inl (cA, 1000, .inl f)), (h2, .inl (cB, 1000, .inl (fX10_makeRange md ch f g k ((f k.toNatClampNeg) / 16) (f (k + 1).toNatClampNeg) v_4 (f (k + 3).toNatClampNeg) v_5 (f (k + 5).toNatClampNeg)).2.2))]) (ws2 := fun _ => [(h0, .inr (8, [.int cd, .int n, .ref h1, .int (fX10_makeRange md ch f g k ((f k.toNatClampNeg) / 16) (f (k + 1).toNatClampNeg) v_4 (f (k + 3).toNatClampNeg) v_5 (f (k + 5).toNatClampNeg)).1, .ref h2, .int (fX10_makeRange md ch f g k ((f k.toNatClampNeg) / 16) (f (k + 1).toNatClampNeg) v_4 (f (k + 3).toNatClampNeg) v_5 (f (k + 5).toNatClampNeg)).2.1, .int sh, .int tp, .int lf, .int bt, .int rt])), (h1, .inl (cA, 1000, .inl f)), (h2, .inl (cB, 1000, .inl (fX10_makeRange md ch f g k ((f k.toNatClampNeg) / 16) (f (k + 1).toNatClampNeg) v_4 (f (k + 3).toNatClampNeg) v_5 (f (k + 5).toNatClampNeg)).2.2))]) (va_runV (As := [.int k, .int ((f k.toNatClampNeg) / 16), .int (f (k + 1).toNatClampNeg), .int v_4, .int (f (k + 3).toNatClampNeg), .int v_5, .int (f (k + 5).toNatClampNeg)]) (rest := []) ⟨hx, hb, hml, hown, hts⟩ (kX10_makeRange l D H.size h0 h1 h2 cA cB cd n md ch sh tp lf bt rt f g k ((f k.toNatClampNeg) / 16) (f (k + 1).toNatClampNeg) v_4 (f (k + 3).toNatClampNeg) v_5 (f (k + 5).toNatClampNeg) hk hm) (cwV 7 hts gX10_shiftRange_X10_makeRange rfl rfl rfl (by decide +kernel) ⟨Nat.le_of_ble_eq_true rfl, Nat.le_of_ble_eq_true rfl⟩) ⟨Pw_blind, (va_recv hKc hPc (ci := 8) (q0 := 0) rfl rfl), fun U hU hW => Pw_at hKc hPc hDc hN hU hW⟩ rfl rfl hl.1 rfl (lv_room (Nat.le_of_ble_eq_true rfl)) dX10_shiftRange_223 ⟨Nat.le_of_ble_eq_true rfl, Nat.le_of_ble_eq_true rfl⟩) hP hD hS hA [0, 1, 2] [] [0, 1, 2] rfl rfl (by decide) (by decide) (fun _ => rfl) (by decide) (fun _ _ H locs hP hD hS => ?_)
                  have hP : va_P D vwCl [(h0, .inr (8, [.int cd, .int n, .ref h1, .int (fX10_makeRange md ch f g k ((f k.toNatClampNeg) / 16) (f (k + 1).toNatClampNeg) v_4 (f (k + 3).toNatClampNeg) v_5 (f (k + 5).toNatClampNeg)).1, .ref h2, .int (fX10_makeRange md ch f g k ((f k.toNatClampNeg) / 16) (f (k + 1).toNatClampNeg) v_4 (f (k + 3).toNatClampNeg) v_5 (f (k + 5).toNatClampNeg)).2.1, .int sh, .int tp, .int lf, .int bt, .int rt])), (h1, .inl (cA, 1000, .inl f)), (h2, .inl (cB, 1000, .inl (fX10_makeRange md ch f g k ((f k.toNatClampNeg) / 16) (f (k + 1).toNatClampNeg) v_4 (f (k + 3).toNatClampNeg) v_5 (f (k + 5).toNatClampNeg)).2.2))] H := hP
                  have hD : va_D A [(h0, .inr (8, [.int cd, .int n, .ref h1, .int (fX10_makeRange md ch f g k ((f k.toNatClampNeg) / 16) (f (k + 1).toNatClampNeg) v_4 (f (k + 3).toNatClampNeg) v_5 (f (k + 5).toNatClampNeg)).1, .ref h2, .int (fX10_makeRange md ch f g k ((f k.toNatClampNeg) / 16) (f (k + 1).toNatClampNeg) v_4 (f (k + 3).toNatClampNeg) v_5 (f (k + 5).toNatClampNeg)).2.1, .int sh, .int tp, .int lf, .int bt, .int rt])), (h1, .inl (cA, 1000, .inl f)), (h2, .inl (cB, 1000, .inl (fX10_makeRange md ch f g k ((f k.toNatClampNeg) / 16) (f (k + 1).toNatClampNeg) v_4 (f (k + 3).toNatClampNeg) v_5 (f (k + 5).toNatClampNeg)).2.2))] := hD
                  have hF : (fX10_shiftRange md ch f g k z at_ nn) = ((fX10_makeRange md ch f g k ((f k.toNatClampNeg) / 16) (f (k + 1).toNatClampNeg) v_4 (f (k + 3).toNatClampNeg) v_5 (f (k + 5).toNatClampNeg)).1, (fX10_makeRange md ch f g k ((f k.toNatClampNeg) / 16) (f (k + 1).toNatClampNeg) v_4 (f (k + 3).toNatClampNeg) v_5 (f (k + 5).toNatClampNeg)).2.1, (fX10_makeRange md ch f g k ((f k.toNatClampNeg) / 16) (f (k + 1).toNatClampNeg) v_4 (f (k + 3).toNatClampNeg) v_5 (f (k + 5).toNatClampNeg)).2.2) := by subst ev_5; subst ev_4; subst ev_3; subst ev_2; subst ev_1; exact ((if_neg c120).trans ((if_neg c125).trans (if_pos c136)))
                  subst hAe
                  subst hQe
                  exact W.vret hx hb hr (fun t ht hW => ⟨⟨_, rfl, ⟨(), trivial, by rw [hF]⟩, by rw [ht]; exact hP, hD⟩, hS.F ht⟩) hS.2.2 dX10_shiftRange_226
                · refine lv_aload_n hx hb dX10_shiftRange_139 rfl (lv_at hl 1 rfl) ?_
                  refine lv_iload_n hx hb dX10_shiftRange_140 rfl (lv_at hl 2 rfl) ?_
                  refine lv_aload_n hx hb dX10_shiftRange_141 rfl (lv_at hl 1 rfl) ?_
                  refine va_get (D := D) (ci := 8) (v := .ref h1) (C := RX10) (T := TX10) (N := 11) hx hb hts w_X10 hown hK hP 0 rfl rfl 2 (by decide) f_7 (fun _ h9 => h9) rfl dX10_shiftRange_142 ?_
                  refine lv_iload_n hx hb dX10_shiftRange_145 rfl (lv_at hl 2 rfl) ?_
                  refine va_iald hx hb hK hP 1 0 rfl rfl (in_w hk (by decide)) dX10_shiftRange_146 ?_
                  refine lv_bipush (v := 16) hx hb dX10_shiftRange_147 (by decide) ?_
                  refine lv_idiv hx hb dX10_shiftRange_149 (by decide) ?_
                  refine lv_aload_n hx hb dX10_shiftRange_150 rfl (lv_at hl 1 rfl) ?_
                  refine va_get (D := D) (ci := 8) (v := .ref h1) (C := RX10) (T := TX10) (N := 11) hx hb hts w_X10 hown hK hP 0 rfl rfl 2 (by decide) f_7 (fun _ h9 => h9) rfl dX10_shiftRange_151 ?_
                  refine lv_iload_n hx hb dX10_shiftRange_154 rfl (lv_at hl 2 rfl) ?_
                  refine lv_iconst (v := 1) hx hb dX10_shiftRange_155 (by decide) ?_
                  refine lv_iadd hx hb dX10_shiftRange_156 ?_
                  refine va_iald hx hb hK hP 1 0 rfl rfl (in_add (c := 1) (n := 1000) hk (by decide) (by decide) (by decide)) dX10_shiftRange_157 ?_
                  refine lv_aload_n hx hb dX10_shiftRange_158 rfl (lv_at hl 1 rfl) ?_
                  refine va_get (D := D) (ci := 8) (v := .ref h1) (C := RX10) (T := TX10) (N := 11) hx hb hts w_X10 hown hK hP 0 rfl rfl 2 (by decide) f_7 (fun _ h9 => h9) rfl dX10_shiftRange_159 ?_
                  refine lv_iload_n hx hb dX10_shiftRange_162 rfl (lv_at hl 2 rfl) ?_
                  refine lv_iconst (v := 2) hx hb dX10_shiftRange_163 (by decide) ?_
                  refine lv_iadd hx hb dX10_shiftRange_164 ?_
                  refine va_iald hx hb hK hP 1 0 rfl rfl (in_add (c := 2) (n := 1000) hk (by decide) (by decide) (by decide)) dX10_shiftRange_165 ?_
                  refine lv_iload hx hb dX10_shiftRange_166 (lv_at hl 4 rfl) ?_
                  refine lv_aload_n hx hb dX10_shiftRange_168 rfl (lv_at hl 1 rfl) ?_
                  refine va_get (D := D) (ci := 8) (v := .ref h1) (C := RX10) (T := TX10) (N := 11) hx hb hts w_X10 hown hK hP 0 rfl rfl 2 (by decide) f_7 (fun _ h9 => h9) rfl dX10_shiftRange_169 ?_
                  refine lv_iload_n hx hb dX10_shiftRange_172 rfl (lv_at hl 2 rfl) ?_
                  refine lv_iconst (v := 4) hx hb dX10_shiftRange_173 (by decide) ?_
                  refine lv_iadd hx hb dX10_shiftRange_174 ?_
                  refine va_iald hx hb hK hP 1 0 rfl rfl (in_add (c := 4) (n := 1000) hk (by decide) (by decide) (by decide)) dX10_shiftRange_175 ?_
                  refine lv_iload hx hb dX10_shiftRange_176 (lv_at hl 0 rfl) ?_
                  have hPc := hP.sub (ws' := [(h0, .inr (8, [.int cd, .int n, .ref h1, .int md, .ref h2, .int ch, .int sh, .int tp, .int lf, .int bt, .int rt])), (h1, .inl (cA, 1000, .inl f)), (h2, .inl (cB, 1000, .inl g))]) [0, 1, 2] rfl
                  have hDc := hD.sub (ws' := [(h0, .inr (8, [.int cd, .int n, .ref h1, .int md, .ref h2, .int ch, .int sh, .int tp, .int lf, .int bt, .int rt])), (h1, .inl (cA, 1000, .inl f)), (h2, .inl (cB, 1000, .inl g))]) [0, 1, 2] (by decide) rfl
                  have hKc := hK.sub (tys' := [(cA, .int), (cB, .int)]) [0, 1] rfl
                  refine wk_v (β := Unit) (ok := fun _ => True) (wc := [(h0, .inr (8, [.int cd, .int n, .ref h1, .int md, .ref h2, .int ch, .int sh, .int tp, .int lf, .int bt, .int rt])), (h1, .inl (cA, 1000, .inl f)), (h2, .inl (cB, 1000, .inl g))]) (wr := []) (w1 := fun _ => [(h0, .inr (8, [.int cd, .int n, .ref h1, .int (fX10_makeRange md ch f g k ((f k.toNatClampNeg) / 16) (f (k + 1).toNatClampNeg) (f (k + 2).toNatClampNeg) v_4 (f (k + 4).toNatClampNeg) v_5).1, .ref h2, .int (fX10_makeRange md ch f g k ((f k.toNatClampNeg) / 16) (f (k + 1).toNatClampNeg) (f (k + 2).toNatClampNeg) v_4 (f (k + 4).toNatClampNeg) v_5).2.1, .int sh, .int tp, .int lf, .int bt, .int rt])), (h1, .inl (cA, 1000, .inl f)), (h2, .inl (cB, 1000, .inl (fX10_makeRange md ch f g k ((f k.toNatClampNeg) / 16) (f (k + 1).toNatClampNeg) (f (k + 2).toNatClampNeg) v_4 (f (k + 4).toNatClampNeg) v_5).2.2))]) (ws2 := fun _ => [(h0, .inr (8, [.int cd, .int n, .ref h1, .int (fX10_makeRange md ch f g k ((f k.toNatClampNeg) / 16) (f (k + 1).toNatClampNeg) (f (k + 2).toNatClampNeg) v_4 (f (k + 4).toNatClampNeg) v_5).1, .ref h2, .int (fX10_makeRange md ch f g k ((f k.toNatClampNeg) / 16) (f (k + 1).toNatClampNeg) (f (k + 2).toNatClampNeg) v_4 (f (k + 4).toNatClampNeg) v_5).2.1, .int sh, .int tp, .int lf, .int bt, .int rt])), (h1, .inl (cA, 1000, .inl f)), (h2, .inl (cB, 1000, .inl (fX10_makeRange md ch f g k ((f k.toNatClampNeg) / 16) (f (k + 1).toNatClampNeg) (f (k + 2).toNatClampNeg) v_4 (f (k + 4).toNatClampNeg) v_5).2.2))]) (va_runV (As := [.int k, .int ((f k.toNatClampNeg) / 16), .int (f (k + 1).toNatClampNeg), .int (f (k + 2).toNatClampNeg), .int v_4, .int (f (k + 4).toNatClampNeg), .int v_5]) (rest := []) ⟨hx, hb, hml, hown, hts⟩ (kX10_makeRange l D H.size h0 h1 h2 cA cB cd n md ch sh tp lf bt rt f g k ((f k.toNatClampNeg) / 16) (f (k + 1).toNatClampNeg) (f (k + 2).toNatClampNeg) v_4 (f (k + 4).toNatClampNeg) v_5 hk hm) (cwV 7 hts gX10_shiftRange_X10_makeRange rfl rfl rfl (by decide +kernel) ⟨Nat.le_of_ble_eq_true rfl, Nat.le_of_ble_eq_true rfl⟩) ⟨Pw_blind, (va_recv hKc hPc (ci := 8) (q0 := 0) rfl rfl), fun U hU hW => Pw_at hKc hPc hDc hN hU hW⟩ rfl rfl hl.1 rfl (lv_room (Nat.le_of_ble_eq_true rfl)) dX10_shiftRange_178 ⟨Nat.le_of_ble_eq_true rfl, Nat.le_of_ble_eq_true rfl⟩) hP hD hS hA [0, 1, 2] [] [0, 1, 2] rfl rfl (by decide) (by decide) (fun _ => rfl) (by decide) (fun _ _ H locs hP hD hS => ?_)
                  have hP : va_P D vwCl [(h0, .inr (8, [.int cd, .int n, .ref h1, .int (fX10_makeRange md ch f g k ((f k.toNatClampNeg) / 16) (f (k + 1).toNatClampNeg) (f (k + 2).toNatClampNeg) v_4 (f (k + 4).toNatClampNeg) v_5).1, .ref h2, .int (fX10_makeRange md ch f g k ((f k.toNatClampNeg) / 16) (f (k + 1).toNatClampNeg) (f (k + 2).toNatClampNeg) v_4 (f (k + 4).toNatClampNeg) v_5).2.1, .int sh, .int tp, .int lf, .int bt, .int rt])), (h1, .inl (cA, 1000, .inl f)), (h2, .inl (cB, 1000, .inl (fX10_makeRange md ch f g k ((f k.toNatClampNeg) / 16) (f (k + 1).toNatClampNeg) (f (k + 2).toNatClampNeg) v_4 (f (k + 4).toNatClampNeg) v_5).2.2))] H := hP
                  have hD : va_D A [(h0, .inr (8, [.int cd, .int n, .ref h1, .int (fX10_makeRange md ch f g k ((f k.toNatClampNeg) / 16) (f (k + 1).toNatClampNeg) (f (k + 2).toNatClampNeg) v_4 (f (k + 4).toNatClampNeg) v_5).1, .ref h2, .int (fX10_makeRange md ch f g k ((f k.toNatClampNeg) / 16) (f (k + 1).toNatClampNeg) (f (k + 2).toNatClampNeg) v_4 (f (k + 4).toNatClampNeg) v_5).2.1, .int sh, .int tp, .int lf, .int bt, .int rt])), (h1, .inl (cA, 1000, .inl f)), (h2, .inl (cB, 1000, .inl (fX10_makeRange md ch f g k ((f k.toNatClampNeg) / 16) (f (k + 1).toNatClampNeg) (f (k + 2).toNatClampNeg) v_4 (f (k + 4).toNatClampNeg) v_5).2.2))] := hD
                  refine lv_goto (tgt := 226) hx hb dX10_shiftRange_181 (by decide) ?_
                  have hF : (fX10_shiftRange md ch f g k z at_ nn) = ((fX10_makeRange md ch f g k ((f k.toNatClampNeg) / 16) (f (k + 1).toNatClampNeg) (f (k + 2).toNatClampNeg) v_4 (f (k + 4).toNatClampNeg) v_5).1, (fX10_makeRange md ch f g k ((f k.toNatClampNeg) / 16) (f (k + 1).toNatClampNeg) (f (k + 2).toNatClampNeg) v_4 (f (k + 4).toNatClampNeg) v_5).2.1, (fX10_makeRange md ch f g k ((f k.toNatClampNeg) / 16) (f (k + 1).toNatClampNeg) (f (k + 2).toNatClampNeg) v_4 (f (k + 4).toNatClampNeg) v_5).2.2) := by subst ev_5; subst ev_4; subst ev_3; subst ev_2; subst ev_1; exact ((if_neg c120).trans ((if_neg c125).trans (if_neg c136)))
                  subst hAe
                  subst hQe
                  exact W.vret hx hb hr (fun t ht hW => ⟨⟨_, rfl, ⟨(), trivial, by rw [hF]⟩, by rw [ht]; exact hP, hD⟩, hS.F ht⟩) hS.2.2 dX10_shiftRange_226
              · refine lv_aload_n hx hb dX10_shiftRange_128 rfl (lv_at hl 1 rfl) ?_
                have hPc := hP.sub (ws' := [(h0, .inr (8, [.int cd, .int n, .ref h1, .int md, .ref h2, .int ch, .int sh, .int tp, .int lf, .int bt, .int rt])), (h1, .inl (cA, 1000, .inl f)), (h2, .inl (cB, 1000, .inl g))]) [0, 1, 2] rfl
                have hDc := hD.sub (ws' := [(h0, .inr (8, [.int cd, .int n, .ref h1, .int md, .ref h2, .int ch, .int sh, .int tp, .int lf, .int bt, .int rt])), (h1, .inl (cA, 1000, .inl f)), (h2, .inl (cB, 1000, .inl g))]) [0, 1, 2] (by decide) rfl
                have hKc := hK.sub (tys' := [(cA, .int), (cB, .int)]) [0, 1] rfl
                refine wk_v (β := Unit) (ok := fun _ => True) (wc := [(h0, .inr (8, [.int cd, .int n, .ref h1, .int md, .ref h2, .int ch, .int sh, .int tp, .int lf, .int bt, .int rt])), (h1, .inl (cA, 1000, .inl f)), (h2, .inl (cB, 1000, .inl g))]) (wr := []) (w1 := fun _ => [(h0, .inr (8, [.int cd, .int n, .ref h1, .int (md + 1), .ref h2, .int (ch + 1), .int sh, .int tp, .int lf, .int bt, .int rt])), (h1, .inl (cA, 1000, .inl f)), (h2, .inl (cB, 1000, .inl (upd g md.toNatClampNeg 67)))]) (ws2 := fun _ => [(h0, .inr (8, [.int cd, .int n, .ref h1, .int (md + 1), .ref h2, .int (ch + 1), .int sh, .int tp, .int lf, .int bt, .int rt])), (h1, .inl (cA, 1000, .inl f)), (h2, .inl (cB, 1000, .inl (upd g md.toNatClampNeg 67)))]) (va_runV (As := []) (rest := []) ⟨hx, hb, hml, hown, hts⟩ (kX10_lose l D H.size h0 h1 h2 cA cB cd n md ch sh tp lf bt rt f g (in_w hm (by decide))) (cwV 0 hts gX10_shiftRange_X10_lose rfl rfl rfl (by decide +kernel) ⟨Nat.le_of_ble_eq_true rfl, Nat.le_of_ble_eq_true rfl⟩) ⟨Pw_blind, (va_recv hKc hPc (ci := 8) (q0 := 0) rfl rfl), fun U hU hW => Pw_at hKc hPc hDc hN hU hW⟩ rfl rfl hl.1 rfl (lv_room (Nat.le_of_ble_eq_true rfl)) dX10_shiftRange_129 ⟨Nat.le_of_ble_eq_true rfl, Nat.le_of_ble_eq_true rfl⟩) hP hD hS hA [0, 1, 2] [] [0, 1, 2] rfl rfl (by decide) (by decide) (fun _ => rfl) (by decide) (fun _ _ H locs hP hD hS => ?_)
                have hP : va_P D vwCl [(h0, .inr (8, [.int cd, .int n, .ref h1, .int (md + 1), .ref h2, .int (ch + 1), .int sh, .int tp, .int lf, .int bt, .int rt])), (h1, .inl (cA, 1000, .inl f)), (h2, .inl (cB, 1000, .inl (upd g md.toNatClampNeg 67)))] H := hP
                have hD : va_D A [(h0, .inr (8, [.int cd, .int n, .ref h1, .int (md + 1), .ref h2, .int (ch + 1), .int sh, .int tp, .int lf, .int bt, .int rt])), (h1, .inl (cA, 1000, .inl f)), (h2, .inl (cB, 1000, .inl (upd g md.toNatClampNeg 67)))] := hD
                refine lv_goto (tgt := 226) hx hb dX10_shiftRange_132 (by decide) ?_
                have hF : (fX10_shiftRange md ch f g k z at_ nn) = ((md + 1), (ch + 1), (upd g md.toNatClampNeg 67)) := by subst ev_5; subst ev_4; subst ev_3; subst ev_2; subst ev_1; exact ((if_neg c120).trans (if_pos c125))
                subst hAe
                subst hQe
                exact W.vret hx hb hr (fun t ht hW => ⟨⟨_, rfl, ⟨(), trivial, by rw [hF]⟩, by rw [ht]; exact hP, hD⟩, hS.F ht⟩) hS.2.2 dX10_shiftRange_226
          refine lv_if_eq (tgt := 105) hx hb dX10_shiftRange_97 (by decide) (fun c97 => ?_) (fun c97 => ?_)
          · refine lv_iload hx hb dX10_shiftRange_105 (lv_at hl 6 rfl) ?_
            refine lv_iload hx hb dX10_shiftRange_107 (lv_at hl 7 rfl) ?_
            refine lv_iload_n hx hb dX10_shiftRange_109 rfl (lv_at hl 3 rfl) ?_
            refine lv_iload_n hx hb dX10_shiftRange_110 rfl (lv_at hl 4 rfl) ?_
            refine lv_iload hx hb dX10_shiftRange_111 (lv_at hl 5 rfl) ?_
            have hPc := hP.sub (ws' := []) [] rfl
            have hDc := hD.sub (ws' := []) [] (by decide) rfl
            have hKc := hK.sub (tys' := []) [] rfl
            refine rd_i (va_runS (As := [.int v_1, .int v_2, .int z, .int at_, .int nn]) (rest := []) ⟨hx, hb, hml, hown, hts⟩ (kX10_lastLeft l D H.size v_1 v_2 z at_ nn ) (va_cwS 5 hts gX10_shiftRange_X10_lastLeft rfl rfl rfl (by decide +kernel) ⟨Nat.le_of_ble_eq_true rfl, Nat.le_of_ble_eq_true rfl⟩) ⟨Pw_blind, fun U hU hW => Pw_at hKc hPc hDc hN hU hW⟩ rfl rfl hl.1 rfl (lv_room (Nat.le_of_ble_eq_true rfl)) dX10_shiftRange_113 ⟨Nat.le_of_ble_eq_true rfl, Nat.le_of_ble_eq_true rfl⟩) ?_
            exact K116_5 _ (if_pos c97).symm ls (lv_sub hl [1, 2, 3, 0] rfl)
          · refine lv_iload hx hb dX10_shiftRange_100 (lv_at hl 7 rfl) ?_
            refine lv_goto (tgt := 116) hx hb dX10_shiftRange_102 (by decide) ?_
            exact K116_5 _ (if_neg c97).symm ls (lv_sub hl [1, 2, 3, 0] rfl)
        refine lv_if_eq (tgt := 82) hx hb dX10_shiftRange_74 (by decide) (fun c74 => ?_) (fun c74 => ?_)
        · refine lv_iload hx hb dX10_shiftRange_82 (lv_at hl 6 rfl) ?_
          refine lv_iload hx hb dX10_shiftRange_84 (lv_at hl 7 rfl) ?_
          refine lv_iload_n hx hb dX10_shiftRange_86 rfl (lv_at hl 3 rfl) ?_
          refine lv_iload_n hx hb dX10_shiftRange_87 rfl (lv_at hl 4 rfl) ?_
          refine lv_iload hx hb dX10_shiftRange_88 (lv_at hl 5 rfl) ?_
          have hPc := hP.sub (ws' := []) [] rfl
          have hDc := hD.sub (ws' := []) [] (by decide) rfl
          have hKc := hK.sub (tys' := []) [] rfl
          refine rd_i (va_runS (As := [.int v_1, .int v_2, .int z, .int at_, .int nn]) (rest := []) ⟨hx, hb, hml, hown, hts⟩ (kX10_firstLeft l D H.size v_1 v_2 z at_ nn ) (va_cwS 5 hts gX10_shiftRange_X10_firstLeft rfl rfl rfl (by decide +kernel) ⟨Nat.le_of_ble_eq_true rfl, Nat.le_of_ble_eq_true rfl⟩) ⟨Pw_blind, fun U hU hW => Pw_at hKc hPc hDc hN hU hW⟩ rfl rfl hl.1 rfl (lv_room (Nat.le_of_ble_eq_true rfl)) dX10_shiftRange_90 ⟨Nat.le_of_ble_eq_true rfl, Nat.le_of_ble_eq_true rfl⟩) ?_
          exact K93_4 _ (if_pos c74).symm ls (lv_sub hl [1, 2, 3, 4, 5, 6, 7, 0] rfl)
        · refine lv_iload hx hb dX10_shiftRange_77 (lv_at hl 6 rfl) ?_
          refine lv_goto (tgt := 93) hx hb dX10_shiftRange_79 (by decide) ?_
          exact K93_4 _ (if_neg c74).symm ls (lv_sub hl [1, 2, 3, 4, 5, 6, 7, 0] rfl)
      refine lv_icmp_ne (tgt := 69) hx hb dX10_shiftRange_53 (by decide) (fun c53 => ?_) (fun c53 => ?_)
      · refine lv_iconst (v := 0) hx hb dX10_shiftRange_69 (by decide) ?_
        exact K70_3 _ (if_neg c53).symm ls (lv_sub hl [1, 2, 3, 4, 5, 6, 0] rfl)
      · refine lv_iload hx hb dX10_shiftRange_56 (lv_at hl 0 rfl) ?_
        refine lv_iload_n hx hb dX10_shiftRange_58 rfl (lv_at hl 3 rfl) ?_
        have hPc := hP.sub (ws' := []) [] rfl
        have hDc := hD.sub (ws' := []) [] (by decide) rfl
        have hKc := hK.sub (tys' := []) [] rfl
        refine rd_i (va_runS (As := [.int z]) (rest := [.int v_2]) ⟨hx, hb, hml, hown, hts⟩ (kX10_lines l D H.size z ) (va_cwS 1 hts gX10_shiftRange_X10_lines rfl rfl rfl (by decide +kernel) ⟨Nat.le_of_ble_eq_true rfl, Nat.le_of_ble_eq_true rfl⟩) ⟨Pw_blind, fun U hU hW => Pw_at hKc hPc hDc hN hU hW⟩ rfl rfl hl.1 rfl (lv_room (Nat.le_of_ble_eq_true rfl)) dX10_shiftRange_59 ⟨Nat.le_of_ble_eq_true rfl, Nat.le_of_ble_eq_true rfl⟩) ?_
        refine lv_icmp_ne (tgt := 69) hx hb dX10_shiftRange_62 (by decide) (fun c62 => ?_) (fun c62 => ?_)
        · refine lv_iconst (v := 0) hx hb dX10_shiftRange_69 (by decide) ?_
          exact K70_3 _ ((if_pos c53).trans (if_neg c62)).symm ls (lv_sub hl [1, 2, 3, 4, 5, 6, 0] rfl)
        · refine lv_iconst (v := 1) hx hb dX10_shiftRange_65 (by decide) ?_
          refine lv_goto (tgt := 70) hx hb dX10_shiftRange_66 (by decide) ?_
          exact K70_3 _ ((if_pos c53).trans (if_pos c62)).symm ls (lv_sub hl [1, 2, 3, 4, 5, 6, 0] rfl)
    refine lv_if_eq (tgt := 40) hx hb dX10_shiftRange_26 (by decide) (fun c26 => ?_) (fun c26 => ?_)
    · refine lv_aload_n hx hb dX10_shiftRange_40 rfl (lv_at hl 1 rfl) ?_
      refine va_get (D := D) (ci := 8) (v := .ref h1) (C := RX10) (T := TX10) (N := 11) hx hb hts w_X10 hown hK hP 0 rfl rfl 2 (by decide) f_7 (fun _ h9 => h9) rfl dX10_shiftRange_41 ?_
      refine lv_iload_n hx hb dX10_shiftRange_44 rfl (lv_at hl 2 rfl) ?_
      refine lv_iconst (v := 4) hx hb dX10_shiftRange_45 (by decide) ?_
      refine lv_iadd hx hb dX10_shiftRange_46 ?_
      refine va_iald hx hb hK hP 1 0 rfl rfl (in_add (c := 4) (n := 1000) hk (by decide) (by decide) (by decide)) dX10_shiftRange_47 ?_
      exact K48_2 _ (if_pos c26).symm ls (lv_sub hl [1, 2, 3, 4, 5, 0] rfl)
    · refine lv_aload_n hx hb dX10_shiftRange_29 rfl (lv_at hl 1 rfl) ?_
      refine va_get (D := D) (ci := 8) (v := .ref h1) (C := RX10) (T := TX10) (N := 11) hx hb hts w_X10 hown hK hP 0 rfl rfl 2 (by decide) f_7 (fun _ h9 => h9) rfl dX10_shiftRange_30 ?_
      refine lv_iload_n hx hb dX10_shiftRange_33 rfl (lv_at hl 2 rfl) ?_
      refine lv_iconst (v := 5) hx hb dX10_shiftRange_34 (by decide) ?_
      refine lv_iadd hx hb dX10_shiftRange_35 ?_
      refine va_iald hx hb hK hP 1 0 rfl rfl (in_add (c := 5) (n := 1000) hk (by decide) (by decide) (by decide)) dX10_shiftRange_36 ?_
      refine lv_goto (tgt := 48) hx hb dX10_shiftRange_37 (by decide) ?_
      exact K48_2 _ (if_neg c26).symm ls (lv_sub hl [1, 2, 3, 4, 5, 0] rfl)
  refine lv_if_eq (tgt := 15) hx hb dX10_shiftRange_1 (by decide) (fun c1 => ?_) (fun c1 => ?_)
  · refine lv_aload_n hx hb dX10_shiftRange_15 rfl (lv_at hl 0 rfl) ?_
    refine va_get (D := D) (ci := 8) (v := .ref h1) (C := RX10) (T := TX10) (N := 11) hx hb hts w_X10 hown hK hP 0 rfl rfl 2 (by decide) f_7 (fun _ h9 => h9) rfl dX10_shiftRange_16 ?_
    refine lv_iload_n hx hb dX10_shiftRange_19 rfl (lv_at hl 1 rfl) ?_
    refine lv_iconst (v := 2) hx hb dX10_shiftRange_20 (by decide) ?_
    refine lv_iadd hx hb dX10_shiftRange_21 ?_
    refine va_iald hx hb hK hP 1 0 rfl rfl (in_add (c := 2) (n := 1000) hk (by decide) (by decide) (by decide)) dX10_shiftRange_22 ?_
    exact K23_1 _ (if_pos c1).symm ls (lv_sub hl [0, 1, 2, 3, 4] rfl)
  · refine lv_aload_n hx hb dX10_shiftRange_4 rfl (lv_at hl 0 rfl) ?_
    refine va_get (D := D) (ci := 8) (v := .ref h1) (C := RX10) (T := TX10) (N := 11) hx hb hts w_X10 hown hK hP 0 rfl rfl 2 (by decide) f_7 (fun _ h9 => h9) rfl dX10_shiftRange_5 ?_
    refine lv_iload_n hx hb dX10_shiftRange_8 rfl (lv_at hl 1 rfl) ?_
    refine lv_iconst (v := 3) hx hb dX10_shiftRange_9 (by decide) ?_
    refine lv_iadd hx hb dX10_shiftRange_10 ?_
    refine va_iald hx hb hK hP 1 0 rfl rfl (in_add (c := 3) (n := 1000) hk (by decide) (by decide) (by decide)) dX10_shiftRange_11 ?_
    refine lv_goto (tgt := 23) hx hb dX10_shiftRange_12 (by decide) ?_
    exact K23_1 _ (if_neg c1).symm ls (lv_sub hl [0, 1, 2, 3, 4] rfl)
