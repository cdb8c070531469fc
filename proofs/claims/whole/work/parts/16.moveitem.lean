def fX10_moveItem_4 (md : Int32) (ch : Int32) (sh : Int32) (tp : Int32) (lf : Int32) (bt : Int32) (rt : Int32) (f : Nat → Int32) (g : Nat → Int32) (k : Int32) (hm : Int32) (nh : Int32) (s1 : Int32) (rw : Int32) (cl : Int32) : Int32 × Int32 × (Nat → Int32) := let v_1 : Int32 := (if 0 ≤ (f (k + 1).toNatClampNeg) then (f (k + 1).toNatClampNeg) else hm); let v_2 : Int32 := (if v_1 = sh then (if (f (k + 2).toNatClampNeg) < tp then 0 else (if bt < (f (k + 2).toNatClampNeg) then 0 else (if (f (k + 3).toNatClampNeg) < lf then 0 else (if rt < (f (k + 3).toNatClampNeg) then 0 else 1)))) else 0); let v_3 : Int32 := (if v_1 = s1 then (if (f (k + 2).toNatClampNeg) < rw then 0 else (if (bt + (rw - tp)) < (f (k + 2).toNatClampNeg) then 0 else (if (f (k + 3).toNatClampNeg) < cl then 0 else (if (rt + (cl - lf)) < (f (k + 3).toNatClampNeg) then 0 else 1)))) else 0); if v_2 = 0 then (if v_3 = 0 then (let v_4 : Int32 := (if v_2 = 0 then v_1 else s1); let v_5 : Int32 := (if 0 ≤ (f (k + 1).toNatClampNeg) then v_4 else (if v_4 = nh then (-1) else v_4)); let v_6 : Int32 := (if v_2 = 0 then 0 else (rw - tp)); let v_7 : Int32 := (if v_2 = 0 then 0 else (cl - lf)); ((fX10_makePlace md ch f g k v_5 ((f (k + 2).toNatClampNeg) + v_6) ((f (k + 3).toNatClampNeg) + v_7)).1, (fX10_makePlace md ch f g k v_5 ((f (k + 2).toNatClampNeg) + v_6) ((f (k + 3).toNatClampNeg) + v_7)).2.1, (fX10_makePlace md ch f g k v_5 ((f (k + 2).toNatClampNeg) + v_6) ((f (k + 3).toNatClampNeg) + v_7)).2.2)) else (((md + 1), (ch + 1), (upd g md.toNatClampNeg 67)))) else (let v_8 : Int32 := (if v_2 = 0 then v_1 else s1); let v_9 : Int32 := (if 0 ≤ (f (k + 1).toNatClampNeg) then v_8 else (if v_8 = nh then (-1) else v_8)); let v_10 : Int32 := (if v_2 = 0 then 0 else (rw - tp)); let v_11 : Int32 := (if v_2 = 0 then 0 else (cl - lf)); ((fX10_makePlace md ch f g k v_9 ((f (k + 2).toNatClampNeg) + v_10) ((f (k + 3).toNatClampNeg) + v_11)).1, (fX10_makePlace md ch f g k v_9 ((f (k + 2).toNatClampNeg) + v_10) ((f (k + 3).toNatClampNeg) + v_11)).2.1, (fX10_makePlace md ch f g k v_9 ((f (k + 2).toNatClampNeg) + v_10) ((f (k + 3).toNatClampNeg) + v_11)).2.2))
abbrev rmX10_moveItem_4 : Room := { frames := 2, cells := 0, slots := 0, locals := 45 }
abbrev qX10_moveItem_4 (D : va_G) (sz : Nat) (h0 : Nat) (h1 : Nat) (h2 : Nat) (cA : ClassId) (cB : ClassId) (cd : Int32) (n : Int32) (md : Int32) (ch : Int32) (sh : Int32) (tp : Int32) (lf : Int32) (bt : Int32) (rt : Int32) (f : Nat → Int32) (g : Nat → Int32) (k : Int32) (hm : Int32) (nh : Int32) (s1 : Int32) (rw : Int32) (cl : Int32) : Array Value → State → Outcome → State → Prop := va_Qv (fun w_9 => ∃ _u : Unit, True ∧ w_9 = [(h0, .inr (8, [.int cd, .int n, .ref h1, .int (fX10_moveItem_4 md ch sh tp lf bt rt f g k hm nh s1 rw cl).1, .ref h2, .int (fX10_moveItem_4 md ch sh tp lf bt rt f g k hm nh s1 rw cl).2.1, .int sh, .int tp, .int lf, .int bt, .int rt])), (h1, .inl (cA, 1000, .inl f)), (h2, .inl (cB, 1000, .inl (fX10_moveItem_4 md ch sh tp lf bt rt f g k hm nh s1 rw cl).2.2))]) (Bq D (va_A [(h0, .inr (8, [.int cd, .int n, .ref h1, .int md, .ref h2, .int ch, .int sh, .int tp, .int lf, .int bt, .int rt])), (h1, .inl (cA, 1000, .inl f)), (h2, .inl (cB, 1000, .inl g))] sz)) (va_A [(h0, .inr (8, [.int cd, .int n, .ref h1, .int md, .ref h2, .int ch, .int sh, .int tp, .int lf, .int bt, .int rt])), (h1, .inl (cA, 1000, .inl f)), (h2, .inl (cB, 1000, .inl g))] sz)
set_option maxHeartbeats 4000000 in
set_option maxRecDepth 100000 in
theorem kX10_moveItem_4 (l : Launch) (D : va_G) (sz : Nat) (h0 : Nat) (h1 : Nat) (h2 : Nat) (cA : ClassId) (cB : ClassId) (cd : Int32) (n : Int32) (md : Int32) (ch : Int32) (sh : Int32) (tp : Int32) (lf : Int32) (bt : Int32) (rt : Int32) (f : Nat → Int32) (g : Nat → Int32) (k : Int32) (hm : Int32) (nh : Int32) (s1 : Int32) (rw : Int32) (cl : Int32) (hl4 : (fX10_lengthAt f k) = 4) (hk : vp_in k 997) (hq : vp_in md 997) : Met l yX10_moveItem wsX10_moveItem rmX10_moveItem_4 (va_Pc [.ref h0, .int k, .int hm, .int nh, .int s1, .int rw, .int cl] (Pw D [(cA, .int), (cB, .int)] [(h0, .inr (8, [.int cd, .int n, .ref h1, .int md, .ref h2, .int ch, .int sh, .int tp, .int lf, .int bt, .int rt])), (h1, .inl (cA, 1000, .inl f)), (h2, .inl (cB, 1000, .inl g))] sz)) (qX10_moveItem_4 D sz h0 h1 h2 cA cB cd n md ch sh tp lf bt rt f g k hm nh s1 rw cl) 0 0 (va_A [(h0, .inr (8, [.int cd, .int n, .ref h1, .int md, .ref h2, .int ch, .int sh, .int tp, .int lf, .int bt, .int rt])), (h1, .inl (cA, 1000, .inl f)), (h2, .inl (cB, 1000, .inl g))] sz) := by
  refine Met.ofW (cc := cX10_moveItem) (maxL := 19) (ret := none) (by decide) rfl ?_
  intro p e s m args below meth c s₁ B hml hv
  obtain ⟨rfl, hsz, hP, hK, hD0, hN⟩ := hv
  have hx := B.exec
  have hb := B.bytes
  have hr := B.returns
  have hts := atoms_spec (ws := wsX10_moveItem) B.pre
  have hown : s.vm.findClass RX10 = some m.cls := findClass_of_methodNamed B.named
  have hlocks := B.notSynchronized
  subst hsz
  obtain ⟨Q, hQe⟩ : ∃ Q, Q = MQ below (qX10_moveItem_4 D s.heap.size h0 h1 h2 cA cB cd n md ch sh tp lf bt rt f g k hm nh s1 rw cl) ([.ref h0, .int k, .int hm, .int nh, .int s1, .int rw, .int cl] : List Value).toArray s 0 0 (va_A [(h0, .inr (8, [.int cd, .int n, .ref h1, .int md, .ref h2, .int ch, .int sh, .int tp, .int lf, .int bt, .int rt])), (h1, .inl (cA, 1000, .inl f)), (h2, .inl (cB, 1000, .inl g))] s.heap.size) := ⟨_, rfl⟩
  rw [← hQe]
  obtain ⟨A, hAe⟩ : ∃ A, A = va_A [(h0, .inr (8, [.int cd, .int n, .ref h1, .int md, .ref h2, .int ch, .int sh, .int tp, .int lf, .int bt, .int rt])), (h1, .inl (cA, 1000, .inl f)), (h2, .inl (cB, 1000, .inl g))] s.heap.size := ⟨_, rfl⟩
  have hD : va_D A [(h0, .inr (8, [.int cd, .int n, .ref h1, .int md, .ref h2, .int ch, .int sh, .int tp, .int lf, .int bt, .int rt])), (h1, .inl (cA, 1000, .inl f)), (h2, .inl (cB, 1000, .inl g))] := by rw [hAe]; exact hD0.self
  have hA : ∀ q : Nat, s.heap.size ≤ q → A q := by rw [hAe]; exact mo_A
  have hS : va_S A s.heap s.heap [] := va_S.rf
  obtain ⟨H, hHe⟩ : ∃ H, H = s.heap := ⟨_, rfl⟩
  obtain ⟨locs, hLe⟩ : ∃ L : List Loc, L = [] := ⟨_, rfl⟩
  have hP : va_P D vwCl [(h0, .inr (8, [.int cd, .int n, .ref h1, .int md, .ref h2, .int ch, .int sh, .int tp, .int lf, .int bt, .int rt])), (h1, .inl (cA, 1000, .inl f)), (h2, .inl (cB, 1000, .inl g))] H := by rw [hHe]; exact hP
  have hS : va_S A s.heap H locs := by rw [hHe, hLe]; exact hS
  have hl := lv_entry ([.ref h0, .int k, .int hm, .int nh, .int s1, .int rw, .int cl]) (n := 19) (Nat.le_of_ble_eq_true rfl)
  rw [lg_entry_eq]
  generalize (lg_sl ([.ref h0, .int k, .int hm, .int nh, .int s1, .int rw, .int cl]) ++ List.replicate (19 - (lg_sl ([.ref h0, .int k, .int hm, .int nh, .int s1, .int rw, .int cl])).length) Slot.unset).toArray = ls at hl ⊢
  have hl : lv_has ls 19 [(0, .ref h0), (1, .int k), (2, .int hm), (3, .int nh), (4, .int s1), (5, .int rw), (6, .int cl)] := hl
  refine hStart hHe hLe ?_
  clear hHe hLe
  have w_X10 : ∀ w ∈ wsX100, w ∈ wsX10_moveItem := by decide +kernel
  have f_7 := hts (.fieldLink RX10 7 "ReferenceMoverModel" "words" "[I") (by decide +kernel)
  have f_16 := hts (.fieldLink RX10 16 "ReferenceMoverModel" "top" "I") (by decide +kernel)
  have f_20 := hts (.fieldLink RX10 20 "ReferenceMoverModel" "left" "I") (by decide +kernel)
  have f_114 := hts (.fieldLink RX10 114 "ReferenceMoverModel" "sheet" "I") (by decide +kernel)
  have f_23 := hts (.fieldLink RX10 23 "ReferenceMoverModel" "bottom" "I") (by decide +kernel)
  have f_26 := hts (.fieldLink RX10 26 "ReferenceMoverModel" "right" "I") (by decide +kernel)
  refine lv_aload_n hx hb dX10_moveItem_0 rfl (lv_at hl 0 rfl) ?_
  refine lv_iload_n hx hb dX10_moveItem_1 rfl (lv_at hl 1 rfl) ?_
  have hPc := hP.sub (ws' := [(h0, .inr (8, [.int cd, .int n, .ref h1, .int md, .ref h2, .int ch, .int sh, .int tp, .int lf, .int bt, .int rt])), (h1, .inl (cA, 1000, .inl f)), (h2, .inl (cB, 1000, .inl g))]) [0, 1, 2] rfl
  have hDc := hD.sub (ws' := [(h0, .inr (8, [.int cd, .int n, .ref h1, .int md, .ref h2, .int ch, .int sh, .int tp, .int lf, .int bt, .int rt])), (h1, .inl (cA, 1000, .inl f)), (h2, .inl (cB, 1000, .inl g))]) [0, 1, 2] (by decide) rfl
  have hKc := hK.sub (tys' := [(cA, .int), (cB, .int)]) [0, 1] rfl
  refine rd_i (va_runV (As := [.int k]) (rest := []) ⟨hx, hb, hml, hown, hts⟩ (kX10_lengthAt l D H.size h0 h1 h2 cA cB cd n md ch sh tp lf bt rt f g k (in_w hk (by decide))) (cwV 1 hts gX10_moveItem_X10_lengthAt rfl rfl rfl (by decide +kernel) ⟨Nat.le_of_ble_eq_true rfl, Nat.le_of_ble_eq_true rfl⟩) ⟨Pw_blind, (va_recv hKc hPc (ci := 8) (q0 := 0) rfl rfl), fun U hU hW => Pw_at hKc hPc hDc hN hU hW⟩ rfl rfl hl.1 rfl (lv_room (Nat.le_of_ble_eq_true rfl)) dX10_moveItem_2 ⟨Nat.le_of_ble_eq_true rfl, Nat.le_of_ble_eq_true rfl⟩) ?_
  refine lv_iconst (v := 4) hx hb dX10_moveItem_5 (by decide) ?_
  refine lv_icmp_ne (tgt := 13) hx hb dX10_moveItem_6 (by decide) (fun h => absurd hl4 h) (fun _ => ?_)
  refine lv_iconst (v := 1) hx hb dX10_moveItem_9 (by decide) ?_
  refine lv_goto (tgt := 14) hx hb dX10_moveItem_10 (by decide) ?_
  refine lv_istore (lv' := [(7, .int 1), (0, .ref h0), (1, .int k), (2, .int hm), (3, .int nh), (4, .int s1), (5, .int rw), (6, .int cl)]) hx hb dX10_moveItem_14 hl (by decide) rfl (fun ls hl => ?_)
  refine lv_aload_n hx hb dX10_moveItem_16 rfl (lv_at hl 1 rfl) ?_
  refine va_get (D := D) (ci := 8) (v := .ref h1) (C := RX10) (T := TX10) (N := 11) hx hb hts w_X10 hown hK hP 0 rfl rfl 2 (by decide) f_7 (fun _ h9 => h9) rfl dX10_moveItem_17 ?_
  refine lv_iload_n hx hb dX10_moveItem_20 rfl (lv_at hl 2 rfl) ?_
  refine lv_iconst (v := 1) hx hb dX10_moveItem_21 (by decide) ?_
  refine lv_iadd hx hb dX10_moveItem_22 ?_
  refine va_iald hx hb hK hP 1 0 rfl rfl (in_add (c := 1) (n := 1000) hk (by decide) (by decide) (by decide)) dX10_moveItem_23 ?_
  have K39_1 : ∀ (v_1 : Int32), v_1 = (if 0 ≤ (f (k + 1).toNatClampNeg) then (f (k + 1).toNatClampNeg) else hm) → ∀ ls : Array Slot, lv_has ls 19 [(0, .ref h0), (1, .int k), (3, .int nh), (4, .int s1), (5, .int rw), (6, .int cl), (7, .int 1)] → W p l e (headSpec wsX10_moveItem rmX10_moveItem_4).room s m ([.ref h0, .int k, .int hm, .int nh, .int s1, .int rw, .int cl] : List Value).toArray below meth c H locs 0 0 Q (F0 m 39 ls [.int v_1]) := by
    intro v_1 ev_1 ls hl
    refine lv_istore (lv' := [(8, .int v_1), (0, .ref h0), (1, .int k), (3, .int nh), (4, .int s1), (5, .int rw), (6, .int cl), (7, .int 1)]) hx hb dX10_moveItem_39 hl (by decide) rfl (fun ls hl => ?_)
    refine lv_aload_n hx hb dX10_moveItem_41 rfl (lv_at hl 1 rfl) ?_
    refine va_get (D := D) (ci := 8) (v := .ref h1) (C := RX10) (T := TX10) (N := 11) hx hb hts w_X10 hown hK hP 0 rfl rfl 2 (by decide) f_7 (fun _ h9 => h9) rfl dX10_moveItem_42 ?_
    refine lv_iload_n hx hb dX10_moveItem_45 rfl (lv_at hl 2 rfl) ?_
    refine lv_iconst (v := 2) hx hb dX10_moveItem_46 (by decide) ?_
    refine lv_iadd hx hb dX10_moveItem_47 ?_
    refine va_iald hx hb hK hP 1 0 rfl rfl (in_add (c := 2) (n := 1000) hk (by decide) (by decide) (by decide)) dX10_moveItem_48 ?_
    refine lv_istore (lv' := [(9, .int (f (k + 2).toNatClampNeg)), (8, .int v_1), (0, .ref h0), (1, .int k), (3, .int nh), (4, .int s1), (5, .int rw), (6, .int cl), (7, .int 1)]) hx hb dX10_moveItem_49 hl (by decide) rfl (fun ls hl => ?_)
    refine lv_aload_n hx hb dX10_moveItem_51 rfl (lv_at hl 2 rfl) ?_
    refine va_get (D := D) (ci := 8) (v := .ref h1) (C := RX10) (T := TX10) (N := 11) hx hb hts w_X10 hown hK hP 0 rfl rfl 2 (by decide) f_7 (fun _ h9 => h9) rfl dX10_moveItem_52 ?_
    refine lv_iload_n hx hb dX10_moveItem_55 rfl (lv_at hl 3 rfl) ?_
    refine lv_iconst (v := 3) hx hb dX10_moveItem_56 (by decide) ?_
    refine lv_iadd hx hb dX10_moveItem_57 ?_
    refine va_iald hx hb hK hP 1 0 rfl rfl (in_add (c := 3) (n := 1000) hk (by decide) (by decide) (by decide)) dX10_moveItem_58 ?_
    refine lv_istore (lv' := [(10, .int (f (k + 3).toNatClampNeg)), (9, .int (f (k + 2).toNatClampNeg)), (8, .int v_1), (0, .ref h0), (1, .int k), (3, .int nh), (4, .int s1), (5, .int rw), (6, .int cl), (7, .int 1)]) hx hb dX10_moveItem_59 hl (by decide) rfl (fun ls hl => ?_)
    refine lv_iload hx hb dX10_moveItem_61 (lv_at hl 9 rfl) ?_
    refine lv_if_eq (tgt := 71) hx hb dX10_moveItem_63 (by decide) (fun h => absurd h (by decide)) (fun _ => ?_)
    refine lv_iload hx hb dX10_moveItem_66 (lv_at hl 1 rfl) ?_
    refine lv_goto (tgt := 79) hx hb dX10_moveItem_68 (by decide) ?_
    refine lv_istore (lv' := [(11, .int (f (k + 2).toNatClampNeg)), (10, .int (f (k + 3).toNatClampNeg)), (9, .int (f (k + 2).toNatClampNeg)), (8, .int v_1), (0, .ref h0), (1, .int k), (3, .int nh), (4, .int s1), (5, .int rw), (6, .int cl), (7, .int 1)]) hx hb dX10_moveItem_79 hl (by decide) rfl (fun ls hl => ?_)
    refine lv_iload hx hb dX10_moveItem_81 (lv_at hl 10 rfl) ?_
    refine lv_if_eq (tgt := 91) hx hb dX10_moveItem_83 (by decide) (fun h => absurd h (by decide)) (fun _ => ?_)
    refine lv_iload hx hb dX10_moveItem_86 (lv_at hl 1 rfl) ?_
    refine lv_goto (tgt := 99) hx hb dX10_moveItem_88 (by decide) ?_
    refine lv_istore (lv' := [(12, .int (f (k + 3).toNatClampNeg)), (11, .int (f (k + 2).toNatClampNeg)), (10, .int (f (k + 3).toNatClampNeg)), (9, .int (f (k + 2).toNatClampNeg)), (8, .int v_1), (0, .ref h0), (1, .int k), (3, .int nh), (4, .int s1), (5, .int rw), (6, .int cl), (7, .int 1)]) hx hb dX10_moveItem_99 hl (by decide) rfl (fun ls hl => ?_)
    refine lv_iload hx hb dX10_moveItem_101 (lv_at hl 9 rfl) ?_
    refine lv_aload_n hx hb dX10_moveItem_103 rfl (lv_at hl 5 rfl) ?_
    refine va_get (D := D) (ci := 8) (v := .int tp) (C := RX10) (T := TX10) (N := 11) hx hb hts w_X10 hown hK hP 0 rfl rfl 7 (by decide) f_16 (fun _ h9 => h9) rfl dX10_moveItem_104 ?_
    refine lv_isub hx hb dX10_moveItem_107 ?_
    refine lv_istore (lv' := [(13, .int (rw - tp)), (12, .int (f (k + 3).toNatClampNeg)), (11, .int (f (k + 2).toNatClampNeg)), (10, .int (f (k + 3).toNatClampNeg)), (9, .int (f (k + 2).toNatClampNeg)), (8, .int v_1), (0, .ref h0), (1, .int k), (3, .int nh), (4, .int s1), (5, .int rw), (6, .int cl), (7, .int 1)]) hx hb dX10_moveItem_108 hl (by decide) rfl (fun ls hl => ?_)
    refine lv_iload hx hb dX10_moveItem_110 (lv_at hl 11 rfl) ?_
    refine lv_aload_n hx hb dX10_moveItem_112 rfl (lv_at hl 6 rfl) ?_
    refine va_get (D := D) (ci := 8) (v := .int lf) (C := RX10) (T := TX10) (N := 11) hx hb hts w_X10 hown hK hP 0 rfl rfl 8 (by decide) f_20 (fun _ h9 => h9) rfl dX10_moveItem_113 ?_
    refine lv_isub hx hb dX10_moveItem_116 ?_
    refine lv_istore (lv' := [(14, .int (cl - lf)), (13, .int (rw - tp)), (12, .int (f (k + 3).toNatClampNeg)), (11, .int (f (k + 2).toNatClampNeg)), (10, .int (f (k + 3).toNatClampNeg)), (9, .int (f (k + 2).toNatClampNeg)), (8, .int v_1), (0, .ref h0), (1, .int k), (3, .int nh), (4, .int s1), (5, .int rw), (6, .int cl), (7, .int 1)]) hx hb dX10_moveItem_117 hl (by decide) rfl (fun ls hl => ?_)
    refine lv_iload hx hb dX10_moveItem_119 (lv_at hl 6 rfl) ?_
    refine lv_aload_n hx hb dX10_moveItem_121 rfl (lv_at hl 7 rfl) ?_
    refine va_get (D := D) (ci := 8) (v := .int sh) (C := RX10) (T := TX10) (N := 11) hx hb hts w_X10 hown hK hP 0 rfl rfl 6 (by decide) f_114 (fun _ h9 => h9) rfl dX10_moveItem_122 ?_
    have K169_2 : ∀ (v_2 : Int32), v_2 = (if v_1 = sh then (if (f (k + 2).toNatClampNeg) < tp then 0 else (if bt < (f (k + 2).toNatClampNeg) then 0 else (if (f (k + 3).toNatClampNeg) < lf then 0 else (if rt < (f (k + 3).toNatClampNeg) then 0 else 1)))) else 0) → ∀ ls : Array Slot, lv_has ls 19 [(0, .ref h0), (1, .int k), (3, .int nh), (4, .int s1), (5, .int rw), (6, .int cl), (7, .int 1), (8, .int v_1), (9, .int (f (k + 2).toNatClampNeg)), (10, .int (f (k + 3).toNatClampNeg)), (11, .int (f (k + 2).toNatClampNeg)), (12, .int (f (k + 3).toNatClampNeg)), (13, .int (rw - tp)), (14, .int (cl - lf))] → W p l e (headSpec wsX10_moveItem rmX10_moveItem_4).room s m ([.ref h0, .int k, .int hm, .int nh, .int s1, .int rw, .int cl] : List Value).toArray below meth c H locs 0 0 Q (F0 m 169 ls [.int v_2]) := by
      intro v_2 ev_2 ls hl
      refine lv_istore (lv' := [(15, .int v_2), (0, .ref h0), (1, .int k), (3, .int nh), (4, .int s1), (5, .int rw), (6, .int cl), (7, .int 1), (8, .int v_1), (9, .int (f (k + 2).toNatClampNeg)), (10, .int (f (k + 3).toNatClampNeg)), (11, .int (f (k + 2).toNatClampNeg)), (12, .int (f (k + 3).toNatClampNeg)), (13, .int (rw - tp)), (14, .int (cl - lf))]) hx hb dX10_moveItem_169 hl (by decide) rfl (fun ls hl => ?_)
      refine lv_iload hx hb dX10_moveItem_171 (lv_at hl 8 rfl) ?_
      refine lv_iload hx hb dX10_moveItem_173 (lv_at hl 4 rfl) ?_
      have K221_3 : ∀ (v_3 : Int32), v_3 = (if v_1 = s1 then (if (f (k + 2).toNatClampNeg) < rw then 0 else (if (bt + (rw - tp)) < (f (k + 2).toNatClampNeg) then 0 else (if (f (k + 3).toNatClampNeg) < cl then 0 else (if (rt + (cl - lf)) < (f (k + 3).toNatClampNeg) then 0 else 1)))) else 0) → ∀ ls : Array Slot, lv_has ls 19 [(0, .ref h0), (1, .int k), (3, .int nh), (4, .int s1), (7, .int 1), (8, .int v_1), (9, .int (f (k + 2).toNatClampNeg)), (10, .int (f (k + 3).toNatClampNeg)), (11, .int (f (k + 2).toNatClampNeg)), (12, .int (f (k + 3).toNatClampNeg)), (13, .int (rw - tp)), (14, .int (cl - lf)), (15, .int v_2)] → W p l e (headSpec wsX10_moveItem rmX10_moveItem_4).room s m ([.ref h0, .int k, .int hm, .int nh, .int s1, .int rw, .int cl] : List Value).toArray below meth c H locs 0 0 Q (F0 m 221 ls [.int v_3]) := by
        intro v_3 ev_3 ls hl
        refine lv_istore (lv' := [(16, .int v_3), (0, .ref h0), (1, .int k), (3, .int nh), (4, .int s1), (7, .int 1), (8, .int v_1), (9, .int (f (k + 2).toNatClampNeg)), (10, .int (f (k + 3).toNatClampNeg)), (11, .int (f (k + 2).toNatClampNeg)), (12, .int (f (k + 3).toNatClampNeg)), (13, .int (rw - tp)), (14, .int (cl - lf)), (15, .int v_2)]) hx hb dX10_moveItem_221 hl (by decide) rfl (fun ls hl => ?_)
        refine lv_iload hx hb dX10_moveItem_223 (lv_at hl 13 rfl) ?_
        refine lv_if_ne (tgt := 238) hx hb dX10_moveItem_225 (by decide) (fun c225 => ?_) (fun c225 => ?_)
        · refine lv_iload hx hb dX10_moveItem_238 (lv_at hl 13 rfl) ?_
          have K250_4 : ∀ (v_4 : Int32), v_4 = (if v_2 = 0 then v_1 else s1) → ∀ ls : Array Slot, lv_has ls 19 [(0, .ref h0), (1, .int k), (3, .int nh), (7, .int 1), (9, .int (f (k + 2).toNatClampNeg)), (10, .int (f (k + 3).toNatClampNeg)), (11, .int (f (k + 2).toNatClampNeg)), (12, .int (f (k + 3).toNatClampNeg)), (13, .int (rw - tp)), (14, .int (cl - lf)), (15, .int v_2)] → W p l e (headSpec wsX10_moveItem rmX10_moveItem_4).room s m ([.ref h0, .int k, .int hm, .int nh, .int s1, .int rw, .int cl] : List Value).toArray below meth c H locs 0 0 Q (F0 m 250 ls [.int v_4]) := by
            intro v_4 ev_4 ls hl
            refine lv_istore (lv' := [(17, .int v_4), (0, .ref h0), (1, .int k), (3, .int nh), (7, .int 1), (9, .int (f (k + 2).toNatClampNeg)), (10, .int (f (k + 3).toNatClampNeg)), (11, .int (f (k + 2).toNatClampNeg)), (12, .int (f (k + 3).toNatClampNeg)), (13, .int (rw - tp)), (14, .int (cl - lf)), (15, .int v_2)]) hx hb dX10_moveItem_250 hl (by decide) rfl (fun ls hl => ?_)
            refine lv_aload_n hx hb dX10_moveItem_252 rfl (lv_at hl 1 rfl) ?_
            refine va_get (D := D) (ci := 8) (v := .ref h1) (C := RX10) (T := TX10) (N := 11) hx hb hts w_X10 hown hK hP 0 rfl rfl 2 (by decide) f_7 (fun _ h9 => h9) rfl dX10_moveItem_253 ?_
            refine lv_iload_n hx hb dX10_moveItem_256 rfl (lv_at hl 2 rfl) ?_
            refine lv_iconst (v := 1) hx hb dX10_moveItem_257 (by decide) ?_
            refine lv_iadd hx hb dX10_moveItem_258 ?_
            refine va_iald hx hb hK hP 1 0 rfl rfl (in_add (c := 1) (n := 1000) hk (by decide) (by decide) (by decide)) dX10_moveItem_259 ?_
            have K275_5 : ∀ (v_5 : Int32), v_5 = (if 0 ≤ (f (k + 1).toNatClampNeg) then v_4 else (if v_4 = nh then (-1) else v_4)) → ∀ ls : Array Slot, lv_has ls 19 [(0, .ref h0), (1, .int k), (7, .int 1), (9, .int (f (k + 2).toNatClampNeg)), (10, .int (f (k + 3).toNatClampNeg)), (11, .int (f (k + 2).toNatClampNeg)), (12, .int (f (k + 3).toNatClampNeg)), (13, .int (rw - tp)), (14, .int (cl - lf)), (15, .int v_2)] → W p l e (headSpec wsX10_moveItem rmX10_moveItem_4).room s m ([.ref h0, .int k, .int hm, .int nh, .int s1, .int rw, .int cl] : List Value).toArray below meth c H locs 0 0 Q (F0 m 275 ls [.int v_5]) := by
              intro v_5 ev_5 ls hl
              refine lv_istore (lv' := [(18, .int v_5), (0, .ref h0), (1, .int k), (7, .int 1), (9, .int (f (k + 2).toNatClampNeg)), (10, .int (f (k + 3).toNatClampNeg)), (11, .int (f (k + 2).toNatClampNeg)), (12, .int (f (k + 3).toNatClampNeg)), (13, .int (rw - tp)), (14, .int (cl - lf)), (15, .int v_2)]) hx hb dX10_moveItem_275 hl (by decide) rfl (fun ls hl => ?_)
              refine lv_iload hx hb dX10_moveItem_277 (lv_at hl 10 rfl) ?_
              have K288_6 : ∀ (v_6 : Int32), v_6 = (if v_2 = 0 then 0 else (rw - tp)) → ∀ (v_7 : Int32), v_7 = (if v_2 = 0 then 0 else (cl - lf)) → ∀ ls : Array Slot, lv_has ls 19 [(0, .ref h0), (1, .int k), (7, .int 1), (9, .int (f (k + 2).toNatClampNeg)), (10, .int (f (k + 3).toNatClampNeg)), (11, .int (f (k + 2).toNatClampNeg)), (12, .int (f (k + 3).toNatClampNeg)), (13, .int v_6), (14, .int v_7), (18, .int v_5)] → W p l e (headSpec wsX10_moveItem rmX10_moveItem_4).room s m ([.ref h0, .int k, .int hm, .int nh, .int s1, .int rw, .int cl] : List Value).toArray below meth c H locs 0 0 Q (F0 m 288 ls []) := by
                intro v_6 ev_6 v_7 ev_7 ls hl
                refine lv_iload hx hb dX10_moveItem_288 (lv_at hl 2 rfl) ?_
                refine lv_if_eq (tgt := 313) hx hb dX10_moveItem_290 (by decide) (fun h => absurd h (by decide)) (fun _ => ?_)
                refine lv_aload_n hx hb dX10_moveItem_293 rfl (lv_at hl 0 rfl) ?_
                refine lv_iload_n hx hb dX10_moveItem_294 rfl (lv_at hl 1 rfl) ?_
                refine lv_iload hx hb dX10_moveItem_295 (lv_at hl 9 rfl) ?_
                refine lv_iload hx hb dX10_moveItem_297 (lv_at hl 3 rfl) ?_
                refine lv_iload hx hb dX10_moveItem_299 (lv_at hl 7 rfl) ?_
                refine lv_iadd hx hb dX10_moveItem_301 ?_
                refine lv_iload hx hb dX10_moveItem_302 (lv_at hl 4 rfl) ?_
                refine lv_iload hx hb dX10_moveItem_304 (lv_at hl 8 rfl) ?_
                refine lv_iadd hx hb dX10_moveItem_306 ?_
                have hPc := hP.sub (ws' := [(h0, .inr (8, [.int cd, .int n, .ref h1, .int md, .ref h2, .int ch, .int sh, .int tp, .int lf, .int bt, .int rt])), (h1, .inl (cA, 1000, .inl f)), (h2, .inl (cB, 1000, .inl g))]) [0, 1, 2] rfl
                have hDc := hD.sub (ws' := [(h0, .inr (8, [.int cd, .int n, .ref h1, .int md, .ref h2, .int ch, .int sh, .int tp, .int lf, .int bt, .int rt])), (h1, .inl (cA, 1000, .inl f)), (h2, .inl (cB, 1000, .inl g))]) [0, 1, 2] (by decide) rfl
                have hKc := hK.sub (tys' := [(cA, .int), (cB, .int)]) [0, 1] rfl
                refine wk_v (β := Unit) (ok := fun _ => True) (wc := [(h0, .inr (8, [.int cd, .int n, .ref h1, .int md, .ref h2, .int ch, .int sh, .int tp, .int lf, .int bt, .int rt])), (h1, .inl (cA, 1000, .inl f)), (h2, .inl (cB, 1000, .inl g))]) (wr := []) (w1 := fun _ => [(h0, .inr (8, [.int cd, .int n, .ref h1, .int (fX10_makePlace md ch f g k v_5 ((f (k + 2).toNatClampNeg) + v_6) ((f (k + 3).toNatClampNeg) + v_7)).1, .ref h2, .int (fX10_makePlace md ch f g k v_5 ((f (k + 2).toNatClampNeg) + v_6) ((f (k + 3).toNatClampNeg) + v_7)).2.1, .int sh, .int tp, .int lf, .int bt, .int rt])), (h1, .inl (cA, 1000, .inl f)), (h2, .inl (cB, 1000, .inl (fX10_makePlace md ch f g k v_5 ((f (k + 2).toNatClampNeg) + v_6) ((f (k + 3).toNatClampNeg) + v_7)).2.2))]) (ws2 := fun _ => [(h0, .inr (8, [.int cd, .int n, .ref h1, .int (fX10_makePlace md ch f g k v_5 ((f (k + 2).toNatClampNeg) + v_6) ((f (k + 3).toNatClampNeg) + v_7)).1, .ref h2, .int (fX10_makePlace md ch f g k v_5 ((f (k + 2).toNatClampNeg) + v_6) ((f (k + 3).toNatClampNeg) + v_7)).2.1, .int sh, .int tp, .int lf, .int bt, .int rt])), (h1, .inl (cA, 1000, .inl f)), (h2, .inl (cB, 1000, .inl (fX10_makePlace md ch f g k v_5 ((f (k + 2).toNatClampNeg) + v_6) ((f (k + 3).toNatClampNeg) + v_7)).2.2))]) (va_runV (As := [.int k, .int v_5, .int ((f (k + 2).toNatClampNeg) + v_6), .int ((f (k + 3).toNatClampNeg) + v_7)]) (rest := []) ⟨hx, hb, hml, hown, hts⟩ (kX10_makePlace l D H.size h0 h1 h2 cA cB cd n md ch sh tp lf bt rt f g k v_5 ((f (k + 2).toNatClampNeg) + v_6) ((f (k + 3).toNatClampNeg) + v_7) hk hq) (cwV 4 hts gX10_moveItem_X10_makePlace rfl rfl rfl (by decide +kernel) ⟨Nat.le_of_ble_eq_true rfl, Nat.le_of_ble_eq_true rfl⟩) ⟨Pw_blind, (va_recv hKc hPc (ci := 8) (q0 := 0) rfl rfl), fun U hU hW => Pw_at hKc hPc hDc hN hU hW⟩ rfl rfl hl.1 rfl (lv_room (Nat.le_of_ble_eq_true rfl)) dX10_moveItem_307 ⟨Nat.le_of_ble_eq_true rfl, Nat.le_of_ble_eq_true rfl⟩) hP hD hS hA [0, 1, 2] [] [0, 1, 2] rfl rfl (by decide) (by decide) (fun _ => rfl) (by decide) (fun _ _ H locs hP hD hS => ?_)
                have hP : va_P D vwCl [(h0, .inr (8, [.int cd, .int n, .ref h1, .int (fX10_makePlace md ch f g k v_5 ((f (k + 2).toNatClampNeg) + v_6) ((f (k + 3).toNatClampNeg) + v_7)).1, .ref h2, .int (fX10_makePlace md ch f g k v_5 ((f (k + 2).toNatClampNeg) + v_6) ((f (k + 3).toNatClampNeg) + v_7)).2.1, .int sh, .int tp, .int lf, .int bt, .int rt])), (h1, .inl (cA, 1000, .inl f)), (h2, .inl (cB, 1000, .inl (fX10_makePlace md ch f g k v_5 ((f (k + 2).toNatClampNeg) + v_6) ((f (k + 3).toNatClampNeg) + v_7)).2.2))] H := hP
                have hD : va_D A [(h0, .inr (8, [.int cd, .int n, .ref h1, .int (fX10_makePlace md ch f g k v_5 ((f (k + 2).toNatClampNeg) + v_6) ((f (k + 3).toNatClampNeg) + v_7)).1, .ref h2, .int (fX10_makePlace md ch f g k v_5 ((f (k + 2).toNatClampNeg) + v_6) ((f (k + 3).toNatClampNeg) + v_7)).2.1, .int sh, .int tp, .int lf, .int bt, .int rt])), (h1, .inl (cA, 1000, .inl f)), (h2, .inl (cB, 1000, .inl (fX10_makePlace md ch f g k v_5 ((f (k + 2).toNatClampNeg) + v_6) ((f (k + 3).toNatClampNeg) + v_7)).2.2))] := hD
                refine lv_goto (tgt := 349) hx hb dX10_moveItem_310 (by decide) ?_
                have hF : (fX10_moveItem_4 md ch sh tp lf bt rt f g k hm nh s1 rw cl) = ((fX10_makePlace md ch f g k v_5 ((f (k + 2).toNatClampNeg) + v_6) ((f (k + 3).toNatClampNeg) + v_7)).1, (fX10_makePlace md ch f g k v_5 ((f (k + 2).toNatClampNeg) + v_6) ((f (k + 3).toNatClampNeg) + v_7)).2.1, (fX10_makePlace md ch f g k v_5 ((f (k + 2).toNatClampNeg) + v_6) ((f (k + 3).toNatClampNeg) + v_7)).2.2) := by subst ev_7; subst ev_6; subst ev_5; subst ev_4; subst ev_3; subst ev_2; subst ev_1; exact (if_neg c225)
                subst hAe
                subst hQe
                exact W.vret hx hb hr (fun t ht hW => ⟨⟨_, rfl, ⟨(), trivial, by rw [hF]⟩, by rw [ht]; exact hP, hD⟩, hS.F ht⟩) hS.2.2 dX10_moveItem_349
              refine lv_if_ne (tgt := 288) hx hb dX10_moveItem_279 (by decide) (fun c279 => ?_) (fun c279 => ?_)
              · exact K288_6 _ (if_neg c279).symm _ (if_neg c279).symm ls (lv_sub hl [1, 2, 3, 4, 5, 6, 7, 8, 9, 0] rfl)
              · refine lv_iconst (v := 0) hx hb dX10_moveItem_282 (by decide) ?_
                refine lv_istore (lv' := [(13, .int 0), (18, .int v_5), (0, .ref h0), (1, .int k), (7, .int 1), (9, .int (f (k + 2).toNatClampNeg)), (10, .int (f (k + 3).toNatClampNeg)), (11, .int (f (k + 2).toNatClampNeg)), (12, .int (f (k + 3).toNatClampNeg)), (14, .int (cl - lf)), (15, .int v_2)]) hx hb dX10_moveItem_283 hl (by decide) rfl (fun ls hl => ?_)
                refine lv_iconst (v := 0) hx hb dX10_moveItem_285 (by decide) ?_
                refine lv_istore (lv' := [(14, .int 0), (13, .int 0), (18, .int v_5), (0, .ref h0), (1, .int k), (7, .int 1), (9, .int (f (k + 2).toNatClampNeg)), (10, .int (f (k + 3).toNatClampNeg)), (11, .int (f (k + 2).toNatClampNeg)), (12, .int (f (k + 3).toNatClampNeg)), (15, .int v_2)]) hx hb dX10_moveItem_286 hl (by decide) rfl (fun ls hl => ?_)
                exact K288_6 _ (if_pos c279).symm _ (if_pos c279).symm ls (lv_sub hl [3, 4, 5, 6, 7, 8, 9, 1, 0, 2] rfl)
            refine lv_if_ge (tgt := 273) hx hb dX10_moveItem_260 (by decide) (fun c260 => ?_) (fun c260 => ?_)
            · refine lv_iload hx hb dX10_moveItem_273 (lv_at hl 0 rfl) ?_
              exact K275_5 _ (if_pos c260).symm ls (lv_sub hl [1, 2, 4, 5, 6, 7, 8, 9, 10, 11] rfl)
            · refine lv_iload hx hb dX10_moveItem_263 (lv_at hl 0 rfl) ?_
              refine lv_iload_n hx hb dX10_moveItem_265 rfl (lv_at hl 3 rfl) ?_
              refine lv_icmp_ne (tgt := 273) hx hb dX10_moveItem_266 (by decide) (fun c266 => ?_) (fun c266 => ?_)
              · refine lv_iload hx hb dX10_moveItem_273 (lv_at hl 0 rfl) ?_
                exact K275_5 _ ((if_neg c260).trans (if_neg c266)).symm ls (lv_sub hl [1, 2, 4, 5, 6, 7, 8, 9, 10, 11] rfl)
              · refine lv_iconst (v := (-1)) hx hb dX10_moveItem_269 (by decide) ?_
                refine lv_goto (tgt := 275) hx hb dX10_moveItem_270 (by decide) ?_
                exact K275_5 _ ((if_neg c260).trans (if_pos c266)).symm ls (lv_sub hl [1, 2, 4, 5, 6, 7, 8, 9, 10, 11] rfl)
          refine lv_if_eq (tgt := 248) hx hb dX10_moveItem_240 (by decide) (fun c240 => ?_) (fun c240 => ?_)
          · refine lv_iload hx hb dX10_moveItem_248 (lv_at hl 6 rfl) ?_
            exact K250_4 _ (if_pos c240).symm ls (lv_sub hl [1, 2, 3, 5, 7, 8, 9, 10, 11, 12, 13] rfl)
          · refine lv_iload hx hb dX10_moveItem_243 (lv_at hl 4 rfl) ?_
            refine lv_goto (tgt := 250) hx hb dX10_moveItem_245 (by decide) ?_
            exact K250_4 _ (if_neg c240).symm ls (lv_sub hl [1, 2, 3, 5, 7, 8, 9, 10, 11, 12, 13] rfl)
        · refine lv_iload hx hb dX10_moveItem_228 (lv_at hl 0 rfl) ?_
          refine lv_if_eq (tgt := 238) hx hb dX10_moveItem_230 (by decide) (fun c230 => ?_) (fun c230 => ?_)
          · refine lv_iload hx hb dX10_moveItem_238 (lv_at hl 13 rfl) ?_
            have K250_7 : ∀ (v_8 : Int32), v_8 = (if v_2 = 0 then v_1 else s1) → ∀ ls : Array Slot, lv_has ls 19 [(0, .ref h0), (1, .int k), (3, .int nh), (7, .int 1), (9, .int (f (k + 2).toNatClampNeg)), (10, .int (f (k + 3).toNatClampNeg)), (11, .int (f (k + 2).toNatClampNeg)), (12, .int (f (k + 3).toNatClampNeg)), (13, .int (rw - tp)), (14, .int (cl - lf)), (15, .int v_2)] → W p l e (headSpec wsX10_moveItem rmX10_moveItem_4).room s m ([.ref h0, .int k, .int hm, .int nh, .int s1, .int rw, .int cl] : List Value).toArray below meth c H locs 0 0 Q (F0 m 250 ls [.int v_8]) := by
              intro v_8 ev_8 ls hl
              refine lv_istore (lv' := [(17, .int v_8), (0, .ref h0), (1, .int k), (3, .int nh), (7, .int 1), (9, .int (f (k + 2).toNatClampNeg)), (10, .int (f (k + 3).toNatClampNeg)), (11, .int (f (k + 2).toNatClampNeg)), (12, .int (f (k + 3).toNatClampNeg)), (13, .int (rw - tp)), (14, .int (cl - lf)), (15, .int v_2)]) hx hb dX10_moveItem_250 hl (by decide) rfl (fun ls hl => ?_)
              refine lv_aload_n hx hb dX10_moveItem_252 rfl (lv_at hl 1 rfl) ?_
              refine va_get (D := D) (ci := 8) (v := .ref h1) (C := RX10) (T := TX10) (N := 11) hx hb hts w_X10 hown hK hP 0 rfl rfl 2 (by decide) f_7 (fun _ h9 => h9) rfl dX10_moveItem_253 ?_
              refine lv_iload_n hx hb dX10_moveItem_256 rfl (lv_at hl 2 rfl) ?_
              refine lv_iconst (v := 1) hx hb dX10_moveItem_257 (by decide) ?_
              refine lv_iadd hx hb dX10_moveItem_258 ?_
              refine va_iald hx hb hK hP 1 0 rfl rfl (in_add (c := 1) (n := 1000) hk (by decide) (by decide) (by decide)) dX10_moveItem_259 ?_
              have K275_8 : ∀ (v_9 : Int32), v_9 = (if 0 ≤ (f (k + 1).toNatClampNeg) then v_8 else (if v_8 = nh then (-1) else v_8)) → ∀ ls : Array Slot, lv_has ls 19 [(0, .ref h0), (1, .int k), (7, .int 1), (9, .int (f (k + 2).toNatClampNeg)), (10, .int (f (k + 3).toNatClampNeg)), (11, .int (f (k + 2).toNatClampNeg)), (12, .int (f (k + 3).toNatClampNeg)), (13, .int (rw - tp)), (14, .int (cl - lf)), (15, .int v_2)] → W p l e (headSpec wsX10_moveItem rmX10_moveItem_4).room s m ([.ref h0, .int k, .int hm, .int nh, .int s1, .int rw, .int cl] : List Value).toArray below meth c H locs 0 0 Q (F0 m 275 ls [.int v_9]) := by
                intro v_9 ev_9 ls hl
                refine lv_istore (lv' := [(18, .int v_9), (0, .ref h0), (1, .int k), (7, .int 1), (9, .int (f (k + 2).toNatClampNeg)), (10, .int (f (k + 3).toNatClampNeg)), (11, .int (f (k + 2).toNatClampNeg)), (12, .int (f (k + 3).toNatClampNeg)), (13, .int (rw - tp)), (14, .int (cl - lf)), (15, .int v_2)]) hx hb dX10_moveItem_275 hl (by decide) rfl (fun ls hl => ?_)
                refine lv_iload hx hb dX10_moveItem_277 (lv_at hl 10 rfl) ?_
                have K288_9 : ∀ (v_10 : Int32), v_10 = (if v_2 = 0 then 0 else (rw - tp)) → ∀ (v_11 : Int32), v_11 = (if v_2 = 0 then 0 else (cl - lf)) → ∀ ls : Array Slot, lv_has ls 19 [(0, .ref h0), (1, .int k), (7, .int 1), (9, .int (f (k + 2).toNatClampNeg)), (10, .int (f (k + 3).toNatClampNeg)), (11, .int (f (k + 2).toNatClampNeg)), (12, .int (f (k + 3).toNatClampNeg)), (13, .int v_10), (14, .int v_11), (18, .int v_9)] → W p l e (headSpec wsX10_moveItem rmX10_moveItem_4).room s m ([.ref h0, .int k, .int hm, .int nh, .int s1, .int rw, .int cl] : List Value).toArray below meth c H locs 0 0 Q (F0 m 288 ls []) := by
                  intro v_10 ev_10 v_11 ev_11 ls hl
                  refine lv_iload hx hb dX10_moveItem_288 (lv_at hl 2 rfl) ?_
                  refine lv_if_eq (tgt := 313) hx hb dX10_moveItem_290 (by decide) (fun h => absurd h (by decide)) (fun _ => ?_)
                  refine lv_aload_n hx hb dX10_moveItem_293 rfl (lv_at hl 0 rfl) ?_
                  refine lv_iload_n hx hb dX10_moveItem_294 rfl (lv_at hl 1 rfl) ?_
                  refine lv_iload hx hb dX10_moveItem_295 (lv_at hl 9 rfl) ?_
                  refine lv_iload hx hb dX10_moveItem_297 (lv_at hl 3 rfl) ?_
                  refine lv_iload hx hb dX10_moveItem_299 (lv_at hl 7 rfl) ?_
                  refine lv_iadd hx hb dX10_moveItem_301 ?_
                  refine lv_iload hx hb dX10_moveItem_302 (lv_at hl 4 rfl) ?_
                  refine lv_iload hx hb dX10_moveItem_304 (lv_at hl 8 rfl) ?_
                  refine lv_iadd hx hb dX10_moveItem_306 ?_
                  have hPc := hP.sub (ws' := [(h0, .inr (8, [.int cd, .int n, .ref h1, .int md, .ref h2, .int ch, .int sh, .int tp, .int lf, .int bt, .int rt])), (h1, .inl (cA, 1000, .inl f)), (h2, .inl (cB, 1000, .inl g))]) [0, 1, 2] rfl
                  have hDc := hD.sub (ws' := [(h0, .inr (8, [.int cd, .int n, .ref h1, .int md, .ref h2, .int ch, .int sh, .int tp, .int lf, .int bt, .int rt])), (h1, .inl (cA, 1000, .inl f)), (h2, .inl (cB, 1000, .inl g))]) [0, 1, 2] (by decide) rfl
                  have hKc := hK.sub (tys' := [(cA, .int), (cB, .int)]) [0, 1] rfl
                  refine wk_v (β := Unit) (ok := fun _ => True) (wc := [(h0, .inr (8, [.int cd, .int n, .ref h1, .int md, .ref h2, .int ch, .int sh, .int tp, .int lf, .int bt, .int rt])), (h1, .inl (cA, 1000, .inl f)), (h2, .inl (cB, 1000, .inl g))]) (wr := []) (w1 := fun _ => [(h0, .inr (8, [.int cd, .int n, .ref h1, .int (fX10_makePlace md ch f g k v_9 ((f (k + 2).toNatClampNeg) + v_10) ((f (k + 3).toNatClampNeg) + v_11)).1, .ref h2, .int (fX10_makePlace md ch f g k v_9 ((f (k + 2).toNatClampNeg) + v_10) ((f (k + 3).toNatClampNeg) + v_11)).2.1, .int sh, .int tp, .int lf, .int bt, .int rt])), (h1, .inl (cA, 1000, .inl f)), (h2, .inl (cB, 1000, .inl (fX10_makePlace md ch f g k v_9 ((f (k + 2).toNatClampNeg) + v_10) ((f (k + 3).toNatClampNeg) + v_11)).2.2))]) (ws2 := fun _ => [(h0, .inr (8, [.int cd, .int n, .ref h1, .int (fX10_makePlace md ch f g k v_9 ((f (k + 2).toNatClampNeg) + v_10) ((f (k + 3).toNatClampNeg) + v_11)).1, .ref h2, .int (fX10_makePlace md ch f g k v_9 ((f (k + 2).toNatClampNeg) + v_10) ((f (k + 3).toNatClampNeg) + v_11)).2.1, .int sh, .int tp, .int lf, .int bt, .int rt])), (h1, .inl (cA, 1000, .inl f)), (h2, .inl (cB, 1000, .inl (fX10_makePlace md ch f g k v_9 ((f (k + 2).toNatClampNeg) + v_10) ((f (k + 3).toNatClampNeg) + v_11)).2.2))]) (va_runV (As := [.int k, .int v_9, .int ((f (k + 2).toNatClampNeg) + v_10), .int ((f (k + 3).toNatClampNeg) + v_11)]) (rest := []) ⟨hx, hb, hml, hown, hts⟩ (kX10_makePlace l D H.size h0 h1 h2 cA cB cd n md ch sh tp lf bt rt f g k v_9 ((f (k + 2).toNatClampNeg) + v_10) ((f (k + 3).toNatClampNeg) + v_11) hk hq) (cwV 4 hts gX10_moveItem_X10_makePlace rfl rfl rfl (by decide +kernel) ⟨Nat.le_of_ble_eq_true rfl, Nat.le_of_ble_eq_true rfl⟩) ⟨Pw_blind, (va_recv hKc hPc (ci := 8) (q0 := 0) rfl rfl), fun U hU hW => Pw_at hKc hPc hDc hN hU hW⟩ rfl rfl hl.1 rfl (lv_room (Nat.le_of_ble_eq_true rfl)) dX10_moveItem_307 ⟨Nat.le_of_ble_eq_true rfl, Nat.le_of_ble_eq_true rfl⟩) hP hD hS hA [0, 1, 2] [] [0, 1, 2] rfl rfl (by decide) (by decide) (fun _ => rfl) (by decide) (fun _ _ H locs hP hD hS => ?_)
                  have hP : va_P D vwCl [(h0, .inr (8, [.int cd, .int n, .ref h1, .int (fX10_makePlace md ch f g k v_9 ((f (k + 2).toNatClampNeg) + v_10) ((f (k + 3).toNatClampNeg) + v_11)).1, .ref h2, .int (fX10_makePlace md ch f g k v_9 ((f (k + 2).toNatClampNeg) + v_10) ((f (k + 3).toNatClampNeg) + v_11)).2.1, .int sh, .int tp, .int lf, .int bt, .int rt])), (h1, .inl (cA, 1000, .inl f)), (h2, .inl (cB, 1000, .inl (fX10_makePlace md ch f g k v_9 ((f (k + 2).toNatClampNeg) + v_10) ((f (k + 3).toNatClampNeg) + v_11)).2.2))] H := hP
                  have hD : va_D A [(h0, .inr (8, [.int cd, .int n, .ref h1, .int (fX10_makePlace md ch f g k v_9 ((f (k + 2).toNatClampNeg) + v_10) ((f (k + 3).toNatClampNeg) + v_11)).1, .ref h2, .int (fX10_makePlace md ch f g k v_9 ((f (k + 2).toNatClampNeg) + v_10) ((f (k + 3).toNatClampNeg) + v_11)).2.1, .int sh, .int tp, .int lf, .int bt, .int rt])), (h1, .inl (cA, 1000, .inl f)), (h2, .inl (cB, 1000, .inl (fX10_makePlace md ch f g k v_9 ((f (k + 2).toNatClampNeg) + v_10) ((f (k + 3).toNatClampNeg) + v_11)).2.2))] := hD
                  refine lv_goto (tgt := 349) hx hb dX10_moveItem_310 (by decide) ?_
                  have hF : (fX10_moveItem_4 md ch sh tp lf bt rt f g k hm nh s1 rw cl) = ((fX10_makePlace md ch f g k v_9 ((f (k + 2).toNatClampNeg) + v_10) ((f (k + 3).toNatClampNeg) + v_11)).1, (fX10_makePlace md ch f g k v_9 ((f (k + 2).toNatClampNeg) + v_10) ((f (k + 3).toNatClampNeg) + v_11)).2.1, (fX10_makePlace md ch f g k v_9 ((f (k + 2).toNatClampNeg) + v_10) ((f (k + 3).toNatClampNeg) + v_11)).2.2) := by subst ev_11; subst ev_10; subst ev_9; subst ev_8; subst ev_3; subst ev_2; subst ev_1; exact ((if_pos c225).trans (if_pos c230))
                  subst hAe
                  subst hQe
                  exact W.vret hx hb hr (fun t ht hW => ⟨⟨_, rfl, ⟨(), trivial, by rw [hF]⟩, by rw [ht]; exact hP, hD⟩, hS.F ht⟩) hS.2.2 dX10_moveItem_349
                refine lv_if_ne (tgt := 288) hx hb dX10_moveItem_279 (by decide) (fun c279 => ?_) (fun c279 => ?_)
                · exact K288_9 _ (if_neg c279).symm _ (if_neg c279).symm ls (lv_sub hl [1, 2, 3, 4, 5, 6, 7, 8, 9, 0] rfl)
                · refine lv_iconst (v := 0) hx hb dX10_moveItem_282 (by decide) ?_
                  refine lv_istore (lv' := [(13, .int 0), (18, .int v_9), (0, .ref h0), (1, .int k), (7, .int 1), (9, .int (f (k + 2).toNatClampNeg)), (10, .int (f (k + 3).toNatClampNeg)), (11, .int (f (k + 2).toNatClampNeg)), (12, .int (f (k + 3).toNatClampNeg)), (14, .int (cl - lf)), (15, .int v_2)]) hx hb dX10_moveItem_283 hl (by decide) rfl (fun ls hl => ?_)
                  refine lv_iconst (v := 0) hx hb dX10_moveItem_285 (by decide) ?_
                  refine lv_istore (lv' := [(14, .int 0), (13, .int 0), (18, .int v_9), (0, .ref h0), (1, .int k), (7, .int 1), (9, .int (f (k + 2).toNatClampNeg)), (10, .int (f (k + 3).toNatClampNeg)), (11, .int (f (k + 2).toNatClampNeg)), (12, .int (f (k + 3).toNatClampNeg)), (15, .int v_2)]) hx hb dX10_moveItem_286 hl (by decide) rfl (fun ls hl => ?_)
                  exact K288_9 _ (if_pos c279).symm _ (if_pos c279).symm ls (lv_sub hl [3, 4, 5, 6, 7, 8, 9, 1, 0, 2] rfl)
              refine lv_if_ge (tgt := 273) hx hb dX10_moveItem_260 (by decide) (fun c260 => ?_) (fun c260 => ?_)
              · refine lv_iload hx hb dX10_moveItem_273 (lv_at hl 0 rfl) ?_
                exact K275_8 _ (if_pos c260).symm ls (lv_sub hl [1, 2, 4, 5, 6, 7, 8, 9, 10, 11] rfl)
              · refine lv_iload hx hb dX10_moveItem_263 (lv_at hl 0 rfl) ?_
                refine lv_iload_n hx hb dX10_moveItem_265 rfl (lv_at hl 3 rfl) ?_
                refine lv_icmp_ne (tgt := 273) hx hb dX10_moveItem_266 (by decide) (fun c266 => ?_) (fun c266 => ?_)
                · refine lv_iload hx hb dX10_moveItem_273 (lv_at hl 0 rfl) ?_
                  exact K275_8 _ ((if_neg c260).trans (if_neg c266)).symm ls (lv_sub hl [1, 2, 4, 5, 6, 7, 8, 9, 10, 11] rfl)
                · refine lv_iconst (v := (-1)) hx hb dX10_moveItem_269 (by decide) ?_
                  refine lv_goto (tgt := 275) hx hb dX10_moveItem_270 (by decide) ?_
                  exact K275_8 _ ((if_neg c260).trans (if_pos c266)).symm ls (lv_sub hl [1, 2, 4, 5, 6, 7, 8, 9, 10, 11] rfl)
            refine lv_if_eq (tgt := 248) hx hb dX10_moveItem_240 (by decide) (fun c240 => ?_) (fun c240 => ?_)
            · refine lv_iload hx hb dX10_moveItem_248 (lv_at hl 6 rfl) ?_
              exact K250_7 _ (if_pos c240).symm ls (lv_sub hl [1, 2, 3, 5, 7, 8, 9, 10, 11, 12, 13] rfl)
            · refine lv_iload hx hb dX10_moveItem_243 (lv_at hl 4 rfl) ?_
              refine lv_goto (tgt := 250) hx hb dX10_moveItem_245 (by decide) ?_
              exact K250_7 _ (if_neg c240).symm ls (lv_sub hl [1, 2, 3, 5, 7, 8, 9, 10, 11, 12, 13] rfl)
          · refine lv_aload_n hx hb dX10_moveItem_233 rfl (lv_at hl 1 rfl) ?_
            have hPc := hP.sub (ws' := [(h0, .inr (8, [.int cd, .int n, .ref h1, .int md, .ref h2, .int ch, .int sh, .int tp, .int lf, .int bt, .int rt])), (h1, .inl (cA, 1000, .inl f)), (h2, .inl (cB, 1000, .inl g))]) [0, 1, 2] rfl
            have hDc := hD.sub (ws' := [(h0, .inr (8, [.int cd, .int n, .ref h1, .int md, .ref h2, .int ch, .int sh, .int tp, .int lf, .int bt, .int rt])), (h1, .inl (cA, 1000, .inl f)), (h2, .inl (cB, 1000, .inl g))]) [0, 1, 2] (by decide) rfl
            have hKc := hK.sub (tys' := [(cA, .int), (cB, .int)]) [0, 1] rfl
            refine wk_v (β := Unit) (ok := fun _ => True) (wc := [(h0, .inr (8, [.int cd, .int n, .ref h1, .int md, .ref h2, .int ch, .int sh, .int tp, .int lf, .int bt, .int rt])), (h1, .inl (cA, 1000, .inl f)), (h2, .inl (cB, 1000, .inl g))]) (wr := []) (w1 := fun _ => [(h0, .inr (8, [.int cd, .int n, .ref h1, .int (md + 1), .ref h2, .int (ch + 1), .int sh, .int tp, .int lf, .int bt, .int rt])), (h1, .inl (cA, 1000, .inl f)), (h2, .inl (cB, 1000, .inl (upd g md.toNatClampNeg 67)))]) (ws2 := fun _ => [(h0, .inr (8, [.int cd, .int n, .ref h1, .int (md + 1), .ref h2, .int (ch + 1), .int sh, .int tp, .int lf, .int bt, .int rt])), (h1, .inl (cA, 1000, .inl f)), (h2, .inl (cB, 1000, .inl (upd g md.toNatClampNeg 67)))]) (va_runV (As := []) (rest := []) ⟨hx, hb, hml, hown, hts⟩ (kX10_lose l D H.size h0 h1 h2 cA cB cd n md ch sh tp lf bt rt f g (in_w hq (by decide))) (cwV 0 hts gX10_moveItem_X10_lose rfl rfl rfl (by decide +kernel) ⟨Nat.le_of_ble_eq_true rfl, Nat.le_of_ble_eq_true rfl⟩) ⟨Pw_blind, (va_recv hKc hPc (ci := 8) (q0 := 0) rfl rfl), fun U hU hW => Pw_at hKc hPc hDc hN hU hW⟩ rfl rfl hl.1 rfl (lv_room (Nat.le_of_ble_eq_true rfl)) dX10_moveItem_234 ⟨Nat.le_of_ble_eq_true rfl, Nat.le_of_ble_eq_true rfl⟩) hP hD hS hA [0, 1, 2] [] [0, 1, 2] rfl rfl (by decide) (by decide) (fun _ => rfl) (by decide) (fun _ _ H locs hP hD hS => ?_)
            have hP : va_P D vwCl [(h0, .inr (8, [.int cd, .int n, .ref h1, .int (md + 1), .ref h2, .int (ch + 1), .int sh, .int tp, .int lf, .int bt, .int rt])), (h1, .inl (cA, 1000, .inl f)), (h2, .inl (cB, 1000, .inl (upd g md.toNatClampNeg 67)))] H := hP
            have hD : va_D A [(h0, .inr (8, [.int cd, .int n, .ref h1, .int (md + 1), .ref h2, .int (ch + 1), .int sh, .int tp, .int lf, .int bt, .int rt])), (h1, .inl (cA, 1000, .inl f)), (h2, .inl (cB, 1000, .inl (upd g md.toNatClampNeg 67)))] := hD
            have hF : (fX10_moveItem_4 md ch sh tp lf bt rt f g k hm nh s1 rw cl) = ((md + 1), (ch + 1), (upd g md.toNatClampNeg 67)) := by subst ev_3; subst ev_2; subst ev_1; exact ((if_pos c225).trans (if_neg c230))
            subst hAe
            subst hQe
            exact W.vret hx hb hr (fun t ht hW => ⟨⟨_, rfl, ⟨(), trivial, by rw [hF]⟩, by rw [ht]; exact hP, hD⟩, hS.F ht⟩) hS.2.2 dX10_moveItem_237
      refine lv_icmp_ne (tgt := 220) hx hb dX10_moveItem_175 (by decide) (fun c175 => ?_) (fun c175 => ?_)
      · refine lv_iconst (v := 0) hx hb dX10_moveItem_220 (by decide) ?_
        exact K221_3 _ (if_neg c175).symm ls (lv_sub hl [1, 2, 3, 4, 7, 8, 9, 10, 11, 12, 13, 14, 0] rfl)
      · refine lv_iload hx hb dX10_moveItem_178 (lv_at hl 9 rfl) ?_
        refine lv_iload hx hb dX10_moveItem_180 (lv_at hl 5 rfl) ?_
        refine lv_icmp_lt (tgt := 220) hx hb dX10_moveItem_182 (by decide) (fun c182 => ?_) (fun c182 => ?_)
        · refine lv_iconst (v := 0) hx hb dX10_moveItem_220 (by decide) ?_
          exact K221_3 _ ((if_pos c175).trans (if_pos c182)).symm ls (lv_sub hl [1, 2, 3, 4, 7, 8, 9, 10, 11, 12, 13, 14, 0] rfl)
        · refine lv_iload hx hb dX10_moveItem_185 (lv_at hl 11 rfl) ?_
          refine lv_aload_n hx hb dX10_moveItem_187 rfl (lv_at hl 1 rfl) ?_
          refine va_get (D := D) (ci := 8) (v := .int bt) (C := RX10) (T := TX10) (N := 11) hx hb hts w_X10 hown hK hP 0 rfl rfl 9 (by decide) f_23 (fun _ h9 => h9) rfl dX10_moveItem_188 ?_
          refine lv_iload hx hb dX10_moveItem_191 (lv_at hl 13 rfl) ?_
          refine lv_iadd hx hb dX10_moveItem_193 ?_
          refine lv_icmp_gt (tgt := 220) hx hb dX10_moveItem_194 (by decide) (fun c194 => ?_) (fun c194 => ?_)
          · refine lv_iconst (v := 0) hx hb dX10_moveItem_220 (by decide) ?_
            exact K221_3 _ ((if_pos c175).trans ((if_neg c182).trans (if_pos c194))).symm ls (lv_sub hl [1, 2, 3, 4, 7, 8, 9, 10, 11, 12, 13, 14, 0] rfl)
          · refine lv_iload hx hb dX10_moveItem_197 (lv_at hl 10 rfl) ?_
            refine lv_iload hx hb dX10_moveItem_199 (lv_at hl 6 rfl) ?_
            refine lv_icmp_lt (tgt := 220) hx hb dX10_moveItem_201 (by decide) (fun c201 => ?_) (fun c201 => ?_)
            · refine lv_iconst (v := 0) hx hb dX10_moveItem_220 (by decide) ?_
              exact K221_3 _ ((if_pos c175).trans ((if_neg c182).trans ((if_neg c194).trans (if_pos c201)))).symm ls (lv_sub hl [1, 2, 3, 4, 7, 8, 9, 10, 11, 12, 13, 14, 0] rfl)
            · refine lv_iload hx hb dX10_moveItem_204 (lv_at hl 12 rfl) ?_
              refine lv_aload_n hx hb dX10_moveItem_206 rfl (lv_at hl 1 rfl) ?_
              refine va_get (D := D) (ci := 8) (v := .int rt) (C := RX10) (T := TX10) (N := 11) hx hb hts w_X10 hown hK hP 0 rfl rfl 10 (by decide) f_26 (fun _ h9 => h9) rfl dX10_moveItem_207 ?_
              refine lv_iload hx hb dX10_moveItem_210 (lv_at hl 14 rfl) ?_
              refine lv_iadd hx hb dX10_moveItem_212 ?_
              refine lv_icmp_gt (tgt := 220) hx hb dX10_moveItem_213 (by decide) (fun c213 => ?_) (fun c213 => ?_)
              · refine lv_iconst (v := 0) hx hb dX10_moveItem_220 (by decide) ?_
                exact K221_3 _ ((if_pos c175).trans ((if_neg c182).trans ((if_neg c194).trans ((if_neg c201).trans (if_pos c213))))).symm ls (lv_sub hl [1, 2, 3, 4, 7, 8, 9, 10, 11, 12, 13, 14, 0] rfl)
              · refine lv_iconst (v := 1) hx hb dX10_moveItem_216 (by decide) ?_
                refine lv_goto (tgt := 221) hx hb dX10_moveItem_217 (by decide) ?_
                exact K221_3 _ ((if_pos c175).trans ((if_neg c182).trans ((if_neg c194).trans ((if_neg c201).trans (if_neg c213))))).symm ls (lv_sub hl [1, 2, 3, 4, 7, 8, 9, 10, 11, 12, 13, 14, 0] rfl)
    refine lv_icmp_ne (tgt := 168) hx hb dX10_moveItem_125 (by decide) (fun c125 => ?_) (fun c125 => ?_)
    · refine lv_iconst (v := 0) hx hb dX10_moveItem_168 (by decide) ?_
      exact K169_2 _ (if_neg c125).symm ls (lv_sub hl [7, 8, 9, 10, 11, 12, 13, 6, 5, 4, 3, 2, 1, 0] rfl)
    · refine lv_iload hx hb dX10_moveItem_128 (lv_at hl 5 rfl) ?_
      refine lv_aload_n hx hb dX10_moveItem_130 rfl (lv_at hl 7 rfl) ?_
      refine va_get (D := D) (ci := 8) (v := .int tp) (C := RX10) (T := TX10) (N := 11) hx hb hts w_X10 hown hK hP 0 rfl rfl 7 (by decide) f_16 (fun _ h9 => h9) rfl dX10_moveItem_131 ?_
      refine lv_icmp_lt (tgt := 168) hx hb dX10_moveItem_134 (by decide) (fun c134 => ?_) (fun c134 => ?_)
      · refine lv_iconst (v := 0) hx hb dX10_moveItem_168 (by decide) ?_
        exact K169_2 _ ((if_pos c125).trans (if_pos c134)).symm ls (lv_sub hl [7, 8, 9, 10, 11, 12, 13, 6, 5, 4, 3, 2, 1, 0] rfl)
      · refine lv_iload hx hb dX10_moveItem_137 (lv_at hl 3 rfl) ?_
        refine lv_aload_n hx hb dX10_moveItem_139 rfl (lv_at hl 7 rfl) ?_
        refine va_get (D := D) (ci := 8) (v := .int bt) (C := RX10) (T := TX10) (N := 11) hx hb hts w_X10 hown hK hP 0 rfl rfl 9 (by decide) f_23 (fun _ h9 => h9) rfl dX10_moveItem_140 ?_
        refine lv_icmp_gt (tgt := 168) hx hb dX10_moveItem_143 (by decide) (fun c143 => ?_) (fun c143 => ?_)
        · refine lv_iconst (v := 0) hx hb dX10_moveItem_168 (by decide) ?_
          exact K169_2 _ ((if_pos c125).trans ((if_neg c134).trans (if_pos c143))).symm ls (lv_sub hl [7, 8, 9, 10, 11, 12, 13, 6, 5, 4, 3, 2, 1, 0] rfl)
        · refine lv_iload hx hb dX10_moveItem_146 (lv_at hl 4 rfl) ?_
          refine lv_aload_n hx hb dX10_moveItem_148 rfl (lv_at hl 7 rfl) ?_
          refine va_get (D := D) (ci := 8) (v := .int lf) (C := RX10) (T := TX10) (N := 11) hx hb hts w_X10 hown hK hP 0 rfl rfl 8 (by decide) f_20 (fun _ h9 => h9) rfl dX10_moveItem_149 ?_
          refine lv_icmp_lt (tgt := 168) hx hb dX10_moveItem_152 (by decide) (fun c152 => ?_) (fun c152 => ?_)
          · refine lv_iconst (v := 0) hx hb dX10_moveItem_168 (by decide) ?_
            exact K169_2 _ ((if_pos c125).trans ((if_neg c134).trans ((if_neg c143).trans (if_pos c152)))).symm ls (lv_sub hl [7, 8, 9, 10, 11, 12, 13, 6, 5, 4, 3, 2, 1, 0] rfl)
          · refine lv_iload hx hb dX10_moveItem_155 (lv_at hl 2 rfl) ?_
            refine lv_aload_n hx hb dX10_moveItem_157 rfl (lv_at hl 7 rfl) ?_
            refine va_get (D := D) (ci := 8) (v := .int rt) (C := RX10) (T := TX10) (N := 11) hx hb hts w_X10 hown hK hP 0 rfl rfl 10 (by decide) f_26 (fun _ h9 => h9) rfl dX10_moveItem_158 ?_
            refine lv_icmp_gt (tgt := 168) hx hb dX10_moveItem_161 (by decide) (fun c161 => ?_) (fun c161 => ?_)
            · refine lv_iconst (v := 0) hx hb dX10_moveItem_168 (by decide) ?_
              exact K169_2 _ ((if_pos c125).trans ((if_neg c134).trans ((if_neg c143).trans ((if_neg c152).trans (if_pos c161))))).symm ls (lv_sub hl [7, 8, 9, 10, 11, 12, 13, 6, 5, 4, 3, 2, 1, 0] rfl)
            · refine lv_iconst (v := 1) hx hb dX10_moveItem_164 (by decide) ?_
              refine lv_goto (tgt := 169) hx hb dX10_moveItem_165 (by decide) ?_
              exact K169_2 _ ((if_pos c125).trans ((if_neg c134).trans ((if_neg c143).trans ((if_neg c152).trans (if_neg c161))))).symm ls (lv_sub hl [7, 8, 9, 10, 11, 12, 13, 6, 5, 4, 3, 2, 1, 0] rfl)
  refine lv_if_ge (tgt := 31) hx hb dX10_moveItem_24 (by decide) (fun c24 => ?_) (fun c24 => ?_)
  · refine lv_aload_n hx hb dX10_moveItem_31 rfl (lv_at hl 1 rfl) ?_
    refine va_get (D := D) (ci := 8) (v := .ref h1) (C := RX10) (T := TX10) (N := 11) hx hb hts w_X10 hown hK hP 0 rfl rfl 2 (by decide) f_7 (fun _ h9 => h9) rfl dX10_moveItem_32 ?_
    refine lv_iload_n hx hb dX10_moveItem_35 rfl (lv_at hl 2 rfl) ?_
    refine lv_iconst (v := 1) hx hb dX10_moveItem_36 (by decide) ?_
    refine lv_iadd hx hb dX10_moveItem_37 ?_
    refine va_iald hx hb hK hP 1 0 rfl rfl (in_add (c := 1) (n := 1000) hk (by decide) (by decide) (by decide)) dX10_moveItem_38 ?_
    exact K39_1 _ (if_pos c24).symm ls (lv_sub hl [1, 2, 4, 5, 6, 7, 0] rfl)
  · refine lv_iload_n hx hb dX10_moveItem_27 rfl (lv_at hl 3 rfl) ?_
    refine lv_goto (tgt := 39) hx hb dX10_moveItem_28 (by decide) ?_
    exact K39_1 _ (if_neg c24).symm ls (lv_sub hl [1, 2, 4, 5, 6, 7, 0] rfl)

def fX10_moveItem_6 (md : Int32) (ch : Int32) (sh : Int32) (tp : Int32) (lf : Int32) (bt : Int32) (rt : Int32) (f : Nat → Int32) (g : Nat → Int32) (k : Int32) (hm : Int32) (nh : Int32) (s1 : Int32) (rw : Int32) (cl : Int32) : Int32 × Int32 × (Nat → Int32) := let v_1 : Int32 := (if 0 ≤ (f (k + 1).toNatClampNeg) then (f (k + 1).toNatClampNeg) else hm); let v_2 : Int32 := (if v_1 = sh then (if (f (k + 2).toNatClampNeg) < tp then 0 else (if bt < (f (k + 4).toNatClampNeg) then 0 else (if (f (k + 3).toNatClampNeg) < lf then 0 else (if rt < (f (k + 5).toNatClampNeg) then 0 else 1)))) else 0); let v_3 : Int32 := (if v_1 = s1 then (if (f (k + 2).toNatClampNeg) < rw then 0 else (if (bt + (rw - tp)) < (f (k + 4).toNatClampNeg) then 0 else (if (f (k + 3).toNatClampNeg) < cl then 0 else (if (rt + (cl - lf)) < (f (k + 5).toNatClampNeg) then 0 else 1)))) else 0); if v_2 = 0 then (if v_3 = 0 then (let v_4 : Int32 := (if v_2 = 0 then v_1 else s1); let v_5 : Int32 := (if 0 ≤ (f (k + 1).toNatClampNeg) then v_4 else (if v_4 = nh then (-1) else v_4)); let v_6 : Int32 := (if v_2 = 0 then 0 else (rw - tp)); let v_7 : Int32 := (if v_2 = 0 then 0 else (cl - lf)); ((fX10_makeRange md ch f g k ((f k.toNatClampNeg) / 16) v_5 ((f (k + 2).toNatClampNeg) + v_6) ((f (k + 3).toNatClampNeg) + v_7) ((f (k + 4).toNatClampNeg) + v_6) ((f (k + 5).toNatClampNeg) + v_7)).1, (fX10_makeRange md ch f g k ((f k.toNatClampNeg) / 16) v_5 ((f (k + 2).toNatClampNeg) + v_6) ((f (k + 3).toNatClampNeg) + v_7) ((f (k + 4).toNatClampNeg) + v_6) ((f (k + 5).toNatClampNeg) + v_7)).2.1, (fX10_makeRange md ch f g k ((f k.toNatClampNeg) / 16) v_5 ((f (k + 2).toNatClampNeg) + v_6) ((f (k + 3).toNatClampNeg) + v_7) ((f (k + 4).toNatClampNeg) + v_6) ((f (k + 5).toNatClampNeg) + v_7)).2.2)) else (((md + 1), (ch + 1), (upd g md.toNatClampNeg 67)))) else (let v_8 : Int32 := (if v_2 = 0 then v_1 else s1); let v_9 : Int32 := (if 0 ≤ (f (k + 1).toNatClampNeg) then v_8 else (if v_8 = nh then (-1) else v_8)); let v_10 : Int32 := (if v_2 = 0 then 0 else (rw - tp)); let v_11 : Int32 := (if v_2 = 0 then 0 else (cl - lf)); ((fX10_makeRange md ch f g k ((f k.toNatClampNeg) / 16) v_9 ((f (k + 2).toNatClampNeg) + v_10) ((f (k + 3).toNatClampNeg) + v_11) ((f (k + 4).toNatClampNeg) + v_10) ((f (k + 5).toNatClampNeg) + v_11)).1, (fX10_makeRange md ch f g k ((f k.toNatClampNeg) / 16) v_9 ((f (k + 2).toNatClampNeg) + v_10) ((f (k + 3).toNatClampNeg) + v_11) ((f (k + 4).toNatClampNeg) + v_10) ((f (k + 5).toNatClampNeg) + v_11)).2.1, (fX10_makeRange md ch f g k ((f k.toNatClampNeg) / 16) v_9 ((f (k + 2).toNatClampNeg) + v_10) ((f (k + 3).toNatClampNeg) + v_11) ((f (k + 4).toNatClampNeg) + v_10) ((f (k + 5).toNatClampNeg) + v_11)).2.2))
abbrev rmX10_moveItem_6 : Room := { frames := 2, cells := 0, slots := 0, locals := 49 }
abbrev qX10_moveItem_6 (D : va_G) (sz : Nat) (h0 : Nat) (h1 : Nat) (h2 : Nat) (cA : ClassId) (cB : ClassId) (cd : Int32) (n : Int32) (md : Int32) (ch : Int32) (sh : Int32) (tp : Int32) (lf : Int32) (bt : Int32) (rt : Int32) (f : Nat → Int32) (g : Nat → Int32) (k : Int32) (hm : Int32) (nh : Int32) (s1 : Int32) (rw : Int32) (cl : Int32) : Array Value → State → Outcome → State → Prop := va_Qv (fun w_9 => ∃ _u : Unit, True ∧ w_9 = [(h0, .inr (8, [.int cd, .int n, .ref h1, .int (fX10_moveItem_6 md ch sh tp lf bt rt f g k hm nh s1 rw cl).1, .ref h2, .int (fX10_moveItem_6 md ch sh tp lf bt rt f g k hm nh s1 rw cl).2.1, .int sh, .int tp, .int lf, .int bt, .int rt])), (h1, .inl (cA, 1000, .inl f)), (h2, .inl (cB, 1000, .inl (fX10_moveItem_6 md ch sh tp lf bt rt f g k hm nh s1 rw cl).2.2))]) (Bq D (va_A [(h0, .inr (8, [.int cd, .int n, .ref h1, .int md, .ref h2, .int ch, .int sh, .int tp, .int lf, .int bt, .int rt])), (h1, .inl (cA, 1000, .inl f)), (h2, .inl (cB, 1000, .inl g))] sz)) (va_A [(h0, .inr (8, [.int cd, .int n, .ref h1, .int md, .ref h2, .int ch, .int sh, .int tp, .int lf, .int bt, .int rt])), (h1, .inl (cA, 1000, .inl f)), (h2, .inl (cB, 1000, .inl g))] sz)
set_option maxHeartbeats 4000000 in
set_option maxRecDepth 100000 in
theorem kX10_moveItem_6 (l : Launch) (D : va_G) (sz : Nat) (h0 : Nat) (h1 : Nat) (h2 : Nat) (cA : ClassId) (cB : ClassId) (cd : Int32) (n : Int32) (md : Int32) (ch : Int32) (sh : Int32) (tp : Int32) (lf : Int32) (bt : Int32) (rt : Int32) (f : Nat → Int32) (g : Nat → Int32) (k : Int32) (hm : Int32) (nh : Int32) (s1 : Int32) (rw : Int32) (cl : Int32) (hl4 : ¬ (fX10_lengthAt f k) = 4) (hk : vp_in k 995) (hq : vp_in md 995) : Met l yX10_moveItem wsX10_moveItem rmX10_moveItem_6 (va_Pc [.ref h0, .int k, .int hm, .int nh, .int s1, .int rw, .int cl] (Pw D [(cA, .int), (cB, .int)] [(h0, .inr (8, [.int cd, .int n, .ref h1, .int md, .ref h2, .int ch, .int sh, .int tp, .int lf, .int bt, .int rt])), (h1, .inl (cA, 1000, .inl f)), (h2, .inl (cB, 1000, .inl g))] sz)) (qX10_moveItem_6 D sz h0 h1 h2 cA cB cd n md ch sh tp lf bt rt f g k hm nh s1 rw cl) 0 0 (va_A [(h0, .inr (8, [.int cd, .int n, .ref h1, .int md, .ref h2, .int ch, .int sh, .int tp, .int lf, .int bt, .int rt])), (h1, .inl (cA, 1000, .inl f)), (h2, .inl (cB, 1000, .inl g))] sz) := by
  refine Met.ofW (cc := cX10_moveItem) (maxL := 19) (ret := none) (by decide) rfl ?_
  intro p e s m args below meth c s₁ B hml hv
  obtain ⟨rfl, hsz, hP, hK, hD0, hN⟩ := hv
  have hx := B.exec
  have hb := B.bytes
  have hr := B.returns
  have hts := atoms_spec (ws := wsX10_moveItem) B.pre
  have hown : s.vm.findClass RX10 = some m.cls := findClass_of_methodNamed B.named
  have hlocks := B.notSynchronized
  subst hsz
  obtain ⟨Q, hQe⟩ : ∃ Q, Q = MQ below (qX10_moveItem_6 D s.heap.size h0 h1 h2 cA cB cd n md ch sh tp lf bt rt f g k hm nh s1 rw cl) ([.ref h0, .int k, .int hm, .int nh, .int s1, .int rw, .int cl] : List Value).toArray s 0 0 (va_A [(h0, .inr (8, [.int cd, .int n, .ref h1, .int md, .ref h2, .int ch, .int sh, .int tp, .int lf, .int bt, .int rt])), (h1, .inl (cA, 1000, .inl f)), (h2, .inl (cB, 1000, .inl g))] s.heap.size) := ⟨_, rfl⟩
  rw [← hQe]
  obtain ⟨A, hAe⟩ : ∃ A, A = va_A [(h0, .inr (8, [.int cd, .int n, .ref h1, .int md, .ref h2, .int ch, .int sh, .int tp, .int lf, .int bt, .int rt])), (h1, .inl (cA, 1000, .inl f)), (h2, .inl (cB, 1000, .inl g))] s.heap.size := ⟨_, rfl⟩
  have hD : va_D A [(h0, .inr (8, [.int cd, .int n, .ref h1, .int md, .ref h2, .int ch, .int sh, .int tp, .int lf, .int bt, .int rt])), (h1, .inl (cA, 1000, .inl f)), (h2, .inl (cB, 1000, .inl g))] := by rw [hAe]; exact hD0.self
  have hA : ∀ q : Nat, s.heap.size ≤ q → A q := by rw [hAe]; exact mo_A
  have hS : va_S A s.heap s.heap [] := va_S.rf
  obtain ⟨H, hHe⟩ : ∃ H, H = s.heap := ⟨_, rfl⟩
  obtain ⟨locs, hLe⟩ : ∃ L : List Loc, L = [] := ⟨_, rfl⟩
  have hP : va_P D vwCl [(h0, .inr (8, [.int cd, .int n, .ref h1, .int md, .ref h2, .int ch, .int sh, .int tp, .int lf, .int bt, .int rt])), (h1, .inl (cA, 1000, .inl f)), (h2, .inl (cB, 1000, .inl g))] H := by rw [hHe]; exact hP
  have hS : va_S A s.heap H locs := by rw [hHe, hLe]; exact hS
  have hl := lv_entry ([.ref h0, .int k, .int hm, .int nh, .int s1, .int rw, .int cl]) (n := 19) (Nat.le_of_ble_eq_true rfl)
  rw [lg_entry_eq]
  generalize (lg_sl ([.ref h0, .int k, .int hm, .int nh, .int s1, .int rw, .int cl]) ++ List.replicate (19 - (lg_sl ([.ref h0, .int k, .int hm, .int nh, .int s1, .int rw, .int cl])).length) Slot.unset).toArray = ls at hl ⊢
  have hl : lv_has ls 19 [(0, .ref h0), (1, .int k), (2, .int hm), (3, .int nh), (4, .int s1), (5, .int rw), (6, .int cl)] := hl
  refine hStart hHe hLe ?_
  clear hHe hLe
  have w_X10 : ∀ w ∈ wsX100, w ∈ wsX10_moveItem := by decide +kernel
  have f_7 := hts (.fieldLink RX10 7 "ReferenceMoverModel" "words" "[I") (by decide +kernel)
  have f_16 := hts (.fieldLink RX10 16 "ReferenceMoverModel" "top" "I") (by decide +kernel)
  have f_20 := hts (.fieldLink RX10 20 "ReferenceMoverModel" "left" "I") (by decide +kernel)
  have f_114 := hts (.fieldLink RX10 114 "ReferenceMoverModel" "sheet" "I") (by decide +kernel)
  have f_23 := hts (.fieldLink RX10 23 "ReferenceMoverModel" "bottom" "I") (by decide +kernel)
  have f_26 := hts (.fieldLink RX10 26 "ReferenceMoverModel" "right" "I") (by decide +kernel)
  refine lv_aload_n hx hb dX10_moveItem_0 rfl (lv_at hl 0 rfl) ?_
  refine lv_iload_n hx hb dX10_moveItem_1 rfl (lv_at hl 1 rfl) ?_
  have hPc := hP.sub (ws' := [(h0, .inr (8, [.int cd, .int n, .ref h1, .int md, .ref h2, .int ch, .int sh, .int tp, .int lf, .int bt, .int rt])), (h1, .inl (cA, 1000, .inl f)), (h2, .inl (cB, 1000, .inl g))]) [0, 1, 2] rfl
  have hDc := hD.sub (ws' := [(h0, .inr (8, [.int cd, .int n, .ref h1, .int md, .ref h2, .int ch, .int sh, .int tp, .int lf, .int bt, .int rt])), (h1, .inl (cA, 1000, .inl f)), (h2, .inl (cB, 1000, .inl g))]) [0, 1, 2] (by decide) rfl
  have hKc := hK.sub (tys' := [(cA, .int), (cB, .int)]) [0, 1] rfl
  refine rd_i (va_runV (As := [.int k]) (rest := []) ⟨hx, hb, hml, hown, hts⟩ (kX10_lengthAt l D H.size h0 h1 h2 cA cB cd n md ch sh tp lf bt rt f g k (in_w hk (by decide))) (cwV 1 hts gX10_moveItem_X10_lengthAt rfl rfl rfl (by decide +kernel) ⟨Nat.le_of_ble_eq_true rfl, Nat.le_of_ble_eq_true rfl⟩) ⟨Pw_blind, (va_recv hKc hPc (ci := 8) (q0 := 0) rfl rfl), fun U hU hW => Pw_at hKc hPc hDc hN hU hW⟩ rfl rfl hl.1 rfl (lv_room (Nat.le_of_ble_eq_true rfl)) dX10_moveItem_2 ⟨Nat.le_of_ble_eq_true rfl, Nat.le_of_ble_eq_true rfl⟩) ?_
  refine lv_iconst (v := 4) hx hb dX10_moveItem_5 (by decide) ?_
  refine lv_icmp_ne (tgt := 13) hx hb dX10_moveItem_6 (by decide) (fun _ => ?_) (fun h => absurd h hl4)
  refine lv_iconst (v := 0) hx hb dX10_moveItem_13 (by decide) ?_
  refine lv_istore (lv' := [(7, .int 0), (0, .ref h0), (1, .int k), (2, .int hm), (3, .int nh), (4, .int s1), (5, .int rw), (6, .int cl)]) hx hb dX10_moveItem_14 hl (by decide) rfl (fun ls hl => ?_)
  refine lv_aload_n hx hb dX10_moveItem_16 rfl (lv_at hl 1 rfl) ?_
  refine va_get (D := D) (ci := 8) (v := .ref h1) (C := RX10) (T := TX10) (N := 11) hx hb hts w_X10 hown hK hP 0 rfl rfl 2 (by decide) f_7 (fun _ h9 => h9) rfl dX10_moveItem_17 ?_
  refine lv_iload_n hx hb dX10_moveItem_20 rfl (lv_at hl 2 rfl) ?_
  refine lv_iconst (v := 1) hx hb dX10_moveItem_21 (by decide) ?_
  refine lv_iadd hx hb dX10_moveItem_22 ?_
  refine va_iald hx hb hK hP 1 0 rfl rfl (in_add (c := 1) (n := 1000) hk (by decide) (by decide) (by decide)) dX10_moveItem_23 ?_
  have K39_1 : ∀ (v_1 : Int32), v_1 = (if 0 ≤ (f (k + 1).toNatClampNeg) then (f (k + 1).toNatClampNeg) else hm) → ∀ ls : Array Slot, lv_has ls 19 [(0, .ref h0), (1, .int k), (3, .int nh), (4, .int s1), (5, .int rw), (6, .int cl), (7, .int 0)] → W p l e (headSpec wsX10_moveItem rmX10_moveItem_6).room s m ([.ref h0, .int k, .int hm, .int nh, .int s1, .int rw, .int cl] : List Value).toArray below meth c H locs 0 0 Q (F0 m 39 ls [.int v_1]) := by
    intro v_1 ev_1 ls hl
    refine lv_istore (lv' := [(8, .int v_1), (0, .ref h0), (1, .int k), (3, .int nh), (4, .int s1), (5, .int rw), (6, .int cl), (7, .int 0)]) hx hb dX10_moveItem_39 hl (by decide) rfl (fun ls hl => ?_)
    refine lv_aload_n hx hb dX10_moveItem_41 rfl (lv_at hl 1 rfl) ?_
    refine va_get (D := D) (ci := 8) (v := .ref h1) (C := RX10) (T := TX10) (N := 11) hx hb hts w_X10 hown hK hP 0 rfl rfl 2 (by decide) f_7 (fun _ h9 => h9) rfl dX10_moveItem_42 ?_
    refine lv_iload_n hx hb dX10_moveItem_45 rfl (lv_at hl 2 rfl) ?_
    refine lv_iconst (v := 2) hx hb dX10_moveItem_46 (by decide) ?_
    refine lv_iadd hx hb dX10_moveItem_47 ?_
    refine va_iald hx hb hK hP 1 0 rfl rfl (in_add (c := 2) (n := 1000) hk (by decide) (by decide) (by decide)) dX10_moveItem_48 ?_
    refine lv_istore (lv' := [(9, .int (f (k + 2).toNatClampNeg)), (8, .int v_1), (0, .ref h0), (1, .int k), (3, .int nh), (4, .int s1), (5, .int rw), (6, .int cl), (7, .int 0)]) hx hb dX10_moveItem_49 hl (by decide) rfl (fun ls hl => ?_)
    refine lv_aload_n hx hb dX10_moveItem_51 rfl (lv_at hl 2 rfl) ?_
    refine va_get (D := D) (ci := 8) (v := .ref h1) (C := RX10) (T := TX10) (N := 11) hx hb hts w_X10 hown hK hP 0 rfl rfl 2 (by decide) f_7 (fun _ h9 => h9) rfl dX10_moveItem_52 ?_
    refine lv_iload_n hx hb dX10_moveItem_55 rfl (lv_at hl 3 rfl) ?_
    refine lv_iconst (v := 3) hx hb dX10_moveItem_56 (by decide) ?_
    refine lv_iadd hx hb dX10_moveItem_57 ?_
    refine va_iald hx hb hK hP 1 0 rfl rfl (in_add (c := 3) (n := 1000) hk (by decide) (by decide) (by decide)) dX10_moveItem_58 ?_
    refine lv_istore (lv' := [(10, .int (f (k + 3).toNatClampNeg)), (9, .int (f (k + 2).toNatClampNeg)), (8, .int v_1), (0, .ref h0), (1, .int k), (3, .int nh), (4, .int s1), (5, .int rw), (6, .int cl), (7, .int 0)]) hx hb dX10_moveItem_59 hl (by decide) rfl (fun ls hl => ?_)
    refine lv_iload hx hb dX10_moveItem_61 (lv_at hl 9 rfl) ?_
    refine lv_if_eq (tgt := 71) hx hb dX10_moveItem_63 (by decide) (fun _ => ?_) (fun h => absurd h (by decide))
    refine lv_aload_n hx hb dX10_moveItem_71 rfl (lv_at hl 3 rfl) ?_
    refine va_get (D := D) (ci := 8) (v := .ref h1) (C := RX10) (T := TX10) (N := 11) hx hb hts w_X10 hown hK hP 0 rfl rfl 2 (by decide) f_7 (fun _ h9 => h9) rfl dX10_moveItem_72 ?_
    refine lv_iload_n hx hb dX10_moveItem_75 rfl (lv_at hl 4 rfl) ?_
    refine lv_iconst (v := 4) hx hb dX10_moveItem_76 (by decide) ?_
    refine lv_iadd hx hb dX10_moveItem_77 ?_
    refine va_iald hx hb hK hP 1 0 rfl rfl (in_add (c := 4) (n := 1000) hk (by decide) (by decide) (by decide)) dX10_moveItem_78 ?_
    refine lv_istore (lv' := [(11, .int (f (k + 4).toNatClampNeg)), (10, .int (f (k + 3).toNatClampNeg)), (9, .int (f (k + 2).toNatClampNeg)), (8, .int v_1), (0, .ref h0), (1, .int k), (3, .int nh), (4, .int s1), (5, .int rw), (6, .int cl), (7, .int 0)]) hx hb dX10_moveItem_79 hl (by decide) rfl (fun ls hl => ?_)
    refine lv_iload hx hb dX10_moveItem_81 (lv_at hl 10 rfl) ?_
    refine lv_if_eq (tgt := 91) hx hb dX10_moveItem_83 (by decide) (fun _ => ?_) (fun h => absurd h (by decide))
    refine lv_aload_n hx hb dX10_moveItem_91 rfl (lv_at hl 4 rfl) ?_
    refine va_get (D := D) (ci := 8) (v := .ref h1) (C := RX10) (T := TX10) (N := 11) hx hb hts w_X10 hown hK hP 0 rfl rfl 2 (by decide) f_7 (fun _ h9 => h9) rfl dX10_moveItem_92 ?_
    refine lv_iload_n hx hb dX10_moveItem_95 rfl (lv_at hl 5 rfl) ?_
    refine lv_iconst (v := 5) hx hb dX10_moveItem_96 (by decide) ?_
    refine lv_iadd hx hb dX10_moveItem_97 ?_
    refine va_iald hx hb hK hP 1 0 rfl rfl (in_add (c := 5) (n := 1000) hk (by decide) (by decide) (by decide)) dX10_moveItem_98 ?_
    refine lv_istore (lv' := [(12, .int (f (k + 5).toNatClampNeg)), (11, .int (f (k + 4).toNatClampNeg)), (10, .int (f (k + 3).toNatClampNeg)), (9, .int (f (k + 2).toNatClampNeg)), (8, .int v_1), (0, .ref h0), (1, .int k), (3, .int nh), (4, .int s1), (5, .int rw), (6, .int cl), (7, .int 0)]) hx hb dX10_moveItem_99 hl (by decide) rfl (fun ls hl => ?_)
    refine lv_iload hx hb dX10_moveItem_101 (lv_at hl 9 rfl) ?_
    refine lv_aload_n hx hb dX10_moveItem_103 rfl (lv_at hl 5 rfl) ?_
    refine va_get (D := D) (ci := 8) (v := .int tp) (C := RX10) (T := TX10) (N := 11) hx hb hts w_X10 hown hK hP 0 rfl rfl 7 (by decide) f_16 (fun _ h9 => h9) rfl dX10_moveItem_104 ?_
    refine lv_isub hx hb dX10_moveItem_107 ?_
    refine lv_istore (lv' := [(13, .int (rw - tp)), (12, .int (f (k + 5).toNatClampNeg)), (11, .int (f (k + 4).toNatClampNeg)), (10, .int (f (k + 3).toNatClampNeg)), (9, .int (f (k + 2).toNatClampNeg)), (8, .int v_1), (0, .ref h0), (1, .int k), (3, .int nh), (4, .int s1), (5, .int rw), (6, .int cl), (7, .int 0)]) hx hb dX10_moveItem_108 hl (by decide) rfl (fun ls hl => ?_)
    refine lv_iload hx hb dX10_moveItem_110 (lv_at hl 11 rfl) ?_
    refine lv_aload_n hx hb dX10_moveItem_112 rfl (lv_at hl 6 rfl) ?_
    refine va_get (D := D) (ci := 8) (v := .int lf) (C := RX10) (T := TX10) (N := 11) hx hb hts w_X10 hown hK hP 0 rfl rfl 8 (by decide) f_20 (fun _ h9 => h9) rfl dX10_moveItem_113 ?_
    refine lv_isub hx hb dX10_moveItem_116 ?_
    refine lv_istore (lv' := [(14, .int (cl - lf)), (13, .int (rw - tp)), (12, .int (f (k + 5).toNatClampNeg)), (11, .int (f (k + 4).toNatClampNeg)), (10, .int (f (k + 3).toNatClampNeg)), (9, .int (f (k + 2).toNatClampNeg)), (8, .int v_1), (0, .ref h0), (1, .int k), (3, .int nh), (4, .int s1), (5, .int rw), (6, .int cl), (7, .int 0)]) hx hb dX10_moveItem_117 hl (by decide) rfl (fun ls hl => ?_)
    refine lv_iload hx hb dX10_moveItem_119 (lv_at hl 6 rfl) ?_
    refine lv_aload_n hx hb dX10_moveItem_121 rfl (lv_at hl 7 rfl) ?_
    refine va_get (D := D) (ci := 8) (v := .int sh) (C := RX10) (T := TX10) (N := 11) hx hb hts w_X10 hown hK hP 0 rfl rfl 6 (by decide) f_114 (fun _ h9 => h9) rfl dX10_moveItem_122 ?_
    have K169_2 : ∀ (v_2 : Int32), v_2 = (if v_1 = sh then (if (f (k + 2).toNatClampNeg) < tp then 0 else (if bt < (f (k + 4).toNatClampNeg) then 0 else (if (f (k + 3).toNatClampNeg) < lf then 0 else (if rt < (f (k + 5).toNatClampNeg) then 0 else 1)))) else 0) → ∀ ls : Array Slot, lv_has ls 19 [(0, .ref h0), (1, .int k), (3, .int nh), (4, .int s1), (5, .int rw), (6, .int cl), (7, .int 0), (8, .int v_1), (9, .int (f (k + 2).toNatClampNeg)), (10, .int (f (k + 3).toNatClampNeg)), (11, .int (f (k + 4).toNatClampNeg)), (12, .int (f (k + 5).toNatClampNeg)), (13, .int (rw - tp)), (14, .int (cl - lf))] → W p l e (headSpec wsX10_moveItem rmX10_moveItem_6).room s m ([.ref h0, .int k, .int hm, .int nh, .int s1, .int rw, .int cl] : List Value).toArray below meth c H locs 0 0 Q (F0 m 169 ls [.int v_2]) := by
      intro v_2 ev_2 ls hl
      refine lv_istore (lv' := [(15, .int v_2), (0, .ref h0), (1, .int k), (3, .int nh), (4, .int s1), (5, .int rw), (6, .int cl), (7, .int 0), (8, .int v_1), (9, .int (f (k + 2).toNatClampNeg)), (10, .int (f (k + 3).toNatClampNeg)), (11, .int (f (k + 4).toNatClampNeg)), (12, .int (f (k + 5).toNatClampNeg)), (13, .int (rw - tp)), (14, .int (cl - lf))]) hx hb dX10_moveItem_169 hl (by decide) rfl (fun ls hl => ?_)
      refine lv_iload hx hb dX10_moveItem_171 (lv_at hl 8 rfl) ?_
      refine lv_iload hx hb dX10_moveItem_173 (lv_at hl 4 rfl) ?_
      have K221_3 : ∀ (v_3 : Int32), v_3 = (if v_1 = s1 then (if (f (k + 2).toNatClampNeg) < rw then 0 else (if (bt + (rw - tp)) < (f (k + 4).toNatClampNeg) then 0 else (if (f (k + 3).toNatClampNeg) < cl then 0 else (if (rt + (cl - lf)) < (f (k + 5).toNatClampNeg) then 0 else 1)))) else 0) → ∀ ls : Array Slot, lv_has ls 19 [(0, .ref h0), (1, .int k), (3, .int nh), (4, .int s1), (7, .int 0), (8, .int v_1), (9, .int (f (k + 2).toNatClampNeg)), (10, .int (f (k + 3).toNatClampNeg)), (11, .int (f (k + 4).toNatClampNeg)), (12, .int (f (k + 5).toNatClampNeg)), (13, .int (rw - tp)), (14, .int (cl - lf)), (15, .int v_2)] → W p l e (headSpec wsX10_moveItem rmX10_moveItem_6).room s m ([.ref h0, .int k, .int hm, .int nh, .int s1, .int rw, .int cl] : List Value).toArray below meth c H locs 0 0 Q (F0 m 221 ls [.int v_3]) := by
        intro v_3 ev_3 ls hl
        refine lv_istore (lv' := [(16, .int v_3), (0, .ref h0), (1, .int k), (3, .int nh), (4, .int s1), (7, .int 0), (8, .int v_1), (9, .int (f (k + 2).toNatClampNeg)), (10, .int (f (k + 3).toNatClampNeg)), (11, .int (f (k + 4).toNatClampNeg)), (12, .int (f (k + 5).toNatClampNeg)), (13, .int (rw - tp)), (14, .int (cl - lf)), (15, .int v_2)]) hx hb dX10_moveItem_221 hl (by decide) rfl (fun ls hl => ?_)
        refine lv_iload hx hb dX10_moveItem_223 (lv_at hl 13 rfl) ?_
        refine lv_if_ne (tgt := 238) hx hb dX10_moveItem_225 (by decide) (fun c225 => ?_) (fun c225 => ?_)
        · refine lv_iload hx hb dX10_moveItem_238 (lv_at hl 13 rfl) ?_
          have K250_4 : ∀ (v_4 : Int32), v_4 = (if v_2 = 0 then v_1 else s1) → ∀ ls : Array Slot, lv_has ls 19 [(0, .ref h0), (1, .int k), (3, .int nh), (7, .int 0), (9, .int (f (k + 2).toNatClampNeg)), (10, .int (f (k + 3).toNatClampNeg)), (11, .int (f (k + 4).toNatClampNeg)), (12, .int (f (k + 5).toNatClampNeg)), (13, .int (rw - tp)), (14, .int (cl - lf)), (15, .int v_2)] → W p l e (headSpec wsX10_moveItem rmX10_moveItem_6).room s m ([.ref h0, .int k, .int hm, .int nh, .int s1, .int rw, .int cl] : List Value).toArray below meth c H locs 0 0 Q (F0 m 250 ls [.int v_4]) := by
            intro v_4 ev_4 ls hl
            refine lv_istore (lv' := [(17, .int v_4), (0, .ref h0), (1, .int k), (3, .int nh), (7, .int 0), (9, .int (f (k + 2).toNatClampNeg)), (10, .int (f (k + 3).toNatClampNeg)), (11, .int (f (k + 4).toNatClampNeg)), (12, .int (f (k + 5).toNatClampNeg)), (13, .int (rw - tp)), (14, .int (cl - lf)), (15, .int v_2)]) hx hb dX10_moveItem_250 hl (by decide) rfl (fun ls hl => ?_)
            refine lv_aload_n hx hb dX10_moveItem_252 rfl (lv_at hl 1 rfl) ?_
            refine va_get (D := D) (ci := 8) (v := .ref h1) (C := RX10) (T := TX10) (N := 11) hx hb hts w_X10 hown hK hP 0 rfl rfl 2 (by decide) f_7 (fun _ h9 => h9) rfl dX10_moveItem_253 ?_
            refine lv_iload_n hx hb dX10_moveItem_256 rfl (lv_at hl 2 rfl) ?_
            refine lv_iconst (v := 1) hx hb dX10_moveItem_257 (by decide) ?_
            refine lv_iadd hx hb dX10_moveItem_258 ?_
            refine va_iald hx hb hK hP 1 0 rfl rfl (in_add (c := 1) (n := 1000) hk (by decide) (by decide) (by decide)) dX10_moveItem_259 ?_
            have K275_5 : ∀ (v_5 : Int32), v_5 = (if 0 ≤ (f (k + 1).toNatClampNeg) then v_4 else (if v_4 = nh then (-1) else v_4)) → ∀ ls : Array Slot, lv_has ls 19 [(0, .ref h0), (1, .int k), (7, .int 0), (9, .int (f (k + 2).toNatClampNeg)), (10, .int (f (k + 3).toNatClampNeg)), (11, .int (f (k + 4).toNatClampNeg)), (12, .int (f (k + 5).toNatClampNeg)), (13, .int (rw - tp)), (14, .int (cl - lf)), (15, .int v_2)] → W p l e (headSpec wsX10_moveItem rmX10_moveItem_6).room s m ([.ref h0, .int k, .int hm, .int nh, .int s1, .int rw, .int cl] : List Value).toArray below meth c H locs 0 0 Q (F0 m 275 ls [.int v_5]) := by
              intro v_5 ev_5 ls hl
              refine lv_istore (lv' := [(18, .int v_5), (0, .ref h0), (1, .int k), (7, .int 0), (9, .int (f (k + 2).toNatClampNeg)), (10, .int (f (k + 3).toNatClampNeg)), (11, .int (f (k + 4).toNatClampNeg)), (12, .int (f (k + 5).toNatClampNeg)), (13, .int (rw - tp)), (14, .int (cl - lf)), (15, .int v_2)]) hx hb dX10_moveItem_275 hl (by decide) rfl (fun ls hl => ?_)
              refine lv_iload hx hb dX10_moveItem_277 (lv_at hl 10 rfl) ?_
              have K288_6 : ∀ (v_6 : Int32), v_6 = (if v_2 = 0 then 0 else (rw - tp)) → ∀ (v_7 : Int32), v_7 = (if v_2 = 0 then 0 else (cl - lf)) → ∀ ls : Array Slot, lv_has ls 19 [(0, .ref h0), (1, .int k), (7, .int 0), (9, .int (f (k + 2).toNatClampNeg)), (10, .int (f (k + 3).toNatClampNeg)), (11, .int (f (k + 4).toNatClampNeg)), (12, .int (f (k + 5).toNatClampNeg)), (13, .int v_6), (14, .int v_7), (18, .int v_5)] → W p l e (headSpec wsX10_moveItem rmX10_moveItem_6).room s m ([.ref h0, .int k, .int hm, .int nh, .int s1, .int rw, .int cl] : List Value).toArray below meth c H locs 0 0 Q (F0 m 288 ls []) := by
                intro v_6 ev_6 v_7 ev_7 ls hl
                refine lv_iload hx hb dX10_moveItem_288 (lv_at hl 2 rfl) ?_
                refine lv_if_eq (tgt := 313) hx hb dX10_moveItem_290 (by decide) (fun _ => ?_) (fun h => absurd h (by decide))
                refine lv_aload_n hx hb dX10_moveItem_313 rfl (lv_at hl 0 rfl) ?_
                refine lv_iload_n hx hb dX10_moveItem_314 rfl (lv_at hl 1 rfl) ?_
                refine lv_aload_n hx hb dX10_moveItem_315 rfl (lv_at hl 0 rfl) ?_
                refine va_get (D := D) (ci := 8) (v := .ref h1) (C := RX10) (T := TX10) (N := 11) hx hb hts w_X10 hown hK hP 0 rfl rfl 2 (by decide) f_7 (fun _ h9 => h9) rfl dX10_moveItem_316 ?_
                refine lv_iload_n hx hb dX10_moveItem_319 rfl (lv_at hl 1 rfl) ?_
                refine va_iald hx hb hK hP 1 0 rfl rfl (in_w hk (by decide)) dX10_moveItem_320 ?_
                refine lv_bipush (v := 16) hx hb dX10_moveItem_321 (by decide) ?_
                refine lv_idiv hx hb dX10_moveItem_323 (by decide) ?_
                refine lv_iload hx hb dX10_moveItem_324 (lv_at hl 9 rfl) ?_
                refine lv_iload hx hb dX10_moveItem_326 (lv_at hl 3 rfl) ?_
                refine lv_iload hx hb dX10_moveItem_328 (lv_at hl 7 rfl) ?_
                refine lv_iadd hx hb dX10_moveItem_330 ?_
                refine lv_iload hx hb dX10_moveItem_331 (lv_at hl 4 rfl) ?_
                refine lv_iload hx hb dX10_moveItem_333 (lv_at hl 8 rfl) ?_
                refine lv_iadd hx hb dX10_moveItem_335 ?_
                refine lv_iload hx hb dX10_moveItem_336 (lv_at hl 5 rfl) ?_
                refine lv_iload hx hb dX10_moveItem_338 (lv_at hl 7 rfl) ?_
                refine lv_iadd hx hb dX10_moveItem_340 ?_
                refine lv_iload hx hb dX10_moveItem_341 (lv_at hl 6 rfl) ?_
                refine lv_iload hx hb dX10_moveItem_343 (lv_at hl 8 rfl) ?_
                refine lv_iadd hx hb dX10_moveItem_345 ?_
                have hPc := hP.sub (ws' := [(h0, .inr (8, [.int cd, .int n, .ref h1, .int md, .ref h2, .int ch, .int sh, .int tp, .int lf, .int bt, .int rt])), (h1, .inl (cA, 1000, .inl f)), (h2, .inl (cB, 1000, .inl g))]) [0, 1, 2] rfl
                have hDc := hD.sub (ws' := [(h0, .inr (8, [.int cd, .int n, .ref h1, .int md, .ref h2, .int ch, .int sh, .int tp, .int lf, .int bt, .int rt])), (h1, .inl (cA, 1000, .inl f)), (h2, .inl (cB, 1000, .inl g))]) [0, 1, 2] (by decide) rfl
                have hKc := hK.sub (tys' := [(cA, .int), (cB, .int)]) [0, 1] rfl
                refine wk_v (β := Unit) (ok := fun _ => True) (wc := [(h0, .inr (8, [.int cd, .int n, .ref h1, .int md, .ref h2, .int ch, .int sh, .int tp, .int lf, .int bt, .int rt])), (h1, .inl (cA, 1000, .inl f)), (h2, .inl (cB, 1000, .inl g))]) (wr := []) (w1 := fun _ => [(h0, .inr (8, [.int cd, .int n, .ref h1, .int (fX10_makeRange md ch f g k ((f k.toNatClampNeg) / 16) v_5 ((f (k + 2).toNatClampNeg) + v_6) ((f (k + 3).toNatClampNeg) + v_7) ((f (k + 4).toNatClampNeg) + v_6) ((f (k + 5).toNatClampNeg) + v_7)).1, .ref h2, .int (fX10_makeRange md ch f g k ((f k.toNatClampNeg) / 16) v_5 ((f (k + 2).toNatClampNeg) + v_6) ((f (k + 3).toNatClampNeg) + v_7) ((f (k + 4).toNatClampNeg) + v_6) ((f (k + 5).toNatClampNeg) + v_7)).2.1, .int sh, .int tp, .int lf, .int bt, .int rt])), (h1, .inl (cA, 1000, .inl f)), (h2, .inl (cB, 1000, .inl (fX10_makeRange md ch f g k ((f k.toNatClampNeg) / 16) v_5 ((f (k + 2).toNatClampNeg) + v_6) ((f (k + 3).toNatClampNeg) + v_7) ((f (k + 4).toNatClampNeg) + v_6) ((f (k + 5).toNatClampNeg) + v_7)).2.2))]) (ws2 := fun _ => [(h0, .inr (8, [.int cd, .int n, .ref h1, .int (fX10_makeRange md ch f g k ((f k.toNatClampNeg) / 16) v_5 ((f (k + 2).toNatClampNeg) + v_6) ((f (k + 3).toNatClampNeg) + v_7) ((f (k + 4).toNatClampNeg) + v_6) ((f (k + 5).toNatClampNeg) + v_7)).1, .ref h2, .int (fX10_makeRange md ch f g k ((f k.toNatClampNeg) / 16) v_5 ((f (k + 2).toNatClampNeg) + v_6) ((f (k + 3).toNatClampNeg) + v_7) ((f (k + 4).toNatClampNeg) + v_6) ((f (k + 5).toNatClampNeg) + v_7)).2.1, .int sh, .int tp, .int lf, .int bt, .int rt])), (h1, .inl (cA, 1000, .inl f)), (h2, .inl (cB, 1000, .inl (fX10_makeRange md ch f g k ((f k.toNatClampNeg) / 16) v_5 ((f (k + 2).toNatClampNeg) + v_6) ((f (k + 3).toNatClampNeg) + v_7) ((f (k + 4).toNatClampNeg) + v_6) ((f (k + 5).toNatClampNeg) + v_7)).2.2))]) (va_runV (As := [.int k, .int ((f k.toNatClampNeg) / 16), .int v_5, .int ((f (k + 2).toNatClampNeg) + v_6), .int ((f (k + 3).toNatClampNeg) + v_7), .int ((f (k + 4).toNatClampNeg) + v_6), .int ((f (k + 5).toNatClampNeg) + v_7)]) (rest := []) ⟨hx, hb, hml, hown, hts⟩ (kX10_makeRange l D H.size h0 h1 h2 cA cB cd n md ch sh tp lf bt rt f g k ((f k.toNatClampNeg) / 16) v_5 ((f (k + 2).toNatClampNeg) + v_6) ((f (k + 3).toNatClampNeg) + v_7) ((f (k + 4).toNatClampNeg) + v_6) ((f (k + 5).toNatClampNeg) + v_7) hk hq) (cwV 7 hts gX10_moveItem_X10_makeRange rfl rfl rfl (by decide +kernel) ⟨Nat.le_of_ble_eq_true rfl, Nat.le_of_ble_eq_true rfl⟩) ⟨Pw_blind, (va_recv hKc hPc (ci := 8) (q0 := 0) rfl rfl), fun U hU hW => Pw_at hKc hPc hDc hN hU hW⟩ rfl rfl hl.1 rfl (lv_room (Nat.le_of_ble_eq_true rfl)) dX10_moveItem_346 ⟨Nat.le_of_ble_eq_true rfl, Nat.le_of_ble_eq_true rfl⟩) hP hD hS hA [0, 1, 2] [] [0, 1, 2] rfl rfl (by decide) (by decide) (fun _ => rfl) (by decide) (fun _ _ H locs hP hD hS => ?_)
                have hP : va_P D vwCl [(h0, .inr (8, [.int cd, .int n, .ref h1, .int (fX10_makeRange md ch f g k ((f k.toNatClampNeg) / 16) v_5 ((f (k + 2).toNatClampNeg) + v_6) ((f (k + 3).toNatClampNeg) + v_7) ((f (k + 4).toNatClampNeg) + v_6) ((f (k + 5).toNatClampNeg) + v_7)).1, .ref h2, .int (fX10_makeRange md ch f g k ((f k.toNatClampNeg) / 16) v_5 ((f (k + 2).toNatClampNeg) + v_6) ((f (k + 3).toNatClampNeg) + v_7) ((f (k + 4).toNatClampNeg) + v_6) ((f (k + 5).toNatClampNeg) + v_7)).2.1, .int sh, .int tp, .int lf, .int bt, .int rt])), (h1, .inl (cA, 1000, .inl f)), (h2, .inl (cB, 1000, .inl (fX10_makeRange md ch f g k ((f k.toNatClampNeg) / 16) v_5 ((f (k + 2).toNatClampNeg) + v_6) ((f (k + 3).toNatClampNeg) + v_7) ((f (k + 4).toNatClampNeg) + v_6) ((f (k + 5).toNatClampNeg) + v_7)).2.2))] H := hP
                have hD : va_D A [(h0, .inr (8, [.int cd, .int n, .ref h1, .int (fX10_makeRange md ch f g k ((f k.toNatClampNeg) / 16) v_5 ((f (k + 2).toNatClampNeg) + v_6) ((f (k + 3).toNatClampNeg) + v_7) ((f (k + 4).toNatClampNeg) + v_6) ((f (k + 5).toNatClampNeg) + v_7)).1, .ref h2, .int (fX10_makeRange md ch f g k ((f k.toNatClampNeg) / 16) v_5 ((f (k + 2).toNatClampNeg) + v_6) ((f (k + 3).toNatClampNeg) + v_7) ((f (k + 4).toNatClampNeg) + v_6) ((f (k + 5).toNatClampNeg) + v_7)).2.1, .int sh, .int tp, .int lf, .int bt, .int rt])), (h1, .inl (cA, 1000, .inl f)), (h2, .inl (cB, 1000, .inl (fX10_makeRange md ch f g k ((f k.toNatClampNeg) / 16) v_5 ((f (k + 2).toNatClampNeg) + v_6) ((f (k + 3).toNatClampNeg) + v_7) ((f (k + 4).toNatClampNeg) + v_6) ((f (k + 5).toNatClampNeg) + v_7)).2.2))] := hD
                have hF : (fX10_moveItem_6 md ch sh tp lf bt rt f g k hm nh s1 rw cl) = ((fX10_makeRange md ch f g k ((f k.toNatClampNeg) / 16) v_5 ((f (k + 2).toNatClampNeg) + v_6) ((f (k + 3).toNatClampNeg) + v_7) ((f (k + 4).toNatClampNeg) + v_6) ((f (k + 5).toNatClampNeg) + v_7)).1, (fX10_makeRange md ch f g k ((f k.toNatClampNeg) / 16) v_5 ((f (k + 2).toNatClampNeg) + v_6) ((f (k + 3).toNatClampNeg) + v_7) ((f (k + 4).toNatClampNeg) + v_6) ((f (k + 5).toNatClampNeg) + v_7)).2.1, (fX10_makeRange md ch f g k ((f k.toNatClampNeg) / 16) v_5 ((f (k + 2).toNatClampNeg) + v_6) ((f (k + 3).toNatClampNeg) + v_7) ((f (k + 4).toNatClampNeg) + v_6) ((f (k + 5).toNatClampNeg) + v_7)).2.2) := by subst ev_7; subst ev_6; subst ev_5; subst ev_4; subst ev_3; subst ev_2; subst ev_1; exact (if_neg c225)
                subst hAe
                subst hQe
                exact W.vret hx hb hr (fun t ht hW => ⟨⟨_, rfl, ⟨(), trivial, by rw [hF]⟩, by rw [ht]; exact hP, hD⟩, hS.F ht⟩) hS.2.2 dX10_moveItem_349
              refine lv_if_ne (tgt := 288) hx hb dX10_moveItem_279 (by decide) (fun c279 => ?_) (fun c279 => ?_)
              · exact K288_6 _ (if_neg c279).symm _ (if_neg c279).symm ls (lv_sub hl [1, 2, 3, 4, 5, 6, 7, 8, 9, 0] rfl)
              · refine lv_iconst (v := 0) hx hb dX10_moveItem_282 (by decide) ?_
                refine lv_istore (lv' := [(13, .int 0), (18, .int v_5), (0, .ref h0), (1, .int k), (7, .int 0), (9, .int (f (k + 2).toNatClampNeg)), (10, .int (f (k + 3).toNatClampNeg)), (11, .int (f (k + 4).toNatClampNeg)), (12, .int (f (k + 5).toNatClampNeg)), (14, .int (cl - lf)), (15, .int v_2)]) hx hb dX10_moveItem_283 hl (by decide) rfl (fun ls hl => ?_)
                refine lv_iconst (v := 0) hx hb dX10_moveItem_285 (by decide) ?_
                refine lv_istore (lv' := [(14, .int 0), (13, .int 0), (18, .int v_5), (0, .ref h0), (1, .int k), (7, .int 0), (9, .int (f (k + 2).toNatClampNeg)), (10, .int (f (k + 3).toNatClampNeg)), (11, .int (f (k + 4).toNatClampNeg)), (12, .int (f (k + 5).toNatClampNeg)), (15, .int v_2)]) hx hb dX10_moveItem_286 hl (by decide) rfl (fun ls hl => ?_)
                exact K288_6 _ (if_pos c279).symm _ (if_pos c279).symm ls (lv_sub hl [3, 4, 5, 6, 7, 8, 9, 1, 0, 2] rfl)
            refine lv_if_ge (tgt := 273) hx hb dX10_moveItem_260 (by decide) (fun c260 => ?_) (fun c260 => ?_)
            · refine lv_iload hx hb dX10_moveItem_273 (lv_at hl 0 rfl) ?_
              exact K275_5 _ (if_pos c260).symm ls (lv_sub hl [1, 2, 4, 5, 6, 7, 8, 9, 10, 11] rfl)
            · refine lv_iload hx hb dX10_moveItem_263 (lv_at hl 0 rfl) ?_
              refine lv_iload_n hx hb dX10_moveItem_265 rfl (lv_at hl 3 rfl) ?_
              refine lv_icmp_ne (tgt := 273) hx hb dX10_moveItem_266 (by decide) (fun c266 => ?_) (fun c266 => ?_)
              · refine lv_iload hx hb dX10_moveItem_273 (lv_at hl 0 rfl) ?_
                exact K275_5 _ ((if_neg c260).trans (if_neg c266)).symm ls (lv_sub hl [1, 2, 4, 5, 6, 7, 8, 9, 10, 11] rfl)
              · refine lv_iconst (v := (-1)) hx hb dX10_moveItem_269 (by decide) ?_
                refine lv_goto (tgt := 275) hx hb dX10_moveItem_270 (by decide) ?_
                exact K275_5 _ ((if_neg c260).trans (if_pos c266)).symm ls (lv_sub hl [1, 2, 4, 5, 6, 7, 8, 9, 10, 11] rfl)
          refine lv_if_eq (tgt := 248) hx hb dX10_moveItem_240 (by decide) (fun c240 => ?_) (fun c240 => ?_)
          · refine lv_iload hx hb dX10_moveItem_248 (lv_at hl 6 rfl) ?_
            exact K250_4 _ (if_pos c240).symm ls (lv_sub hl [1, 2, 3, 5, 7, 8, 9, 10, 11, 12, 13] rfl)
          · refine lv_iload hx hb dX10_moveItem_243 (lv_at hl 4 rfl) ?_
            refine lv_goto (tgt := 250) hx hb dX10_moveItem_245 (by decide) ?_
            exact K250_4 _ (if_neg c240).symm ls (lv_sub hl [1, 2, 3, 5, 7, 8, 9, 10, 11, 12, 13] rfl)
        · refine lv_iload hx hb dX10_moveItem_228 (lv_at hl 0 rfl) ?_
          refine lv_if_eq (tgt := 238) hx hb dX10_moveItem_230 (by decide) (fun c230 => ?_) (fun c230 => ?_)
          · refine lv_iload hx hb dX10_moveItem_238 (lv_at hl 13 rfl) ?_
            have K250_7 : ∀ (v_8 : Int32), v_8 = (if v_2 = 0 then v_1 else s1) → ∀ ls : Array Slot, lv_has ls 19 [(0, .ref h0), (1, .int k), (3, .int nh), (7, .int 0), (9, .int (f (k + 2).toNatClampNeg)), (10, .int (f (k + 3).toNatClampNeg)), (11, .int (f (k + 4).toNatClampNeg)), (12, .int (f (k + 5).toNatClampNeg)), (13, .int (rw - tp)), (14, .int (cl - lf)), (15, .int v_2)] → W p l e (headSpec wsX10_moveItem rmX10_moveItem_6).room s m ([.ref h0, .int k, .int hm, .int nh, .int s1, .int rw, .int cl] : List Value).toArray below meth c H locs 0 0 Q (F0 m 250 ls [.int v_8]) := by
              intro v_8 ev_8 ls hl
              refine lv_istore (lv' := [(17, .int v_8), (0, .ref h0), (1, .int k), (3, .int nh), (7, .int 0), (9, .int (f (k + 2).toNatClampNeg)), (10, .int (f (k + 3).toNatClampNeg)), (11, .int (f (k + 4).toNatClampNeg)), (12, .int (f (k + 5).toNatClampNeg)), (13, .int (rw - tp)), (14, .int (cl - lf)), (15, .int v_2)]) hx hb dX10_moveItem_250 hl (by decide) rfl (fun ls hl => ?_)
              refine lv_aload_n hx hb dX10_moveItem_252 rfl (lv_at hl 1 rfl) ?_
              refine va_get (D := D) (ci := 8) (v := .ref h1) (C := RX10) (T := TX10) (N := 11) hx hb hts w_X10 hown hK hP 0 rfl rfl 2 (by decide) f_7 (fun _ h9 => h9) rfl dX10_moveItem_253 ?_
              refine lv_iload_n hx hb dX10_moveItem_256 rfl (lv_at hl 2 rfl) ?_
              refine lv_iconst (v := 1) hx hb dX10_moveItem_257 (by decide) ?_
              refine lv_iadd hx hb dX10_moveItem_258 ?_
              refine va_iald hx hb hK hP 1 0 rfl rfl (in_add (c := 1) (n := 1000) hk (by decide) (by decide) (by decide)) dX10_moveItem_259 ?_
              have K275_8 : ∀ (v_9 : Int32), v_9 = (if 0 ≤ (f (k + 1).toNatClampNeg) then v_8 else (if v_8 = nh then (-1) else v_8)) → ∀ ls : Array Slot, lv_has ls 19 [(0, .ref h0), (1, .int k), (7, .int 0), (9, .int (f (k + 2).toNatClampNeg)), (10, .int (f (k + 3).toNatClampNeg)), (11, .int (f (k + 4).toNatClampNeg)), (12, .int (f (k + 5).toNatClampNeg)), (13, .int (rw - tp)), (14, .int (cl - lf)), (15, .int v_2)] → W p l e (headSpec wsX10_moveItem rmX10_moveItem_6).room s m ([.ref h0, .int k, .int hm, .int nh, .int s1, .int rw, .int cl] : List Value).toArray below meth c H locs 0 0 Q (F0 m 275 ls [.int v_9]) := by
                intro v_9 ev_9 ls hl
                refine lv_istore (lv' := [(18, .int v_9), (0, .ref h0), (1, .int k), (7, .int 0), (9, .int (f (k + 2).toNatClampNeg)), (10, .int (f (k + 3).toNatClampNeg)), (11, .int (f (k + 4).toNatClampNeg)), (12, .int (f (k + 5).toNatClampNeg)), (13, .int (rw - tp)), (14, .int (cl - lf)), (15, .int v_2)]) hx hb dX10_moveItem_275 hl (by decide) rfl (fun ls hl => ?_)
                refine lv_iload hx hb dX10_moveItem_277 (lv_at hl 10 rfl) ?_
                have K288_9 : ∀ (v_10 : Int32), v_10 = (if v_2 = 0 then 0 else (rw - tp)) → ∀ (v_11 : Int32), v_11 = (if v_2 = 0 then 0 else (cl - lf)) → ∀ ls : Array Slot, lv_has ls 19 [(0, .ref h0), (1, .int k), (7, .int 0), (9, .int (f (k + 2).toNatClampNeg)), (10, .int (f (k + 3).toNatClampNeg)), (11, .int (f (k + 4).toNatClampNeg)), (12, .int (f (k + 5).toNatClampNeg)), (13, .int v_10), (14, .int v_11), (18, .int v_9)] → W p l e (headSpec wsX10_moveItem rmX10_moveItem_6).room s m ([.ref h0, .int k, .int hm, .int nh, .int s1, .int rw, .int cl] : List Value).toArray below meth c H locs 0 0 Q (F0 m 288 ls []) := by
                  intro v_10 ev_10 v_11 ev_11 ls hl
                  refine lv_iload hx hb dX10_moveItem_288 (lv_at hl 2 rfl) ?_
                  refine lv_if_eq (tgt := 313) hx hb dX10_moveItem_290 (by decide) (fun _ => ?_) (fun h => absurd h (by decide))
                  refine lv_aload_n hx hb dX10_moveItem_313 rfl (lv_at hl 0 rfl) ?_
                  refine lv_iload_n hx hb dX10_moveItem_314 rfl (lv_at hl 1 rfl) ?_
                  refine lv_aload_n hx hb dX10_moveItem_315 rfl (lv_at hl 0 rfl) ?_
                  refine va_get (D := D) (ci := 8) (v := .ref h1) (C := RX10) (T := TX10) (N := 11) hx hb hts w_X10 hown hK hP 0 rfl rfl 2 (by decide) f_7 (fun _ h9 => h9) rfl dX10_moveItem_316 ?_
                  refine lv_iload_n hx hb dX10_moveItem_319 rfl (lv_at hl 1 rfl) ?_
                  refine va_iald hx hb hK hP 1 0 rfl rfl (in_w hk (by decide)) dX10_moveItem_320 ?_
                  refine lv_bipush (v := 16) hx hb dX10_moveItem_321 (by decide) ?_
                  refine lv_idiv hx hb dX10_moveItem_323 (by decide) ?_
                  refine lv_iload hx hb dX10_moveItem_324 (lv_at hl 9 rfl) ?_
                  refine lv_iload hx hb dX10_moveItem_326 (lv_at hl 3 rfl) ?_
                  refine lv_iload hx hb dX10_moveItem_328 (lv_at hl 7 rfl) ?_
                  refine lv_iadd hx hb dX10_moveItem_330 ?_
                  refine lv_iload hx hb dX10_moveItem_331 (lv_at hl 4 rfl) ?_
                  refine lv_iload hx hb dX10_moveItem_333 (lv_at hl 8 rfl) ?_
                  refine lv_iadd hx hb dX10_moveItem_335 ?_
                  refine lv_iload hx hb dX10_moveItem_336 (lv_at hl 5 rfl) ?_
                  refine lv_iload hx hb dX10_moveItem_338 (lv_at hl 7 rfl) ?_
                  refine lv_iadd hx hb dX10_moveItem_340 ?_
                  refine lv_iload hx hb dX10_moveItem_341 (lv_at hl 6 rfl) ?_
                  refine lv_iload hx hb dX10_moveItem_343 (lv_at hl 8 rfl) ?_
                  refine lv_iadd hx hb dX10_moveItem_345 ?_
                  have hPc := hP.sub (ws' := [(h0, .inr (8, [.int cd, .int n, .ref h1, .int md, .ref h2, .int ch, .int sh, .int tp, .int lf, .int bt, .int rt])), (h1, .inl (cA, 1000, .inl f)), (h2, .inl (cB, 1000, .inl g))]) [0, 1, 2] rfl
                  have hDc := hD.sub (ws' := [(h0, .inr (8, [.int cd, .int n, .ref h1, .int md, .ref h2, .int ch, .int sh, .int tp, .int lf, .int bt, .int rt])), (h1, .inl (cA, 1000, .inl f)), (h2, .inl (cB, 1000, .inl g))]) [0, 1, 2] (by decide) rfl
                  have hKc := hK.sub (tys' := [(cA, .int), (cB, .int)]) [0, 1] rfl
                  refine wk_v (β := Unit) (ok := fun _ => True) (wc := [(h0, .inr (8, [.int cd, .int n, .ref h1, .int md, .ref h2, .int ch, .int sh, .int tp, .int lf, .int bt, .int rt])), (h1, .inl (cA, 1000, .inl f)), (h2, .inl (cB, 1000, .inl g))]) (wr := []) (w1 := fun _ => [(h0, .inr (8, [.int cd, .int n, .ref h1, .int (fX10_makeRange md ch f g k ((f k.toNatClampNeg) / 16) v_9 ((f (k + 2).toNatClampNeg) + v_10) ((f (k + 3).toNatClampNeg) + v_11) ((f (k + 4).toNatClampNeg) + v_10) ((f (k + 5).toNatClampNeg) + v_11)).1, .ref h2, .int (fX10_makeRange md ch f g k ((f k.toNatClampNeg) / 16) v_9 ((f (k + 2).toNatClampNeg) + v_10) ((f (k + 3).toNatClampNeg) + v_11) ((f (k + 4).toNatClampNeg) + v_10) ((f (k + 5).toNatClampNeg) + v_11)).2.1, .int sh, .int tp, .int lf, .int bt, .int rt])), (h1, .inl (cA, 1000, .inl f)), (h2, .inl (cB, 1000, .inl (fX10_makeRange md ch f g k ((f k.toNatClampNeg) / 16) v_9 ((f (k + 2).toNatClampNeg) + v_10) ((f (k + 3).toNatClampNeg) + v_11) ((f (k + 4).toNatClampNeg) + v_10) ((f (k + 5).toNatClampNeg) + v_11)).2.2))]) (ws2 := fun _ => [(h0, .inr (8, [.int cd, .int n, .ref h1, .int (fX10_makeRange md ch f g k ((f k.toNatClampNeg) / 16) v_9 ((f (k + 2).toNatClampNeg) + v_10) ((f (k + 3).toNatClampNeg) + v_11) ((f (k + 4).toNatClampNeg) + v_10) ((f (k + 5).toNatClampNeg) + v_11)).1, .ref h2, .int (fX10_makeRange md ch f g k ((f k.toNatClampNeg) / 16) v_9 ((f (k + 2).toNatClampNeg) + v_10) ((f (k + 3).toNatClampNeg) + v_11) ((f (k + 4).toNatClampNeg) + v_10) ((f (k + 5).toNatClampNeg) + v_11)).2.1, .int sh, .int tp, .int lf, .int bt, .int rt])), (h1, .inl (cA, 1000, .inl f)), (h2, .inl (cB, 1000, .inl (fX10_makeRange md ch f g k ((f k.toNatClampNeg) / 16) v_9 ((f (k + 2).toNatClampNeg) + v_10) ((f (k + 3).toNatClampNeg) + v_11) ((f (k + 4).toNatClampNeg) + v_10) ((f (k + 5).toNatClampNeg) + v_11)).2.2))]) (va_runV (As := [.int k, .int ((f k.toNatClampNeg) / 16), .int v_9, .int ((f (k + 2).toNatClampNeg) + v_10), .int ((f (k + 3).toNatClampNeg) + v_11), .int ((f (k + 4).toNatClampNeg) + v_10), .int ((f (k + 5).toNatClampNeg) + v_11)]) (rest := []) ⟨hx, hb, hml, hown, hts⟩ (kX10_makeRange l D H.size h0 h1 h2 cA cB cd n md ch sh tp lf bt rt f g k ((f k.toNatClampNeg) / 16) v_9 ((f (k + 2).toNatClampNeg) + v_10) ((f (k + 3).toNatClampNeg) + v_11) ((f (k + 4).toNatClampNeg) + v_10) ((f (k + 5).toNatClampNeg) + v_11) hk hq) (cwV 7 hts gX10_moveItem_X10_makeRange rfl rfl rfl (by decide +kernel) ⟨Nat.le_of_ble_eq_true rfl, Nat.le_of_ble_eq_true rfl⟩) ⟨Pw_blind, (va_recv hKc hPc (ci := 8) (q0 := 0) rfl rfl), fun U hU hW => Pw_at hKc hPc hDc hN hU hW⟩ rfl rfl hl.1 rfl (lv_room (Nat.le_of_ble_eq_true rfl)) dX10_moveItem_346 ⟨Nat.le_of_ble_eq_true rfl, Nat.le_of_ble_eq_true rfl⟩) hP hD hS hA [0, 1, 2] [] [0, 1, 2] rfl rfl (by decide) (by decide) (fun _ => rfl) (by decide) (fun _ _ H locs hP hD hS => ?_)
                  have hP : va_P D vwCl [(h0, .inr (8, [.int cd, .int n, .ref h1, .int (fX10_makeRange md ch f g k ((f k.toNatClampNeg) / 16) v_9 ((f (k + 2).toNatClampNeg) + v_10) ((f (k + 3).toNatClampNeg) + v_11) ((f (k + 4).toNatClampNeg) + v_10) ((f (k + 5).toNatClampNeg) + v_11)).1, .ref h2, .int (fX10_makeRange md ch f g k ((f k.toNatClampNeg) / 16) v_9 ((f (k + 2).toNatClampNeg) + v_10) ((f (k + 3).toNatClampNeg) + v_11) ((f (k + 4).toNatClampNeg) + v_10) ((f (k + 5).toNatClampNeg) + v_11)).2.1, .int sh, .int tp, .int lf, .int bt, .int rt])), (h1, .inl (cA, 1000, .inl f)), (h2, .inl (cB, 1000, .inl (fX10_makeRange md ch f g k ((f k.toNatClampNeg) / 16) v_9 ((f (k + 2).toNatClampNeg) + v_10) ((f (k + 3).toNatClampNeg) + v_11) ((f (k + 4).toNatClampNeg) + v_10) ((f (k + 5).toNatClampNeg) + v_11)).2.2))] H := hP
                  have hD : va_D A [(h0, .inr (8, [.int cd, .int n, .ref h1, .int (fX10_makeRange md ch f g k ((f k.toNatClampNeg) / 16) v_9 ((f (k + 2).toNatClampNeg) + v_10) ((f (k + 3).toNatClampNeg) + v_11) ((f (k + 4).toNatClampNeg) + v_10) ((f (k + 5).toNatClampNeg) + v_11)).1, .ref h2, .int (fX10_makeRange md ch f g k ((f k.toNatClampNeg) / 16) v_9 ((f (k + 2).toNatClampNeg) + v_10) ((f (k + 3).toNatClampNeg) + v_11) ((f (k + 4).toNatClampNeg) + v_10) ((f (k + 5).toNatClampNeg) + v_11)).2.1, .int sh, .int tp, .int lf, .int bt, .int rt])), (h1, .inl (cA, 1000, .inl f)), (h2, .inl (cB, 1000, .inl (fX10_makeRange md ch f g k ((f k.toNatClampNeg) / 16) v_9 ((f (k + 2).toNatClampNeg) + v_10) ((f (k + 3).toNatClampNeg) + v_11) ((f (k + 4).toNatClampNeg) + v_10) ((f (k + 5).toNatClampNeg) + v_11)).2.2))] := hD
                  have hF : (fX10_moveItem_6 md ch sh tp lf bt rt f g k hm nh s1 rw cl) = ((fX10_makeRange md ch f g k ((f k.toNatClampNeg) / 16) v_9 ((f (k + 2).toNatClampNeg) + v_10) ((f (k + 3).toNatClampNeg) + v_11) ((f (k + 4).toNatClampNeg) + v_10) ((f (k + 5).toNatClampNeg) + v_11)).1, (fX10_makeRange md ch f g k ((f k.toNatClampNeg) / 16) v_9 ((f (k + 2).toNatClampNeg) + v_10) ((f (k + 3).toNatClampNeg) + v_11) ((f (k + 4).toNatClampNeg) + v_10) ((f (k + 5).toNatClampNeg) + v_11)).2.1, (fX10_makeRange md ch f g k ((f k.toNatClampNeg) / 16) v_9 ((f (k + 2).toNatClampNeg) + v_10) ((f (k + 3).toNatClampNeg) + v_11) ((f (k + 4).toNatClampNeg) + v_10) ((f (k + 5).toNatClampNeg) + v_11)).2.2) := by subst ev_11; subst ev_10; subst ev_9; subst ev_8; subst ev_3; subst ev_2; subst ev_1; exact ((if_pos c225).trans (if_pos c230))
                  subst hAe
                  subst hQe
                  exact W.vret hx hb hr (fun t ht hW => ⟨⟨_, rfl, ⟨(), trivial, by rw [hF]⟩, by rw [ht]; exact hP, hD⟩, hS.F ht⟩) hS.2.2 dX10_moveItem_349
                refine lv_if_ne (tgt := 288) hx hb dX10_moveItem_279 (by decide) (fun c279 => ?_) (fun c279 => ?_)
                · exact K288_9 _ (if_neg c279).symm _ (if_neg c279).symm ls (lv_sub hl [1, 2, 3, 4, 5, 6, 7, 8, 9, 0] rfl)
                · refine lv_iconst (v := 0) hx hb dX10_moveItem_282 (by decide) ?_
                  refine lv_istore (lv' := [(13, .int 0), (18, .int v_9), (0, .ref h0), (1, .int k), (7, .int 0), (9, .int (f (k + 2).toNatClampNeg)), (10, .int (f (k + 3).toNatClampNeg)), (11, .int (f (k + 4).toNatClampNeg)), (12, .int (f (k + 5).toNatClampNeg)), (14, .int (cl - lf)), (15, .int v_2)]) hx hb dX10_moveItem_283 hl (by decide) rfl (fun ls hl => ?_)
                  refine lv_iconst (v := 0) hx hb dX10_moveItem_285 (by decide) ?_
                  refine lv_istore (lv' := [(14, .int 0), (13, .int 0), (18, .int v_9), (0, .ref h0), (1, .int k), (7, .int 0), (9, .int (f (k + 2).toNatClampNeg)), (10, .int (f (k + 3).toNatClampNeg)), (11, .int (f (k + 4).toNatClampNeg)), (12, .int (f (k + 5).toNatClampNeg)), (15, .int v_2)]) hx hb dX10_moveItem_286 hl (by decide) rfl (fun ls hl => ?_)
                  exact K288_9 _ (if_pos c279).symm _ (if_pos c279).symm ls (lv_sub hl [3, 4, 5, 6, 7, 8, 9, 1, 0, 2] rfl)
              refine lv_if_ge (tgt := 273) hx hb dX10_moveItem_260 (by decide) (fun c260 => ?_) (fun c260 => ?_)
              · refine lv_iload hx hb dX10_moveItem_273 (lv_at hl 0 rfl) ?_
                exact K275_8 _ (if_pos c260).symm ls (lv_sub hl [1, 2, 4, 5, 6, 7, 8, 9, 10, 11] rfl)
              · refine lv_iload hx hb dX10_moveItem_263 (lv_at hl 0 rfl) ?_
                refine lv_iload_n hx hb dX10_moveItem_265 rfl (lv_at hl 3 rfl) ?_
                refine lv_icmp_ne (tgt := 273) hx hb dX10_moveItem_266 (by decide) (fun c266 => ?_) (fun c266 => ?_)
                · refine lv_iload hx hb dX10_moveItem_273 (lv_at hl 0 rfl) ?_
                  exact K275_8 _ ((if_neg c260).trans (if_neg c266)).symm ls (lv_sub hl [1, 2, 4, 5, 6, 7, 8, 9, 10, 11] rfl)
                · refine lv_iconst (v := (-1)) hx hb dX10_moveItem_269 (by decide) ?_
                  refine lv_goto (tgt := 275) hx hb dX10_moveItem_270 (by decide) ?_
                  exact K275_8 _ ((if_neg c260).trans (if_pos c266)).symm ls (lv_sub hl [1, 2, 4, 5, 6, 7, 8, 9, 10, 11] rfl)
            refine lv_if_eq (tgt := 248) hx hb dX10_moveItem_240 (by decide) (fun c240 => ?_) (fun c240 => ?_)
            · refine lv_iload hx hb dX10_moveItem_248 (lv_at hl 6 rfl) ?_
              exact K250_7 _ (if_pos c240).symm ls (lv_sub hl [1, 2, 3, 5, 7, 8, 9, 10, 11, 12, 13] rfl)
            · refine lv_iload hx hb dX10_moveItem_243 (lv_at hl 4 rfl) ?_
              refine lv_goto (tgt := 250) hx hb dX10_moveItem_245 (by decide) ?_
              exact K250_7 _ (if_neg c240).symm ls (lv_sub hl [1, 2, 3, 5, 7, 8, 9, 10, 11, 12, 13] rfl)
          · refine lv_aload_n hx hb dX10_moveItem_233 rfl (lv_at hl 1 rfl) ?_
            have hPc := hP.sub (ws' := [(h0, .inr (8, [.int cd, .int n, .ref h1, .int md, .ref h2, .int ch, .int sh, .int tp, .int lf, .int bt, .int rt])), (h1, .inl (cA, 1000, .inl f)), (h2, .inl (cB, 1000, .inl g))]) [0, 1, 2] rfl
            have hDc := hD.sub (ws' := [(h0, .inr (8, [.int cd, .int n, .ref h1, .int md, .ref h2, .int ch, .int sh, .int tp, .int lf, .int bt, .int rt])), (h1, .inl (cA, 1000, .inl f)), (h2, .inl (cB, 1000, .inl g))]) [0, 1, 2] (by decide) rfl
            have hKc := hK.sub (tys' := [(cA, .int), (cB, .int)]) [0, 1] rfl
            refine wk_v (β := Unit) (ok := fun _ => True) (wc := [(h0, .inr (8, [.int cd, .int n, .ref h1, .int md, .ref h2, .int ch, .int sh, .int tp, .int lf, .int bt, .int rt])), (h1, .inl (cA, 1000, .inl f)), (h2, .inl (cB, 1000, .inl g))]) (wr := []) (w1 := fun _ => [(h0, .inr (8, [.int cd, .int n, .ref h1, .int (md + 1), .ref h2, .int (ch + 1), .int sh, .int tp, .int lf, .int bt, .int rt])), (h1, .inl (cA, 1000, .inl f)), (h2, .inl (cB, 1000, .inl (upd g md.toNatClampNeg 67)))]) (ws2 := fun _ => [(h0, .inr (8, [.int cd, .int n, .ref h1, .int (md + 1), .ref h2, .int (ch + 1), .int sh, .int tp, .int lf, .int bt, .int rt])), (h1, .inl (cA, 1000, .inl f)), (h2, .inl (cB, 1000, .inl (upd g md.toNatClampNeg 67)))]) (va_runV (As := []) (rest := []) ⟨hx, hb, hml, hown, hts⟩ (kX10_lose l D H.size h0 h1 h2 cA cB cd n md ch sh tp lf bt rt f g (in_w hq (by decide))) (cwV 0 hts gX10_moveItem_X10_lose rfl rfl rfl (by decide +kernel) ⟨Nat.le_of_ble_eq_true rfl, Nat.le_of_ble_eq_true rfl⟩) ⟨Pw_blind, (va_recv hKc hPc (ci := 8) (q0 := 0) rfl rfl), fun U hU hW => Pw_at hKc hPc hDc hN hU hW⟩ rfl rfl hl.1 rfl (lv_room (Nat.le_of_ble_eq_true rfl)) dX10_moveItem_234 ⟨Nat.le_of_ble_eq_true rfl, Nat.le_of_ble_eq_true rfl⟩) hP hD hS hA [0, 1, 2] [] [0, 1, 2] rfl rfl (by decide) (by decide) (fun _ => rfl) (by decide) (fun _ _ H locs hP hD hS => ?_)
            have hP : va_P D vwCl [(h0, .inr (8, [.int cd, .int n, .ref h1, .int (md + 1), .ref h2, .int (ch + 1), .int sh, .int tp, .int lf, .int bt, .int rt])), (h1, .inl (cA, 1000, .inl f)), (h2, .inl (cB, 1000, .inl (upd g md.toNatClampNeg 67)))] H := hP
            have hD : va_D A [(h0, .inr (8, [.int cd, .int n, .ref h1, .int (md + 1), .ref h2, .int (ch + 1), .int sh, .int tp, .int lf, .int bt, .int rt])), (h1, .inl (cA, 1000, .inl f)), (h2, .inl (cB, 1000, .inl (upd g md.toNatClampNeg 67)))] := hD
            have hF : (fX10_moveItem_6 md ch sh tp lf bt rt f g k hm nh s1 rw cl) = ((md + 1), (ch + 1), (upd g md.toNatClampNeg 67)) := by subst ev_3; subst ev_2; subst ev_1; exact ((if_pos c225).trans (if_neg c230))
            subst hAe
            subst hQe
            exact W.vret hx hb hr (fun t ht hW => ⟨⟨_, rfl, ⟨(), trivial, by rw [hF]⟩, by rw [ht]; exact hP, hD⟩, hS.F ht⟩) hS.2.2 dX10_moveItem_237
      refine lv_icmp_ne (tgt := 220) hx hb dX10_moveItem_175 (by decide) (fun c175 => ?_) (fun c175 => ?_)
      · refine lv_iconst (v := 0) hx hb dX10_moveItem_220 (by decide) ?_
        exact K221_3 _ (if_neg c175).symm ls (lv_sub hl [1, 2, 3, 4, 7, 8, 9, 10, 11, 12, 13, 14, 0] rfl)
      · refine lv_iload hx hb dX10_moveItem_178 (lv_at hl 9 rfl) ?_
        refine lv_iload hx hb dX10_moveItem_180 (lv_at hl 5 rfl) ?_
        refine lv_icmp_lt (tgt := 220) hx hb dX10_moveItem_182 (by decide) (fun c182 => ?_) (fun c182 => ?_)
        · refine lv_iconst (v := 0) hx hb dX10_moveItem_220 (by decide) ?_
          exact K221_3 _ ((if_pos c175).trans (if_pos c182)).symm ls (lv_sub hl [1, 2, 3, 4, 7, 8, 9, 10, 11, 12, 13, 14, 0] rfl)
        · refine lv_iload hx hb dX10_moveItem_185 (lv_at hl 11 rfl) ?_
          refine lv_aload_n hx hb dX10_moveItem_187 rfl (lv_at hl 1 rfl) ?_
          refine va_get (D := D) (ci := 8) (v := .int bt) (C := RX10) (T := TX10) (N := 11) hx hb hts w_X10 hown hK hP 0 rfl rfl 9 (by decide) f_23 (fun _ h9 => h9) rfl dX10_moveItem_188 ?_
          refine lv_iload hx hb dX10_moveItem_191 (lv_at hl 13 rfl) ?_
          refine lv_iadd hx hb dX10_moveItem_193 ?_
          refine lv_icmp_gt (tgt := 220) hx hb dX10_moveItem_194 (by decide) (fun c194 => ?_) (fun c194 => ?_)
          · refine lv_iconst (v := 0) hx hb dX10_moveItem_220 (by decide) ?_
            exact K221_3 _ ((if_pos c175).trans ((if_neg c182).trans (if_pos c194))).symm ls (lv_sub hl [1, 2, 3, 4, 7, 8, 9, 10, 11, 12, 13, 14, 0] rfl)
          · refine lv_iload hx hb dX10_moveItem_197 (lv_at hl 10 rfl) ?_
            refine lv_iload hx hb dX10_moveItem_199 (lv_at hl 6 rfl) ?_
            refine lv_icmp_lt (tgt := 220) hx hb dX10_moveItem_201 (by decide) (fun c201 => ?_) (fun c201 => ?_)
            · refine lv_iconst (v := 0) hx hb dX10_moveItem_220 (by decide) ?_
              exact K221_3 _ ((if_pos c175).trans ((if_neg c182).trans ((if_neg c194).trans (if_pos c201)))).symm ls (lv_sub hl [1, 2, 3, 4, 7, 8, 9, 10, 11, 12, 13, 14, 0] rfl)
            · refine lv_iload hx hb dX10_moveItem_204 (lv_at hl 12 rfl) ?_
              refine lv_aload_n hx hb dX10_moveItem_206 rfl (lv_at hl 1 rfl) ?_
              refine va_get (D := D) (ci := 8) (v := .int rt) (C := RX10) (T := TX10) (N := 11) hx hb hts w_X10 hown hK hP 0 rfl rfl 10 (by decide) f_26 (fun _ h9 => h9) rfl dX10_moveItem_207 ?_
              refine lv_iload hx hb dX10_moveItem_210 (lv_at hl 14 rfl) ?_
              refine lv_iadd hx hb dX10_moveItem_212 ?_
              refine lv_icmp_gt (tgt := 220) hx hb dX10_moveItem_213 (by decide) (fun c213 => ?_) (fun c213 => ?_)
              · refine lv_iconst (v := 0) hx hb dX10_moveItem_220 (by decide) ?_
                exact K221_3 _ ((if_pos c175).trans ((if_neg c182).trans ((if_neg c194).trans ((if_neg c201).trans (if_pos c213))))).symm ls (lv_sub hl [1, 2, 3, 4, 7, 8, 9, 10, 11, 12, 13, 14, 0] rfl)
              · refine lv_iconst (v := 1) hx hb dX10_moveItem_216 (by decide) ?_
                refine lv_goto (tgt := 221) hx hb dX10_moveItem_217 (by decide) ?_
                exact K221_3 _ ((if_pos c175).trans ((if_neg c182).trans ((if_neg c194).trans ((if_neg c201).trans (if_neg c213))))).symm ls (lv_sub hl [1, 2, 3, 4, 7, 8, 9, 10, 11, 12, 13, 14, 0] rfl)
    refine lv_icmp_ne (tgt := 168) hx hb dX10_moveItem_125 (by decide) (fun c125 => ?_) (fun c125 => ?_)
    · refine lv_iconst (v := 0) hx hb dX10_moveItem_168 (by decide) ?_
      exact K169_2 _ (if_neg c125).symm ls (lv_sub hl [7, 8, 9, 10, 11, 12, 13, 6, 5, 4, 3, 2, 1, 0] rfl)
    · refine lv_iload hx hb dX10_moveItem_128 (lv_at hl 5 rfl) ?_
      refine lv_aload_n hx hb dX10_moveItem_130 rfl (lv_at hl 7 rfl) ?_
      refine va_get (D := D) (ci := 8) (v := .int tp) (C := RX10) (T := TX10) (N := 11) hx hb hts w_X10 hown hK hP 0 rfl rfl 7 (by decide) f_16 (fun _ h9 => h9) rfl dX10_moveItem_131 ?_
      refine lv_icmp_lt (tgt := 168) hx hb dX10_moveItem_134 (by decide) (fun c134 => ?_) (fun c134 => ?_)
      · refine lv_iconst (v := 0) hx hb dX10_moveItem_168 (by decide) ?_
        exact K169_2 _ ((if_pos c125).trans (if_pos c134)).symm ls (lv_sub hl [7, 8, 9, 10, 11, 12, 13, 6, 5, 4, 3, 2, 1, 0] rfl)
      · refine lv_iload hx hb dX10_moveItem_137 (lv_at hl 3 rfl) ?_
        refine lv_aload_n hx hb dX10_moveItem_139 rfl (lv_at hl 7 rfl) ?_
        refine va_get (D := D) (ci := 8) (v := .int bt) (C := RX10) (T := TX10) (N := 11) hx hb hts w_X10 hown hK hP 0 rfl rfl 9 (by decide) f_23 (fun _ h9 => h9) rfl dX10_moveItem_140 ?_
        refine lv_icmp_gt (tgt := 168) hx hb dX10_moveItem_143 (by decide) (fun c143 => ?_) (fun c143 => ?_)
        · refine lv_iconst (v := 0) hx hb dX10_moveItem_168 (by decide) ?_
          exact K169_2 _ ((if_pos c125).trans ((if_neg c134).trans (if_pos c143))).symm ls (lv_sub hl [7, 8, 9, 10, 11, 12, 13, 6, 5, 4, 3, 2, 1, 0] rfl)
        · refine lv_iload hx hb dX10_moveItem_146 (lv_at hl 4 rfl) ?_
          refine lv_aload_n hx hb dX10_moveItem_148 rfl (lv_at hl 7 rfl) ?_
          refine va_get (D := D) (ci := 8) (v := .int lf) (C := RX10) (T := TX10) (N := 11) hx hb hts w_X10 hown hK hP 0 rfl rfl 8 (by decide) f_20 (fun _ h9 => h9) rfl dX10_moveItem_149 ?_
          refine lv_icmp_lt (tgt := 168) hx hb dX10_moveItem_152 (by decide) (fun c152 => ?_) (fun c152 => ?_)
          · refine lv_iconst (v := 0) hx hb dX10_moveItem_168 (by decide) ?_
            exact K169_2 _ ((if_pos c125).trans ((if_neg c134).trans ((if_neg c143).trans (if_pos c152)))).symm ls (lv_sub hl [7, 8, 9, 10, 11, 12, 13, 6, 5, 4, 3, 2, 1, 0] rfl)
          · refine lv_iload hx hb dX10_moveItem_155 (lv_at hl 2 rfl) ?_
            refine lv_aload_n hx hb dX10_moveItem_157 rfl (lv_at hl 7 rfl) ?_
            refine va_get (D := D) (ci := 8) (v := .int rt) (C := RX10) (T := TX10) (N := 11) hx hb hts w_X10 hown hK hP 0 rfl rfl 10 (by decide) f_26 (fun _ h9 => h9) rfl dX10_moveItem_158 ?_
            refine lv_icmp_gt (tgt := 168) hx hb dX10_moveItem_161 (by decide) (fun c161 => ?_) (fun c161 => ?_)
            · refine lv_iconst (v := 0) hx hb dX10_moveItem_168 (by decide) ?_
              exact K169_2 _ ((if_pos c125).trans ((if_neg c134).trans ((if_neg c143).trans ((if_neg c152).trans (if_pos c161))))).symm ls (lv_sub hl [7, 8, 9, 10, 11, 12, 13, 6, 5, 4, 3, 2, 1, 0] rfl)
            · refine lv_iconst (v := 1) hx hb dX10_moveItem_164 (by decide) ?_
              refine lv_goto (tgt := 169) hx hb dX10_moveItem_165 (by decide) ?_
              exact K169_2 _ ((if_pos c125).trans ((if_neg c134).trans ((if_neg c143).trans ((if_neg c152).trans (if_neg c161))))).symm ls (lv_sub hl [7, 8, 9, 10, 11, 12, 13, 6, 5, 4, 3, 2, 1, 0] rfl)
  refine lv_if_ge (tgt := 31) hx hb dX10_moveItem_24 (by decide) (fun c24 => ?_) (fun c24 => ?_)
  · refine lv_aload_n hx hb dX10_moveItem_31 rfl (lv_at hl 1 rfl) ?_
    refine va_get (D := D) (ci := 8) (v := .ref h1) (C := RX10) (T := TX10) (N := 11) hx hb hts w_X10 hown hK hP 0 rfl rfl 2 (by decide) f_7 (fun _ h9 => h9) rfl dX10_moveItem_32 ?_
    refine lv_iload_n hx hb dX10_moveItem_35 rfl (lv_at hl 2 rfl) ?_
    refine lv_iconst (v := 1) hx hb dX10_moveItem_36 (by decide) ?_
    refine lv_iadd hx hb dX10_moveItem_37 ?_
    refine va_iald hx hb hK hP 1 0 rfl rfl (in_add (c := 1) (n := 1000) hk (by decide) (by decide) (by decide)) dX10_moveItem_38 ?_
    exact K39_1 _ (if_pos c24).symm ls (lv_sub hl [1, 2, 4, 5, 6, 7, 0] rfl)
  · refine lv_iload_n hx hb dX10_moveItem_27 rfl (lv_at hl 3 rfl) ?_
    refine lv_goto (tgt := 39) hx hb dX10_moveItem_28 (by decide) ?_
    exact K39_1 _ (if_neg c24).symm ls (lv_sub hl [1, 2, 4, 5, 6, 7, 0] rfl)
