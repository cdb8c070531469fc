abbrev rmX10_move : Room := { frames := 3, cells := 0, slots := 0, locals := 87 }
def fsmv_0 (md : Int32) (ch : Int32) (tp : Int32) (lf : Int32) (bt : Int32) (rt : Int32) (hom : Int32) (nh : Int32) (si : Int32) (rw : Int32) (cl : Int32) : Int32 × Int32 × Int32 × Int32 := let v_1 : Int32 := (if (fX10_within hom 0 7) = 0 then 0 else (if (fX10_within nh 0 7) = 0 then 0 else (if (fX10_within si 0 7) = 0 then 0 else (if (fX10_isCell rw cl) = 0 then 0 else (if 1048576 < ((rw + bt) - tp) then 0 else (if 16384 < ((cl + rt) - lf) then 0 else 1)))))); let v_2 : Int32 := (if v_1 = 0 then 1 else 0); if v_2 = 0 then (1, v_2, 0, 0) else (0, v_2, md, ch)
set_option maxHeartbeats 4000000 in
set_option maxRecDepth 100000 in
theorem ksmv_0 {p : Program} {l : Launch} {e : Env} {s : State} {m : MethodId} {below : List Frame} {meth : Method} {c : Code} {args : Array Value} {A : Nat → Prop} {D : va_G} {Qc : Array Value → State → Outcome → State → Prop} {free : Addr → Prop} (hfr : ∀ q, A q → free q)  (h0 : Nat) (h1 : Nat) (h2 : Nat) (cA : ClassId) (cB : ClassId) (cd : Int32) (n : Int32) (md : Int32) (ch : Int32) (sh : Int32) (tp : Int32) (lf : Int32) (bt : Int32) (rt : Int32) (f : Nat → Int32) (g : Nat → Int32) (hom : Int32) (nh : Int32) (si : Int32) (rw : Int32) (cl : Int32) (C : Cx p s m meth c args D [(cA, .int), (cB, .int)] A cX10_move wsX10_move RX10 (some .int) 8) (KS : (fsmv_0 md ch tp lf bt rt hom nh si rw cl).1 = 1 → ∀ (H : Heap) (locs : List Loc) (ls : Array Slot), va_P D vwCl [(h0, .inr (8, [.int (fsmv_0 md ch tp lf bt rt hom nh si rw cl).2.1, .int n, .ref h1, .int (fsmv_0 md ch tp lf bt rt hom nh si rw cl).2.2.1, .ref h2, .int (fsmv_0 md ch tp lf bt rt hom nh si rw cl).2.2.2, .int sh, .int tp, .int lf, .int bt, .int rt])), (h1, .inl (cA, 1000, .inl f)), (h2, .inl (cB, 1000, .inl g))] H → va_D A [(h0, .inr (8, [.int (fsmv_0 md ch tp lf bt rt hom nh si rw cl).2.1, .int n, .ref h1, .int (fsmv_0 md ch tp lf bt rt hom nh si rw cl).2.2.1, .ref h2, .int (fsmv_0 md ch tp lf bt rt hom nh si rw cl).2.2.2, .int sh, .int tp, .int lf, .int bt, .int rt])), (h1, .inl (cA, 1000, .inl f)), (h2, .inl (cB, 1000, .inl g))] → va_S A s.heap H locs → lv_has ls 8 [(0, .ref h0), (1, .int hom), (2, .int nh), (3, .int si), (4, .int rw), (5, .int cl), (7, .int 0)] → W p l e (headSpec wsX10_move rmX10_move).room s m args below meth c H locs 0 0 (MQ below Qc args s 0 0 free) (F0 m 112 ls [])) (KR : (fsmv_0 md ch tp lf bt rt hom nh si rw cl).1 = 0 → ∀ (H : Heap) (locs : List Loc), va_P D vwCl [(h0, .inr (8, [.int (fsmv_0 md ch tp lf bt rt hom nh si rw cl).2.1, .int n, .ref h1, .int (fsmv_0 md ch tp lf bt rt hom nh si rw cl).2.2.1, .ref h2, .int (fsmv_0 md ch tp lf bt rt hom nh si rw cl).2.2.2, .int sh, .int tp, .int lf, .int bt, .int rt])), (h1, .inl (cA, 1000, .inl f)), (h2, .inl (cB, 1000, .inl g))] H → va_D A [(h0, .inr (8, [.int (fsmv_0 md ch tp lf bt rt hom nh si rw cl).2.1, .int n, .ref h1, .int (fsmv_0 md ch tp lf bt rt hom nh si rw cl).2.2.1, .ref h2, .int (fsmv_0 md ch tp lf bt rt hom nh si rw cl).2.2.2, .int sh, .int tp, .int lf, .int bt, .int rt])), (h1, .inl (cA, 1000, .inl f)), (h2, .inl (cB, 1000, .inl g))] → va_S A s.heap H locs → ∀ t : State, t.heap = H → s.WarmedH t.vm → Qc args s (.returned (some (.int 0))) t) : ∀ (H : Heap) (locs : List Loc) (ls : Array Slot), va_P D vwCl [(h0, .inr (8, [.int cd, .int n, .ref h1, .int md, .ref h2, .int ch, .int sh, .int tp, .int lf, .int bt, .int rt])), (h1, .inl (cA, 1000, .inl f)), (h2, .inl (cB, 1000, .inl g))] H → va_D A [(h0, .inr (8, [.int cd, .int n, .ref h1, .int md, .ref h2, .int ch, .int sh, .int tp, .int lf, .int bt, .int rt])), (h1, .inl (cA, 1000, .inl f)), (h2, .inl (cB, 1000, .inl g))] → va_S A s.heap H locs → lv_has ls 8 [(0, .ref h0), (1, .int hom), (2, .int nh), (3, .int si), (4, .int rw), (5, .int cl)] → W p l e (headSpec wsX10_move rmX10_move).room s m args below meth c H locs 0 0 (MQ below Qc args s 0 0 free) (F0 m 0 ls []) := by
  obtain ⟨hx, hb, hr, hml, hown, hts, hlocks, hK, hN, hA⟩ := C
  intro H locs ls hP hD hS hl
  have w_X10 : ∀ w ∈ wsX100, w ∈ wsX10_move := by decide +kernel
  have f_23 := hts (.fieldLink RX10 23 "ReferenceMoverModel" "bottom" "I") (by decide +kernel)
  have f_16 := hts (.fieldLink RX10 16 "ReferenceMoverModel" "top" "I") (by decide +kernel)
  have k_39 := hts (.constant RX10 39 (1048576)) (by decide +kernel)
  have f_26 := hts (.fieldLink RX10 26 "ReferenceMoverModel" "right" "I") (by decide +kernel)
  have f_20 := hts (.fieldLink RX10 20 "ReferenceMoverModel" "left" "I") (by decide +kernel)
  have f_29 := hts (.fieldLink RX10 29 "ReferenceMoverModel" "code" "I") (by decide +kernel)
  refine lv_iload_n hx hb dX10_move_0 rfl (lv_at hl 1 rfl) ?_
  refine lv_iconst (v := 0) hx hb dX10_move_1 (by decide) ?_
  refine lv_bipush (v := 7) hx hb dX10_move_2 (by decide) ?_
  have hPc := hP.sub (ws' := []) [] rfl
  have hDc := hD.sub (ws' := []) [] (by decide) rfl
  have hKc := hK.sub (tys' := []) [] rfl
  refine rd_i (va_runS (As := [.int hom, .int 0, .int 7]) (rest := []) ⟨hx, hb, hml, hown, hts⟩ (kX10_within l D H.size hom 0 7 ) (va_cwS 3 hts gX10_move_X10_within rfl rfl rfl (by decide +kernel) ⟨Nat.le_of_ble_eq_true rfl, Nat.le_of_ble_eq_true rfl⟩) ⟨Pw_blind, fun U hU hW => Pw_at hKc hPc hDc hN hU hW⟩ rfl rfl hl.1 rfl (lv_room (Nat.le_of_ble_eq_true rfl)) dX10_move_4 ⟨Nat.le_of_ble_eq_true rfl, Nat.le_of_ble_eq_true rfl⟩) ?_
  have K80_1 : ∀ (v_1 : Int32), v_1 = (if (fX10_within hom 0 7) = 0 then 0 else (if (fX10_within nh 0 7) = 0 then 0 else (if (fX10_within si 0 7) = 0 then 0 else (if (fX10_isCell rw cl) = 0 then 0 else (if 1048576 < ((rw + bt) - tp) then 0 else (if 16384 < ((cl + rt) - lf) then 0 else 1)))))) → ∀ ls : Array Slot, lv_has ls 8 [(0, .ref h0), (1, .int hom), (2, .int nh), (3, .int si), (4, .int rw), (5, .int cl)] → W p l e (headSpec wsX10_move rmX10_move).room s m args below meth c H locs 0 0 (MQ below Qc args s 0 0 free) (F0 m 80 ls [.int v_1]) := by
    intro v_1 ev_1 ls hl
    refine lv_istore (lv' := [(6, .int v_1), (0, .ref h0), (1, .int hom), (2, .int nh), (3, .int si), (4, .int rw), (5, .int cl)]) hx hb dX10_move_80 hl (by decide) rfl (fun ls hl => ?_)
    refine lv_aload_n hx hb dX10_move_82 rfl (lv_at hl 1 rfl) ?_
    refine lv_iload hx hb dX10_move_83 (lv_at hl 0 rfl) ?_
    have K93_2 : ∀ (v_2 : Int32), v_2 = (if v_1 = 0 then 1 else 0) → ∀ ls : Array Slot, lv_has ls 8 [(0, .ref h0), (1, .int hom), (2, .int nh), (3, .int si), (4, .int rw), (5, .int cl)] → W p l e (headSpec wsX10_move rmX10_move).room s m args below meth c H locs 0 0 (MQ below Qc args s 0 0 free) (F0 m 93 ls [.int v_2, .ref h0]) := by
      intro v_2 ev_2 ls hl
      refine va_put (D := D) (ci := 8) (v := .int v_2) (ty := .int) (C := RX10) (T := TX10) (N := 11) hx hb hts w_X10 tyX10 tyX10_ok nmX10 hown hK hP hD hS 0 rfl rfl 0 (by decide) f_29 (fun _ h9 => h9) rfl (by decide +kernel) rfl rfl (Nat.le_of_ble_eq_true rfl) dX10_move_93 (fun H locs hP hD hS => ?_)
      have hP : va_P D vwCl [(h0, .inr (8, [.int v_2, .int n, .ref h1, .int md, .ref h2, .int ch, .int sh, .int tp, .int lf, .int bt, .int rt])), (h1, .inl (cA, 1000, .inl f)), (h2, .inl (cB, 1000, .inl g))] H := hP
      have hD : va_D A [(h0, .inr (8, [.int v_2, .int n, .ref h1, .int md, .ref h2, .int ch, .int sh, .int tp, .int lf, .int bt, .int rt])), (h1, .inl (cA, 1000, .inl f)), (h2, .inl (cB, 1000, .inl g))] := hD
      refine lv_aload_n hx hb dX10_move_96 rfl (lv_at hl 0 rfl) ?_
      refine va_get (D := D) (ci := 8) (v := .int v_2) (C := RX10) (T := TX10) (N := 11) hx hb hts w_X10 hown hK hP 0 rfl rfl 0 (by decide) f_29 (fun _ h9 => h9) rfl dX10_move_97 ?_
      refine lv_if_eq (tgt := 105) hx hb dX10_move_100 (by decide) (fun c100 => ?_) (fun c100 => ?_)
      · refine lv_aload_n hx hb dX10_move_105 rfl (lv_at hl 0 rfl) ?_
        have hPc := hP.sub (ws' := [(h0, .inr (8, [.int v_2, .int n, .ref h1, .int md, .ref h2, .int ch, .int sh, .int tp, .int lf, .int bt, .int rt])), (h1, .inl (cA, 1000, .inl f)), (h2, .inl (cB, 1000, .inl g))]) [0, 1, 2] rfl
        have hDc := hD.sub (ws' := [(h0, .inr (8, [.int v_2, .int n, .ref h1, .int md, .ref h2, .int ch, .int sh, .int tp, .int lf, .int bt, .int rt])), (h1, .inl (cA, 1000, .inl f)), (h2, .inl (cB, 1000, .inl g))]) [0, 1, 2] (by decide) rfl
        have hKc := hK.sub (tys' := [(cA, .int), (cB, .int)]) [0, 1] rfl
        refine wk_v (β := Unit) (ok := fun _ => True) (wc := [(h0, .inr (8, [.int v_2, .int n, .ref h1, .int md, .ref h2, .int ch, .int sh, .int tp, .int lf, .int bt, .int rt])), (h1, .inl (cA, 1000, .inl f)), (h2, .inl (cB, 1000, .inl g))]) (wr := []) (w1 := fun _ => [(h0, .inr (8, [.int v_2, .int n, .ref h1, .int 0, .ref h2, .int 0, .int sh, .int tp, .int lf, .int bt, .int rt])), (h1, .inl (cA, 1000, .inl f)), (h2, .inl (cB, 1000, .inl g))]) (ws2 := fun _ => [(h0, .inr (8, [.int v_2, .int n, .ref h1, .int 0, .ref h2, .int 0, .int sh, .int tp, .int lf, .int bt, .int rt])), (h1, .inl (cA, 1000, .inl f)), (h2, .inl (cB, 1000, .inl g))]) (va_runV (As := []) (rest := []) ⟨hx, hb, hml, hown, hts⟩ (kX10_begin l D H.size h0 h1 h2 cA cB v_2 n md ch sh tp lf bt rt f g ) (cwV 0 hts gX10_move_X10_begin rfl rfl rfl (by decide +kernel) ⟨Nat.le_of_ble_eq_true rfl, Nat.le_of_ble_eq_true rfl⟩) ⟨Pw_blind, (va_recv hKc hPc (ci := 8) (q0 := 0) rfl rfl), fun U hU hW => Pw_at hKc hPc hDc hN hU hW⟩ rfl rfl hl.1 rfl (lv_room (Nat.le_of_ble_eq_true rfl)) dX10_move_106 ⟨Nat.le_of_ble_eq_true rfl, Nat.le_of_ble_eq_true rfl⟩) hP hD hS hA [0, 1, 2] [] [0, 1, 2] rfl rfl (by decide) (by decide) (fun _ => rfl) (by decide) (fun _ _ H locs hP hD hS => ?_)
        have hP : va_P D vwCl [(h0, .inr (8, [.int v_2, .int n, .ref h1, .int 0, .ref h2, .int 0, .int sh, .int tp, .int lf, .int bt, .int rt])), (h1, .inl (cA, 1000, .inl f)), (h2, .inl (cB, 1000, .inl g))] H := hP
        have hD : va_D A [(h0, .inr (8, [.int v_2, .int n, .ref h1, .int 0, .ref h2, .int 0, .int sh, .int tp, .int lf, .int bt, .int rt])), (h1, .inl (cA, 1000, .inl f)), (h2, .inl (cB, 1000, .inl g))] := hD
        refine lv_iconst (v := 0) hx hb dX10_move_109 (by decide) ?_
        refine lv_istore (lv' := [(7, .int 0), (0, .ref h0), (1, .int hom), (2, .int nh), (3, .int si), (4, .int rw), (5, .int cl)]) hx hb dX10_move_110 hl (by decide) rfl (fun ls hl => ?_)
        have hF : (fsmv_0 md ch tp lf bt rt hom nh si rw cl) = (1, v_2, 0, 0) := by subst ev_2; subst ev_1; exact (if_pos c100)
        exact KS (by rw [hF]) H locs ls (by rw [hF]; exact hP) (by rw [hF]; exact hD) hS (lv_sub hl [1, 2, 3, 4, 5, 6, 0] rfl)
      · refine lv_iconst (v := 0) hx hb dX10_move_103 (by decide) ?_
        have hF : (fsmv_0 md ch tp lf bt rt hom nh si rw cl) = (0, v_2, md, ch) := by subst ev_2; subst ev_1; exact (if_neg c100)
        exact W.iret (v := 0) hx hb hr (fun t ht hW => KR (by rw [hF]) H locs (by rw [hF]; exact hP) (by rw [hF]; exact hD) hS t ht hW) (fun q h => hfr _ (hS.2.2 q h)) dX10_move_104
    refine lv_if_eq (tgt := 92) hx hb dX10_move_85 (by decide) (fun c85 => ?_) (fun c85 => ?_)
    · refine lv_iconst (v := 1) hx hb dX10_move_92 (by decide) ?_
      exact K93_2 _ (if_pos c85).symm ls (lv_sub hl [1, 2, 3, 4, 5, 6] rfl)
    · refine lv_iconst (v := 0) hx hb dX10_move_88 (by decide) ?_
      refine lv_goto (tgt := 93) hx hb dX10_move_89 (by decide) ?_
      exact K93_2 _ (if_neg c85).symm ls (lv_sub hl [1, 2, 3, 4, 5, 6] rfl)
  refine lv_if_eq (tgt := 79) hx hb dX10_move_7 (by decide) (fun c7 => ?_) (fun c7 => ?_)
  · refine lv_iconst (v := 0) hx hb dX10_move_79 (by decide) ?_
    exact K80_1 _ (if_pos c7).symm ls (lv_sub hl [0, 1, 2, 3, 4, 5] rfl)
  · refine lv_iload_n hx hb dX10_move_10 rfl (lv_at hl 2 rfl) ?_
    refine lv_iconst (v := 0) hx hb dX10_move_11 (by decide) ?_
    refine lv_bipush (v := 7) hx hb dX10_move_12 (by decide) ?_
    have hPc := hP.sub (ws' := []) [] rfl
    have hDc := hD.sub (ws' := []) [] (by decide) rfl
    have hKc := hK.sub (tys' := []) [] rfl
    refine rd_i (va_runS (As := [.int nh, .int 0, .int 7]) (rest := []) ⟨hx, hb, hml, hown, hts⟩ (kX10_within l D H.size nh 0 7 ) (va_cwS 3 hts gX10_move_X10_within rfl rfl rfl (by decide +kernel) ⟨Nat.le_of_ble_eq_true rfl, Nat.le_of_ble_eq_true rfl⟩) ⟨Pw_blind, fun U hU hW => Pw_at hKc hPc hDc hN hU hW⟩ rfl rfl hl.1 rfl (lv_room (Nat.le_of_ble_eq_true rfl)) dX10_move_14 ⟨Nat.le_of_ble_eq_true rfl, Nat.le_of_ble_eq_true rfl⟩) ?_
    refine lv_if_eq (tgt := 79) hx hb dX10_move_17 (by decide) (fun c17 => ?_) (fun c17 => ?_)
    · refine lv_iconst (v := 0) hx hb dX10_move_79 (by decide) ?_
      exact K80_1 _ ((if_neg c7).trans (if_pos c17)).symm ls (lv_sub hl [0, 1, 2, 3, 4, 5] rfl)
    · refine lv_iload_n hx hb dX10_move_20 rfl (lv_at hl 3 rfl) ?_
      refine lv_iconst (v := 0) hx hb dX10_move_21 (by decide) ?_
      refine lv_bipush (v := 7) hx hb dX10_move_22 (by decide) ?_
      have hPc := hP.sub (ws' := []) [] rfl
      have hDc := hD.sub (ws' := []) [] (by decide) rfl
      have hKc := hK.sub (tys' := []) [] rfl
      refine rd_i (va_runS (As := [.int si, .int 0, .int 7]) (rest := []) ⟨hx, hb, hml, hown, hts⟩ (kX10_within l D H.size si 0 7 ) (va_cwS 3 hts gX10_move_X10_within rfl rfl rfl (by decide +kernel) ⟨Nat.le_of_ble_eq_true rfl, Nat.le_of_ble_eq_true rfl⟩) ⟨Pw_blind, fun U hU hW => Pw_at hKc hPc hDc hN hU hW⟩ rfl rfl hl.1 rfl (lv_room (Nat.le_of_ble_eq_true rfl)) dX10_move_24 ⟨Nat.le_of_ble_eq_true rfl, Nat.le_of_ble_eq_true rfl⟩) ?_
      refine lv_if_eq (tgt := 79) hx hb dX10_move_27 (by decide) (fun c27 => ?_) (fun c27 => ?_)
      · refine lv_iconst (v := 0) hx hb dX10_move_79 (by decide) ?_
        exact K80_1 _ ((if_neg c7).trans ((if_neg c17).trans (if_pos c27))).symm ls (lv_sub hl [0, 1, 2, 3, 4, 5] rfl)
      · refine lv_iload hx hb dX10_move_30 (lv_at hl 4 rfl) ?_
        refine lv_iload hx hb dX10_move_32 (lv_at hl 5 rfl) ?_
        have hPc := hP.sub (ws' := []) [] rfl
        have hDc := hD.sub (ws' := []) [] (by decide) rfl
        have hKc := hK.sub (tys' := []) [] rfl
        refine rd_i (va_runS (As := [.int rw, .int cl]) (rest := []) ⟨hx, hb, hml, hown, hts⟩ (kX10_isCell l D H.size rw cl ) (va_cwS 2 hts gX10_move_X10_isCell rfl rfl rfl (by decide +kernel) ⟨Nat.le_of_ble_eq_true rfl, Nat.le_of_ble_eq_true rfl⟩) ⟨Pw_blind, fun U hU hW => Pw_at hKc hPc hDc hN hU hW⟩ rfl rfl hl.1 rfl (lv_room (Nat.le_of_ble_eq_true rfl)) dX10_move_34 ⟨Nat.le_of_ble_eq_true rfl, Nat.le_of_ble_eq_true rfl⟩) ?_
        refine lv_if_eq (tgt := 79) hx hb dX10_move_37 (by decide) (fun c37 => ?_) (fun c37 => ?_)
        · refine lv_iconst (v := 0) hx hb dX10_move_79 (by decide) ?_
          exact K80_1 _ ((if_neg c7).trans ((if_neg c17).trans ((if_neg c27).trans (if_pos c37)))).symm ls (lv_sub hl [0, 1, 2, 3, 4, 5] rfl)
        · refine lv_iload hx hb dX10_move_40 (lv_at hl 4 rfl) ?_
          refine lv_aload_n hx hb dX10_move_42 rfl (lv_at hl 0 rfl) ?_
          refine va_get (D := D) (ci := 8) (v := .int bt) (C := RX10) (T := TX10) (N := 11) hx hb hts w_X10 hown hK hP 0 rfl rfl 9 (by decide) f_23 (fun _ h9 => h9) rfl dX10_move_43 ?_
          refine lv_iadd hx hb dX10_move_46 ?_
          refine lv_aload_n hx hb dX10_move_47 rfl (lv_at hl 0 rfl) ?_
          refine va_get (D := D) (ci := 8) (v := .int tp) (C := RX10) (T := TX10) (N := 11) hx hb hts w_X10 hown hK hP 0 rfl rfl 7 (by decide) f_16 (fun _ h9 => h9) rfl dX10_move_48 ?_
          refine lv_isub hx hb dX10_move_51 ?_
          refine lv_ldc (v := 1048576) hx hb hown k_39 dX10_move_52 ?_
          refine lv_icmp_gt (tgt := 79) hx hb dX10_move_54 (by decide) (fun c54 => ?_) (fun c54 => ?_)
          · refine lv_iconst (v := 0) hx hb dX10_move_79 (by decide) ?_
            exact K80_1 _ ((if_neg c7).trans ((if_neg c17).trans ((if_neg c27).trans ((if_neg c37).trans (if_pos c54))))).symm ls (lv_sub hl [0, 1, 2, 3, 4, 5] rfl)
          · refine lv_iload hx hb dX10_move_57 (lv_at hl 5 rfl) ?_
            refine lv_aload_n hx hb dX10_move_59 rfl (lv_at hl 0 rfl) ?_
            refine va_get (D := D) (ci := 8) (v := .int rt) (C := RX10) (T := TX10) (N := 11) hx hb hts w_X10 hown hK hP 0 rfl rfl 10 (by decide) f_26 (fun _ h9 => h9) rfl dX10_move_60 ?_
            refine lv_iadd hx hb dX10_move_63 ?_
            refine lv_aload_n hx hb dX10_move_64 rfl (lv_at hl 0 rfl) ?_
            refine va_get (D := D) (ci := 8) (v := .int lf) (C := RX10) (T := TX10) (N := 11) hx hb hts w_X10 hown hK hP 0 rfl rfl 8 (by decide) f_20 (fun _ h9 => h9) rfl dX10_move_65 ?_
            refine lv_isub hx hb dX10_move_68 ?_
            refine lv_sipush (v := 16384) hx hb dX10_move_69 (by decide) ?_
            refine lv_icmp_gt (tgt := 79) hx hb dX10_move_72 (by decide) (fun c72 => ?_) (fun c72 => ?_)
            · refine lv_iconst (v := 0) hx hb dX10_move_79 (by decide) ?_
              exact K80_1 _ ((if_neg c7).trans ((if_neg c17).trans ((if_neg c27).trans ((if_neg c37).trans ((if_neg c54).trans (if_pos c72)))))).symm ls (lv_sub hl [0, 1, 2, 3, 4, 5] rfl)
            · refine lv_iconst (v := 1) hx hb dX10_move_75 (by decide) ?_
              refine lv_goto (tgt := 80) hx hb dX10_move_76 (by decide) ?_
              exact K80_1 _ ((if_neg c7).trans ((if_neg c17).trans ((if_neg c27).trans ((if_neg c37).trans ((if_neg c54).trans (if_neg c72)))))).symm ls (lv_sub hl [0, 1, 2, 3, 4, 5] rfl)

set_option maxHeartbeats 4000000 in
set_option maxRecDepth 100000 in
theorem ksmv_1 {p : Program} {l : Launch} {e : Env} {s : State} {m : MethodId} {below : List Frame} {meth : Method} {c : Code} {args : Array Value} {A : Nat → Prop} {D : va_G} {Q : State → Prop}  (h0 : Nat) (h1 : Nat) (h2 : Nat) (cA : ClassId) (cB : ClassId) (cd : Int32) (n : Int32) (md : Int32) (ch : Int32) (sh : Int32) (tp : Int32) (lf : Int32) (bt : Int32) (rt : Int32) (f : Nat → Int32) (g : Nat → Int32) (hom : Int32) (nh : Int32) (si : Int32) (rw : Int32) (cl : Int32) (k : Int32) (C : Cx p s m meth c args D [(cA, .int), (cB, .int)] A cX10_move wsX10_move RX10 (some .int) 8) (hc : ¬ n ≤ k) (hL : (fX10_lengthAt f k) = 1) (hk : vp_in k 1000) (hm : vp_in md 1000) (KS : ∀ (H : Heap) (locs : List Loc) (ls : Array Slot), va_P D vwCl [(h0, .inr (8, [.int cd, .int n, .ref h1, .int (md + 1), .ref h2, .int ch, .int sh, .int tp, .int lf, .int bt, .int rt])), (h1, .inl (cA, 1000, .inl f)), (h2, .inl (cB, 1000, .inl (upd g md.toNatClampNeg (f k.toNatClampNeg))))] H → va_D A [(h0, .inr (8, [.int cd, .int n, .ref h1, .int (md + 1), .ref h2, .int ch, .int sh, .int tp, .int lf, .int bt, .int rt])), (h1, .inl (cA, 1000, .inl f)), (h2, .inl (cB, 1000, .inl (upd g md.toNatClampNeg (f k.toNatClampNeg))))] → va_S A s.heap H locs → lv_has ls 8 [(0, .ref h0), (1, .int hom), (2, .int nh), (3, .int si), (4, .int rw), (5, .int cl), (7, .int (k + 1))] → W p l e (headSpec wsX10_move rmX10_move).room s m args below meth c H locs 0 0 Q (F0 m 112 ls [])) : ∀ (H : Heap) (locs : List Loc) (ls : Array Slot), va_P D vwCl [(h0, .inr (8, [.int cd, .int n, .ref h1, .int md, .ref h2, .int ch, .int sh, .int tp, .int lf, .int bt, .int rt])), (h1, .inl (cA, 1000, .inl f)), (h2, .inl (cB, 1000, .inl g))] H → va_D A [(h0, .inr (8, [.int cd, .int n, .ref h1, .int md, .ref h2, .int ch, .int sh, .int tp, .int lf, .int bt, .int rt])), (h1, .inl (cA, 1000, .inl f)), (h2, .inl (cB, 1000, .inl g))] → va_S A s.heap H locs → lv_has ls 8 [(0, .ref h0), (1, .int hom), (2, .int nh), (3, .int si), (4, .int rw), (5, .int cl), (7, .int k)] → W p l e (headSpec wsX10_move rmX10_move).room s m args below meth c H locs 0 0 Q (F0 m 112 ls []) := by
  obtain ⟨hx, hb, hr, hml, hown, hts, hlocks, hK, hN, hA⟩ := C
  intro H locs ls hP hD hS hl
  have w_X10 : ∀ w ∈ wsX100, w ∈ wsX10_move := by decide +kernel
  have f_32 := hts (.fieldLink RX10 32 "ReferenceMoverModel" "size" "I") (by decide +kernel)
  have f_7 := hts (.fieldLink RX10 7 "ReferenceMoverModel" "words" "[I") (by decide +kernel)
  refine lv_iload hx hb dX10_move_112 (lv_at hl 6 rfl) ?_
  refine lv_aload_n hx hb dX10_move_114 rfl (lv_at hl 0 rfl) ?_
  refine va_get (D := D) (ci := 8) (v := .int n) (C := RX10) (T := TX10) (N := 11) hx hb hts w_X10 hown hK hP 0 rfl rfl 1 (by decide) f_32 (fun _ h9 => h9) rfl dX10_move_115 ?_
  refine lv_icmp_ge (tgt := 172) hx hb dX10_move_118 (by decide) (fun h => absurd h hc) (fun _ => ?_)
  refine lv_aload_n hx hb dX10_move_121 rfl (lv_at hl 0 rfl) ?_
  refine lv_iload hx hb dX10_move_122 (lv_at hl 6 rfl) ?_
  have hPc := hP.sub (ws' := [(h0, .inr (8, [.int cd, .int n, .ref h1, .int md, .ref h2, .int ch, .int sh, .int tp, .int lf, .int bt, .int rt])), (h1, .inl (cA, 1000, .inl f)), (h2, .inl (cB, 1000, .inl g))]) [0, 1, 2] rfl
  have hDc := hD.sub (ws' := [(h0, .inr (8, [.int cd, .int n, .ref h1, .int md, .ref h2, .int ch, .int sh, .int tp, .int lf, .int bt, .int rt])), (h1, .inl (cA, 1000, .inl f)), (h2, .inl (cB, 1000, .inl g))]) [0, 1, 2] (by decide) rfl
  have hKc := hK.sub (tys' := [(cA, .int), (cB, .int)]) [0, 1] rfl
  refine rd_i (va_runV (As := [.int k]) (rest := []) ⟨hx, hb, hml, hown, hts⟩ (kX10_lengthAt l D H.size h0 h1 h2 cA cB cd n md ch sh tp lf bt rt f g k hk) (cwV 1 hts gX10_move_X10_lengthAt rfl rfl rfl (by decide +kernel) ⟨Nat.le_of_ble_eq_true rfl, Nat.le_of_ble_eq_true rfl⟩) ⟨Pw_blind, (va_recv hKc hPc (ci := 8) (q0 := 0) rfl rfl), fun U hU hW => Pw_at hKc hPc hDc hN hU hW⟩ rfl rfl hl.1 rfl (lv_room (Nat.le_of_ble_eq_true rfl)) dX10_move_124 ⟨Nat.le_of_ble_eq_true rfl, Nat.le_of_ble_eq_true rfl⟩) ?_
  rw [hL]
  refine lv_iconst (v := 1) hx hb dX10_move_127 (by decide) ?_
  refine lv_icmp_ne (tgt := 145) hx hb dX10_move_128 (by decide) (fun h => absurd h (by decide)) (fun _ => ?_)
  refine lv_aload_n hx hb dX10_move_131 rfl (lv_at hl 0 rfl) ?_
  refine lv_aload_n hx hb dX10_move_132 rfl (lv_at hl 0 rfl) ?_
  refine va_get (D := D) (ci := 8) (v := .ref h1) (C := RX10) (T := TX10) (N := 11) hx hb hts w_X10 hown hK hP 0 rfl rfl 2 (by decide) f_7 (fun _ h9 => h9) rfl dX10_move_133 ?_
  refine lv_iload hx hb dX10_move_136 (lv_at hl 6 rfl) ?_
  refine va_iald hx hb hK hP 1 0 rfl rfl hk dX10_move_138 ?_
  have hPc := hP.sub (ws' := [(h0, .inr (8, [.int cd, .int n, .ref h1, .int md, .ref h2, .int ch, .int sh, .int tp, .int lf, .int bt, .int rt])), (h1, .inl (cA, 1000, .inl f)), (h2, .inl (cB, 1000, .inl g))]) [0, 1, 2] rfl
  have hDc := hD.sub (ws' := [(h0, .inr (8, [.int cd, .int n, .ref h1, .int md, .ref h2, .int ch, .int sh, .int tp, .int lf, .int bt, .int rt])), (h1, .inl (cA, 1000, .inl f)), (h2, .inl (cB, 1000, .inl g))]) [0, 1, 2] (by decide) rfl
  have hKc := hK.sub (tys' := [(cA, .int), (cB, .int)]) [0, 1] rfl
  refine wk_v (β := Unit) (ok := fun _ => True) (wc := [(h0, .inr (8, [.int cd, .int n, .ref h1, .int md, .ref h2, .int ch, .int sh, .int tp, .int lf, .int bt, .int rt])), (h1, .inl (cA, 1000, .inl f)), (h2, .inl (cB, 1000, .inl g))]) (wr := []) (w1 := fun _ => [(h0, .inr (8, [.int cd, .int n, .ref h1, .int (md + 1), .ref h2, .int ch, .int sh, .int tp, .int lf, .int bt, .int rt])), (h1, .inl (cA, 1000, .inl f)), (h2, .inl (cB, 1000, .inl (upd g md.toNatClampNeg (f k.toNatClampNeg))))]) (ws2 := fun _ => [(h0, .inr (8, [.int cd, .int n, .ref h1, .int (md + 1), .ref h2, .int ch, .int sh, .int tp, .int lf, .int bt, .int rt])), (h1, .inl (cA, 1000, .inl f)), (h2, .inl (cB, 1000, .inl (upd g md.toNatClampNeg (f k.toNatClampNeg))))]) (va_runV (As := [.int (f k.toNatClampNeg)]) (rest := []) ⟨hx, hb, hml, hown, hts⟩ (kX10_make l D H.size h0 h1 h2 cA cB cd n md ch sh tp lf bt rt f g (f k.toNatClampNeg) hm) (cwV 1 hts gX10_move_X10_make rfl rfl rfl (by decide +kernel) ⟨Nat.le_of_ble_eq_true rfl, Nat.le_of_ble_eq_true rfl⟩) ⟨Pw_blind, (va_recv hKc hPc (ci := 8) (q0 := 0) rfl rfl), fun U hU hW => Pw_at hKc hPc hDc hN hU hW⟩ rfl rfl hl.1 rfl (lv_room (Nat.le_of_ble_eq_true rfl)) dX10_move_139 ⟨Nat.le_of_ble_eq_true rfl, Nat.le_of_ble_eq_true rfl⟩) hP hD hS hA [0, 1, 2] [] [0, 1, 2] rfl rfl (by decide) (by decide) (fun _ => rfl) (by decide) (fun _ _ H locs hP hD hS => ?_)
  have hP : va_P D vwCl [(h0, .inr (8, [.int cd, .int n, .ref h1, .int (md + 1), .ref h2, .int ch, .int sh, .int tp, .int lf, .int bt, .int rt])), (h1, .inl (cA, 1000, .inl f)), (h2, .inl (cB, 1000, .inl (upd g md.toNatClampNeg (f k.toNatClampNeg))))] H := hP
  have hD : va_D A [(h0, .inr (8, [.int cd, .int n, .ref h1, .int (md + 1), .ref h2, .int ch, .int sh, .int tp, .int lf, .int bt, .int rt])), (h1, .inl (cA, 1000, .inl f)), (h2, .inl (cB, 1000, .inl (upd g md.toNatClampNeg (f k.toNatClampNeg))))] := hD
  refine lv_goto (tgt := 158) hx hb dX10_move_142 (by decide) ?_
  refine lv_iload hx hb dX10_move_158 (lv_at hl 6 rfl) ?_
  refine lv_aload_n hx hb dX10_move_160 rfl (lv_at hl 0 rfl) ?_
  refine lv_iload hx hb dX10_move_161 (lv_at hl 6 rfl) ?_
  have hPc := hP.sub (ws' := [(h0, .inr (8, [.int cd, .int n, .ref h1, .int (md + 1), .ref h2, .int ch, .int sh, .int tp, .int lf, .int bt, .int rt])), (h1, .inl (cA, 1000, .inl f)), (h2, .inl (cB, 1000, .inl (upd g md.toNatClampNeg (f k.toNatClampNeg))))]) [0, 1, 2] rfl
  have hDc := hD.sub (ws' := [(h0, .inr (8, [.int cd, .int n, .ref h1, .int (md + 1), .ref h2, .int ch, .int sh, .int tp, .int lf, .int bt, .int rt])), (h1, .inl (cA, 1000, .inl f)), (h2, .inl (cB, 1000, .inl (upd g md.toNatClampNeg (f k.toNatClampNeg))))]) [0, 1, 2] (by decide) rfl
  have hKc := hK.sub (tys' := [(cA, .int), (cB, .int)]) [0, 1] rfl
  refine rd_i (va_runV (As := [.int k]) (rest := [.int k]) ⟨hx, hb, hml, hown, hts⟩ (kX10_lengthAt l D H.size h0 h1 h2 cA cB cd n (md + 1) ch sh tp lf bt rt f (upd g md.toNatClampNeg (f k.toNatClampNeg)) k hk) (cwV 1 hts gX10_move_X10_lengthAt rfl rfl rfl (by decide +kernel) ⟨Nat.le_of_ble_eq_true rfl, Nat.le_of_ble_eq_true rfl⟩) ⟨Pw_blind, (va_recv hKc hPc (ci := 8) (q0 := 0) rfl rfl), fun U hU hW => Pw_at hKc hPc hDc hN hU hW⟩ rfl rfl hl.1 rfl (lv_room (Nat.le_of_ble_eq_true rfl)) dX10_move_163 ⟨Nat.le_of_ble_eq_true rfl, Nat.le_of_ble_eq_true rfl⟩) ?_
  rw [hL]
  refine lv_iadd hx hb dX10_move_166 ?_
  refine lv_istore (lv' := [(7, .int (k + 1)), (0, .ref h0), (1, .int hom), (2, .int nh), (3, .int si), (4, .int rw), (5, .int cl)]) hx hb dX10_move_167 hl (by decide) rfl (fun ls hl => ?_)
  refine lv_goto (tgt := 112) hx hb dX10_move_169 (by decide) ?_
  exact KS H locs ls hP hD hS (lv_sub hl [1, 2, 3, 4, 5, 6, 0] rfl)

set_option maxHeartbeats 4000000 in
set_option maxRecDepth 100000 in
theorem ksmv_4 {p : Program} {l : Launch} {e : Env} {s : State} {m : MethodId} {below : List Frame} {meth : Method} {c : Code} {args : Array Value} {A : Nat → Prop} {D : va_G} {Q : State → Prop}  (h0 : Nat) (h1 : Nat) (h2 : Nat) (cA : ClassId) (cB : ClassId) (cd : Int32) (n : Int32) (md : Int32) (ch : Int32) (sh : Int32) (tp : Int32) (lf : Int32) (bt : Int32) (rt : Int32) (f : Nat → Int32) (g : Nat → Int32) (hom : Int32) (nh : Int32) (si : Int32) (rw : Int32) (cl : Int32) (k : Int32) (C : Cx p s m meth c args D [(cA, .int), (cB, .int)] A cX10_move wsX10_move RX10 (some .int) 8) (hc : ¬ n ≤ k) (hL : (fX10_lengthAt f k) = 4) (hk : vp_in k 997) (hm : vp_in md 997) (KS : ∀ (H : Heap) (locs : List Loc) (ls : Array Slot), va_P D vwCl [(h0, .inr (8, [.int cd, .int n, .ref h1, .int (fX10_moveItem_4 md ch sh tp lf bt rt f g k hom nh si rw cl).1, .ref h2, .int (fX10_moveItem_4 md ch sh tp lf bt rt f g k hom nh si rw cl).2.1, .int sh, .int tp, .int lf, .int bt, .int rt])), (h1, .inl (cA, 1000, .inl f)), (h2, .inl (cB, 1000, .inl (fX10_moveItem_4 md ch sh tp lf bt rt f g k hom nh si rw cl).2.2))] H → va_D A [(h0, .inr (8, [.int cd, .int n, .ref h1, .int (fX10_moveItem_4 md ch sh tp lf bt rt f g k hom nh si rw cl).1, .ref h2, .int (fX10_moveItem_4 md ch sh tp lf bt rt f g k hom nh si rw cl).2.1, .int sh, .int tp, .int lf, .int bt, .int rt])), (h1, .inl (cA, 1000, .inl f)), (h2, .inl (cB, 1000, .inl (fX10_moveItem_4 md ch sh tp lf bt rt f g k hom nh si rw cl).2.2))] → va_S A s.heap H locs → lv_has ls 8 [(0, .ref h0), (1, .int hom), (2, .int nh), (3, .int si), (4, .int rw), (5, .int cl), (7, .int (k + 4))] → W p l e (headSpec wsX10_move rmX10_move).room s m args below meth c H locs 0 0 Q (F0 m 112 ls [])) : ∀ (H : Heap) (locs : List Loc) (ls : Array Slot), va_P D vwCl [(h0, .inr (8, [.int cd, .int n, .ref h1, .int md, .ref h2, .int ch, .int sh, .int tp, .int lf, .int bt, .int rt])), (h1, .inl (cA, 1000, .inl f)), (h2, .inl (cB, 1000, .inl g))] H → va_D A [(h0, .inr (8, [.int cd, .int n, .ref h1, .int md, .ref h2, .int ch, .int sh, .int tp, .int lf, .int bt, .int rt])), (h1, .inl (cA, 1000, .inl f)), (h2, .inl (cB, 1000, .inl g))] → va_S A s.heap H locs → lv_has ls 8 [(0, .ref h0), (1, .int hom), (2, .int nh), (3, .int si), (4, .int rw), (5, .int cl), (7, .int k)] → W p l e (headSpec wsX10_move rmX10_move).room s m args below meth c H locs 0 0 Q (F0 m 112 ls []) := by
  obtain ⟨hx, hb, hr, hml, hown, hts, hlocks, hK, hN, hA⟩ := C
  intro H locs ls hP hD hS hl
  have w_X10 : ∀ w ∈ wsX100, w ∈ wsX10_move := by decide +kernel
  have f_32 := hts (.fieldLink RX10 32 "ReferenceMoverModel" "size" "I") (by decide +kernel)
  refine lv_iload hx hb dX10_move_112 (lv_at hl 6 rfl) ?_
  refine lv_aload_n hx hb dX10_move_114 rfl (lv_at hl 0 rfl) ?_
  refine va_get (D := D) (ci := 8) (v := .int n) (C := RX10) (T := TX10) (N := 11) hx hb hts w_X10 hown hK hP 0 rfl rfl 1 (by decide) f_32 (fun _ h9 => h9) rfl dX10_move_115 ?_
  refine lv_icmp_ge (tgt := 172) hx hb dX10_move_118 (by decide) (fun h => absurd h hc) (fun _ => ?_)
  refine lv_aload_n hx hb dX10_move_121 rfl (lv_at hl 0 rfl) ?_
  refine lv_iload hx hb dX10_move_122 (lv_at hl 6 rfl) ?_
  have hPc := hP.sub (ws' := [(h0, .inr (8, [.int cd, .int n, .ref h1, .int md, .ref h2, .int ch, .int sh, .int tp, .int lf, .int bt, .int rt])), (h1, .inl (cA, 1000, .inl f)), (h2, .inl (cB, 1000, .inl g))]) [0, 1, 2] rfl
  have hDc := hD.sub (ws' := [(h0, .inr (8, [.int cd, .int n, .ref h1, .int md, .ref h2, .int ch, .int sh, .int tp, .int lf, .int bt, .int rt])), (h1, .inl (cA, 1000, .inl f)), (h2, .inl (cB, 1000, .inl g))]) [0, 1, 2] (by decide) rfl
  have hKc := hK.sub (tys' := [(cA, .int), (cB, .int)]) [0, 1] rfl
  refine rd_i (va_runV (As := [.int k]) (rest := []) ⟨hx, hb, hml, hown, hts⟩ (kX10_lengthAt l D H.size h0 h1 h2 cA cB cd n md ch sh tp lf bt rt f g k (in_w hk (by decide))) (cwV 1 hts gX10_move_X10_lengthAt rfl rfl rfl (by decide +kernel) ⟨Nat.le_of_ble_eq_true rfl, Nat.le_of_ble_eq_true rfl⟩) ⟨Pw_blind, (va_recv hKc hPc (ci := 8) (q0 := 0) rfl rfl), fun U hU hW => Pw_at hKc hPc hDc hN hU hW⟩ rfl rfl hl.1 rfl (lv_room (Nat.le_of_ble_eq_true rfl)) dX10_move_124 ⟨Nat.le_of_ble_eq_true rfl, Nat.le_of_ble_eq_true rfl⟩) ?_
  rw [hL]
  refine lv_iconst (v := 1) hx hb dX10_move_127 (by decide) ?_
  refine lv_icmp_ne (tgt := 145) hx hb dX10_move_128 (by decide) (fun _ => ?_) (fun h => absurd h (by decide))
  refine lv_aload_n hx hb dX10_move_145 rfl (lv_at hl 0 rfl) ?_
  refine lv_iload hx hb dX10_move_146 (lv_at hl 6 rfl) ?_
  refine lv_iload_n hx hb dX10_move_148 rfl (lv_at hl 1 rfl) ?_
  refine lv_iload_n hx hb dX10_move_149 rfl (lv_at hl 2 rfl) ?_
  refine lv_iload_n hx hb dX10_move_150 rfl (lv_at hl 3 rfl) ?_
  refine lv_iload hx hb dX10_move_151 (lv_at hl 4 rfl) ?_
  refine lv_iload hx hb dX10_move_153 (lv_at hl 5 rfl) ?_
  have hPc := hP.sub (ws' := [(h0, .inr (8, [.int cd, .int n, .ref h1, .int md, .ref h2, .int ch, .int sh, .int tp, .int lf, .int bt, .int rt])), (h1, .inl (cA, 1000, .inl f)), (h2, .inl (cB, 1000, .inl g))]) [0, 1, 2] rfl
  have hDc := hD.sub (ws' := [(h0, .inr (8, [.int cd, .int n, .ref h1, .int md, .ref h2, .int ch, .int sh, .int tp, .int lf, .int bt, .int rt])), (h1, .inl (cA, 1000, .inl f)), (h2, .inl (cB, 1000, .inl g))]) [0, 1, 2] (by decide) rfl
  have hKc := hK.sub (tys' := [(cA, .int), (cB, .int)]) [0, 1] rfl
  refine wk_v (β := Unit) (ok := fun _ => True) (wc := [(h0, .inr (8, [.int cd, .int n, .ref h1, .int md, .ref h2, .int ch, .int sh, .int tp, .int lf, .int bt, .int rt])), (h1, .inl (cA, 1000, .inl f)), (h2, .inl (cB, 1000, .inl g))]) (wr := []) (w1 := fun _ => [(h0, .inr (8, [.int cd, .int n, .ref h1, .int (fX10_moveItem_4 md ch sh tp lf bt rt f g k hom nh si rw cl).1, .ref h2, .int (fX10_moveItem_4 md ch sh tp lf bt rt f g k hom nh si rw cl).2.1, .int sh, .int tp, .int lf, .int bt, .int rt])), (h1, .inl (cA, 1000, .inl f)), (h2, .inl (cB, 1000, .inl (fX10_moveItem_4 md ch sh tp lf bt rt f g k hom nh si rw cl).2.2))]) (ws2 := fun _ => [(h0, .inr (8, [.int cd, .int n, .ref h1, .int (fX10_moveItem_4 md ch sh tp lf bt rt f g k hom nh si rw cl).1, .ref h2, .int (fX10_moveItem_4 md ch sh tp lf bt rt f g k hom nh si rw cl).2.1, .int sh, .int tp, .int lf, .int bt, .int rt])), (h1, .inl (cA, 1000, .inl f)), (h2, .inl (cB, 1000, .inl (fX10_moveItem_4 md ch sh tp lf bt rt f g k hom nh si rw cl).2.2))]) (va_runV (As := [.int k, .int hom, .int nh, .int si, .int rw, .int cl]) (rest := []) ⟨hx, hb, hml, hown, hts⟩ (kX10_moveItem_4 l D H.size h0 h1 h2 cA cB cd n md ch sh tp lf bt rt f g k hom nh si rw cl (by assumption) hk hm) (cwV 6 hts gX10_move_X10_moveItem rfl rfl rfl (by decide +kernel) ⟨Nat.le_of_ble_eq_true rfl, Nat.le_of_ble_eq_true rfl⟩) ⟨Pw_blind, (va_recv hKc hPc (ci := 8) (q0 := 0) rfl rfl), fun U hU hW => Pw_at hKc hPc hDc hN hU hW⟩ rfl rfl hl.1 rfl (lv_room (Nat.le_of_ble_eq_true rfl)) dX10_move_155 ⟨Nat.le_of_ble_eq_true rfl, Nat.le_of_ble_eq_true rfl⟩) hP hD hS hA [0, 1, 2] [] [0, 1, 2] rfl rfl (by decide) (by decide) (fun _ => rfl) (by decide) (fun _ _ H locs hP hD hS => ?_)
  have hP : va_P D vwCl [(h0, .inr (8, [.int cd, .int n, .ref h1, .int (fX10_moveItem_4 md ch sh tp lf bt rt f g k hom nh si rw cl).1, .ref h2, .int (fX10_moveItem_4 md ch sh tp lf bt rt f g k hom nh si rw cl).2.1, .int sh, .int tp, .int lf, .int bt, .int rt])), (h1, .inl (cA, 1000, .inl f)), (h2, .inl (cB, 1000, .inl (fX10_moveItem_4 md ch sh tp lf bt rt f g k hom nh si rw cl).2.2))] H := hP
  have hD : va_D A [(h0, .inr (8, [.int cd, .int n, .ref h1, .int (fX10_moveItem_4 md ch sh tp lf bt rt f g k hom nh si rw cl).1, .ref h2, .int (fX10_moveItem_4 md ch sh tp lf bt rt f g k hom nh si rw cl).2.1, .int sh, .int tp, .int lf, .int bt, .int rt])), (h1, .inl (cA, 1000, .inl f)), (h2, .inl (cB, 1000, .inl (fX10_moveItem_4 md ch sh tp lf bt rt f g k hom nh si rw cl).2.2))] := hD
  refine lv_iload hx hb dX10_move_158 (lv_at hl 6 rfl) ?_
  refine lv_aload_n hx hb dX10_move_160 rfl (lv_at hl 0 rfl) ?_
  refine lv_iload hx hb dX10_move_161 (lv_at hl 6 rfl) ?_
  have hPc := hP.sub (ws' := [(h0, .inr (8, [.int cd, .int n, .ref h1, .int (fX10_moveItem_4 md ch sh tp lf bt rt f g k hom nh si rw cl).1, .ref h2, .int (fX10_moveItem_4 md ch sh tp lf bt rt f g k hom nh si rw cl).2.1, .int sh, .int tp, .int lf, .int bt, .int rt])), (h1, .inl (cA, 1000, .inl f)), (h2, .inl (cB, 1000, .inl (fX10_moveItem_4 md ch sh tp lf bt rt f g k hom nh si rw cl).2.2))]) [0, 1, 2] rfl
  have hDc := hD.sub (ws' := [(h0, .inr (8, [.int cd, .int n, .ref h1, .int (fX10_moveItem_4 md ch sh tp lf bt rt f g k hom nh si rw cl).1, .ref h2, .int (fX10_moveItem_4 md ch sh tp lf bt rt f g k hom nh si rw cl).2.1, .int sh, .int tp, .int lf, .int bt, .int rt])), (h1, .inl (cA, 1000, .inl f)), (h2, .inl (cB, 1000, .inl (fX10_moveItem_4 md ch sh tp lf bt rt f g k hom nh si rw cl).2.2))]) [0, 1, 2] (by decide) rfl
  have hKc := hK.sub (tys' := [(cA, .int), (cB, .int)]) [0, 1] rfl
  refine rd_i (va_runV (As := [.int k]) (rest := [.int k]) ⟨hx, hb, hml, hown, hts⟩ (kX10_lengthAt l D H.size h0 h1 h2 cA cB cd n ((fX10_moveItem_4 md ch sh tp lf bt rt f g k hom nh si rw cl).1) ((fX10_moveItem_4 md ch sh tp lf bt rt f g k hom nh si rw cl).2.1) sh tp lf bt rt f ((fX10_moveItem_4 md ch sh tp lf bt rt f g k hom nh si rw cl).2.2) k (in_w hk (by decide))) (cwV 1 hts gX10_move_X10_lengthAt rfl rfl rfl (by decide +kernel) ⟨Nat.le_of_ble_eq_true rfl, Nat.le_of_ble_eq_true rfl⟩) ⟨Pw_blind, (va_recv hKc hPc (ci := 8) (q0 := 0) rfl rfl), fun U hU hW => Pw_at hKc hPc hDc hN hU hW⟩ rfl rfl hl.1 rfl (lv_room (Nat.le_of_ble_eq_true rfl)) dX10_move_163 ⟨Nat.le_of_ble_eq_true rfl, Nat.le_of_ble_eq_true rfl⟩) ?_
  rw [hL]
  refine lv_iadd hx hb dX10_move_166 ?_
  refine lv_istore (lv' := [(7, .int (k + 4)), (0, .ref h0), (1, .int hom), (2, .int nh), (3, .int si), (4, .int rw), (5, .int cl)]) hx hb dX10_move_167 hl (by decide) rfl (fun ls hl => ?_)
  refine lv_goto (tgt := 112) hx hb dX10_move_169 (by decide) ?_
  exact KS H locs ls hP hD hS (lv_sub hl [1, 2, 3, 4, 5, 6, 0] rfl)

set_option maxHeartbeats 4000000 in
set_option maxRecDepth 100000 in
theorem ksmv_6 {p : Program} {l : Launch} {e : Env} {s : State} {m : MethodId} {below : List Frame} {meth : Method} {c : Code} {args : Array Value} {A : Nat → Prop} {D : va_G} {Q : State → Prop}  (h0 : Nat) (h1 : Nat) (h2 : Nat) (cA : ClassId) (cB : ClassId) (cd : Int32) (n : Int32) (md : Int32) (ch : Int32) (sh : Int32) (tp : Int32) (lf : Int32) (bt : Int32) (rt : Int32) (f : Nat → Int32) (g : Nat → Int32) (hom : Int32) (nh : Int32) (si : Int32) (rw : Int32) (cl : Int32) (k : Int32) (C : Cx p s m meth c args D [(cA, .int), (cB, .int)] A cX10_move wsX10_move RX10 (some .int) 8) (hc : ¬ n ≤ k) (hL : (fX10_lengthAt f k) = 6) (hl4 : ¬ (fX10_lengthAt f k) = 4) (hk : vp_in k 995) (hm : vp_in md 995) (KS : ∀ (H : Heap) (locs : List Loc) (ls : Array Slot), va_P D vwCl [(h0, .inr (8, [.int cd, .int n, .ref h1, .int (fX10_moveItem_6 md ch sh tp lf bt rt f g k hom nh si rw cl).1, .ref h2, .int (fX10_moveItem_6 md ch sh tp lf bt rt f g k hom nh si rw cl).2.1, .int sh, .int tp, .int lf, .int bt, .int rt])), (h1, .inl (cA, 1000, .inl f)), (h2, .inl (cB, 1000, .inl (fX10_moveItem_6 md ch sh tp lf bt rt f g k hom nh si rw cl).2.2))] H → va_D A [(h0, .inr (8, [.int cd, .int n, .ref h1, .int (fX10_moveItem_6 md ch sh tp lf bt rt f g k hom nh si rw cl).1, .ref h2, .int (fX10_moveItem_6 md ch sh tp lf bt rt f g k hom nh si rw cl).2.1, .int sh, .int tp, .int lf, .int bt, .int rt])), (h1, .inl (cA, 1000, .inl f)), (h2, .inl (cB, 1000, .inl (fX10_moveItem_6 md ch sh tp lf bt rt f g k hom nh si rw cl).2.2))] → va_S A s.heap H locs → lv_has ls 8 [(0, .ref h0), (1, .int hom), (2, .int nh), (3, .int si), (4, .int rw), (5, .int cl), (7, .int (k + 6))] → W p l e (headSpec wsX10_move rmX10_move).room s m args below meth c H locs 0 0 Q (F0 m 112 ls [])) : ∀ (H : Heap) (locs : List Loc) (ls : Array Slot), va_P D vwCl [(h0, .inr (8, [.int cd, .int n, .ref h1, .int md, .ref h2, .int ch, .int sh, .int tp, .int lf, .int bt, .int rt])), (h1, .inl (cA, 1000, .inl f)), (h2, .inl (cB, 1000, .inl g))] H → va_D A [(h0, .inr (8, [.int cd, .int n, .ref h1, .int md, .ref h2, .int ch, .int sh, .int tp, .int lf, .int bt, .int rt])), (h1, .inl (cA, 1000, .inl f)), (h2, .inl (cB, 1000, .inl g))] → va_S A s.heap H locs → lv_has ls 8 [(0, .ref h0), (1, .int hom), (2, .int nh), (3, .int si), (4, .int rw), (5, .int cl), (7, .int k)] → W p l e (headSpec wsX10_move rmX10_move).room s m args below meth c H locs 0 0 Q (F0 m 112 ls []) := by
  obtain ⟨hx, hb, hr, hml, hown, hts, hlocks, hK, hN, hA⟩ := C
  intro H locs ls hP hD hS hl
  have w_X10 : ∀ w ∈ wsX100, w ∈ wsX10_move := by decide +kernel
  have f_32 := hts (.fieldLink RX10 32 "ReferenceMoverModel" "size" "I") (by decide +kernel)
  refine lv_iload hx hb dX10_move_112 (lv_at hl 6 rfl) ?_
  refine lv_aload_n hx hb dX10_move_114 rfl (lv_at hl 0 rfl) ?_
  refine va_get (D := D) (ci := 8) (v := .int n) (C := RX10) (T := TX10) (N := 11) hx hb hts w_X10 hown hK hP 0 rfl rfl 1 (by decide) f_32 (fun _ h9 => h9) rfl dX10_move_115 ?_
  refine lv_icmp_ge (tgt := 172) hx hb dX10_move_118 (by decide) (fun h => absurd h hc) (fun _ => ?_)
  refine lv_aload_n hx hb dX10_move_121 rfl (lv_at hl 0 rfl) ?_
  refine lv_iload hx hb dX10_move_122 (lv_at hl 6 rfl) ?_
  have hPc := hP.sub (ws' := [(h0, .inr (8, [.int cd, .int n, .ref h1, .int md, .ref h2, .int ch, .int sh, .int tp, .int lf, .int bt, .int rt])), (h1, .inl (cA, 1000, .inl f)), (h2, .inl (cB, 1000, .inl g))]) [0, 1, 2] rfl
  have hDc := hD.sub (ws' := [(h0, .inr (8, [.int cd, .int n, .ref h1, .int md, .ref h2, .int ch, .int sh, .int tp, .int lf, .int bt, .int rt])), (h1, .inl (cA, 1000, .inl f)), (h2, .inl (cB, 1000, .inl g))]) [0, 1, 2] (by decide) rfl
  have hKc := hK.sub (tys' := [(cA, .int), (cB, .int)]) [0, 1] rfl
  refine rd_i (va_runV (As := [.int k]) (rest := []) ⟨hx, hb, hml, hown, hts⟩ (kX10_lengthAt l D H.size h0 h1 h2 cA cB cd n md ch sh tp lf bt rt f g k (in_w hk (by decide))) (cwV 1 hts gX10_move_X10_lengthAt rfl rfl rfl (by decide +kernel) ⟨Nat.le_of_ble_eq_true rfl, Nat.le_of_ble_eq_true rfl⟩) ⟨Pw_blind, (va_recv hKc hPc (ci := 8) (q0 := 0) rfl rfl), fun U hU hW => Pw_at hKc hPc hDc hN hU hW⟩ rfl rfl hl.1 rfl (lv_room (Nat.le_of_ble_eq_true rfl)) dX10_move_124 ⟨Nat.le_of_ble_eq_true rfl, Nat.le_of_ble_eq_true rfl⟩) ?_
  rw [hL]
  refine lv_iconst (v := 1) hx hb dX10_move_127 (by decide) ?_
  refine lv_icmp_ne (tgt := 145) hx hb dX10_move_128 (by decide) (fun _ => ?_) (fun h => absurd h (by decide))
  refine lv_aload_n hx hb dX10_move_145 rfl (lv_at hl 0 rfl) ?_
  refine lv_iload hx hb dX10_move_146 (lv_at hl 6 rfl) ?_
  refine lv_iload_n hx hb dX10_move_148 rfl (lv_at hl 1 rfl) ?_
  refine lv_iload_n hx hb dX10_move_149 rfl (lv_at hl 2 rfl) ?_
  refine lv_iload_n hx hb dX10_move_150 rfl (lv_at hl 3 rfl) ?_
  refine lv_iload hx hb dX10_move_151 (lv_at hl 4 rfl) ?_
  refine lv_iload hx hb dX10_move_153 (lv_at hl 5 rfl) ?_
  have hPc := hP.sub (ws' := [(h0, .inr (8, [.int cd, .int n, .ref h1, .int md, .ref h2, .int ch, .int sh, .int tp, .int lf, .int bt, .int rt])), (h1, .inl (cA, 1000, .inl f)), (h2, .inl (cB, 1000, .inl g))]) [0, 1, 2] rfl
  have hDc := hD.sub (ws' := [(h0, .inr (8, [.int cd, .int n, .ref h1, .int md, .ref h2, .int ch, .int sh, .int tp, .int lf, .int bt, .int rt])), (h1, .inl (cA, 1000, .inl f)), (h2, .inl (cB, 1000, .inl g))]) [0, 1, 2] (by decide) rfl
  have hKc := hK.sub (tys' := [(cA, .int), (cB, .int)]) [0, 1] rfl
  refine wk_v (β := Unit) (ok := fun _ => True) (wc := [(h0, .inr (8, [.int cd, .int n, .ref h1, .int md, .ref h2, .int ch, .int sh, .int tp, .int lf, .int bt, .int rt])), (h1, .inl (cA, 1000, .inl f)), (h2, .inl (cB, 1000, .inl g))]) (wr := []) (w1 := fun _ => [(h0, .inr (8, [.int cd, .int n, .ref h1, .int (fX10_moveItem_6 md ch sh tp lf bt rt f g k hom nh si rw cl).1, .ref h2, .int (fX10_moveItem_6 md ch sh tp lf bt rt f g k hom nh si rw cl).2.1, .int sh, .int tp, .int lf, .int bt, .int rt])), (h1, .inl (cA, 1000, .inl f)), (h2, .inl (cB, 1000, .inl (fX10_moveItem_6 md ch sh tp lf bt rt f g k hom nh si rw cl).2.2))]) (ws2 := fun _ => [(h0, .inr (8, [.int cd, .int n, .ref h1, .int (fX10_moveItem_6 md ch sh tp lf bt rt f g k hom nh si rw cl).1, .ref h2, .int (fX10_moveItem_6 md ch sh tp lf bt rt f g k hom nh si rw cl).2.1, .int sh, .int tp, .int lf, .int bt, .int rt])), (h1, .inl (cA, 1000, .inl f)), (h2, .inl (cB, 1000, .inl (fX10_moveItem_6 md ch sh tp lf bt rt f g k hom nh si rw cl).2.2))]) (va_runV (As := [.int k, .int hom, .int nh, .int si, .int rw, .int cl]) (rest := []) ⟨hx, hb, hml, hown, hts⟩ (kX10_moveItem_6 l D H.size h0 h1 h2 cA cB cd n md ch sh tp lf bt rt f g k hom nh si rw cl (by assumption) hk hm) (cwV 6 hts gX10_move_X10_moveItem rfl rfl rfl (by decide +kernel) ⟨Nat.le_of_ble_eq_true rfl, Nat.le_of_ble_eq_true rfl⟩) ⟨Pw_blind, (va_recv hKc hPc (ci := 8) (q0 := 0) rfl rfl), fun U hU hW => Pw_at hKc hPc hDc hN hU hW⟩ rfl rfl hl.1 rfl (lv_room (Nat.le_of_ble_eq_true rfl)) dX10_move_155 ⟨Nat.le_of_ble_eq_true rfl, Nat.le_of_ble_eq_true rfl⟩) hP hD hS hA [0, 1, 2] [] [0, 1, 2] rfl rfl (by decide) (by decide) (fun _ => rfl) (by decide) (fun _ _ H locs hP hD hS => ?_)
  have hP : va_P D vwCl [(h0, .inr (8, [.int cd, .int n, .ref h1, .int (fX10_moveItem_6 md ch sh tp lf bt rt f g k hom nh si rw cl).1, .ref h2, .int (fX10_moveItem_6 md ch sh tp lf bt rt f g k hom nh si rw cl).2.1, .int sh, .int tp, .int lf, .int bt, .int rt])), (h1, .inl (cA, 1000, .inl f)), (h2, .inl (cB, 1000, .inl (fX10_moveItem_6 md ch sh tp lf bt rt f g k hom nh si rw cl).2.2))] H := hP
  have hD : va_D A [(h0, .inr (8, [.int cd, .int n, .ref h1, .int (fX10_moveItem_6 md ch sh tp lf bt rt f g k hom nh si rw cl).1, .ref h2, .int (fX10_moveItem_6 md ch sh tp lf bt rt f g k hom nh si rw cl).2.1, .int sh, .int tp, .int lf, .int bt, .int rt])), (h1, .inl (cA, 1000, .inl f)), (h2, .inl (cB, 1000, .inl (fX10_moveItem_6 md ch sh tp lf bt rt f g k hom nh si rw cl).2.2))] := hD
  refine lv_iload hx hb dX10_move_158 (lv_at hl 6 rfl) ?_
  refine lv_aload_n hx hb dX10_move_160 rfl (lv_at hl 0 rfl) ?_
  refine lv_iload hx hb dX10_move_161 (lv_at hl 6 rfl) ?_
  have hPc := hP.sub (ws' := [(h0, .inr (8, [.int cd, .int n, .ref h1, .int (fX10_moveItem_6 md ch sh tp lf bt rt f g k hom nh si rw cl).1, .ref h2, .int (fX10_moveItem_6 md ch sh tp lf bt rt f g k hom nh si rw cl).2.1, .int sh, .int tp, .int lf, .int bt, .int rt])), (h1, .inl (cA, 1000, .inl f)), (h2, .inl (cB, 1000, .inl (fX10_moveItem_6 md ch sh tp lf bt rt f g k hom nh si rw cl).2.2))]) [0, 1, 2] rfl
  have hDc := hD.sub (ws' := [(h0, .inr (8, [.int cd, .int n, .ref h1, .int (fX10_moveItem_6 md ch sh tp lf bt rt f g k hom nh si rw cl).1, .ref h2, .int (fX10_moveItem_6 md ch sh tp lf bt rt f g k hom nh si rw cl).2.1, .int sh, .int tp, .int lf, .int bt, .int rt])), (h1, .inl (cA, 1000, .inl f)), (h2, .inl (cB, 1000, .inl (fX10_moveItem_6 md ch sh tp lf bt rt f g k hom nh si rw cl).2.2))]) [0, 1, 2] (by decide) rfl
  have hKc := hK.sub (tys' := [(cA, .int), (cB, .int)]) [0, 1] rfl
  refine rd_i (va_runV (As := [.int k]) (rest := [.int k]) ⟨hx, hb, hml, hown, hts⟩ (kX10_lengthAt l D H.size h0 h1 h2 cA cB cd n ((fX10_moveItem_6 md ch sh tp lf bt rt f g k hom nh si rw cl).1) ((fX10_moveItem_6 md ch sh tp lf bt rt f g k hom nh si rw cl).2.1) sh tp lf bt rt f ((fX10_moveItem_6 md ch sh tp lf bt rt f g k hom nh si rw cl).2.2) k (in_w hk (by decide))) (cwV 1 hts gX10_move_X10_lengthAt rfl rfl rfl (by decide +kernel) ⟨Nat.le_of_ble_eq_true rfl, Nat.le_of_ble_eq_true rfl⟩) ⟨Pw_blind, (va_recv hKc hPc (ci := 8) (q0 := 0) rfl rfl), fun U hU hW => Pw_at hKc hPc hDc hN hU hW⟩ rfl rfl hl.1 rfl (lv_room (Nat.le_of_ble_eq_true rfl)) dX10_move_163 ⟨Nat.le_of_ble_eq_true rfl, Nat.le_of_ble_eq_true rfl⟩) ?_
  rw [hL]
  refine lv_iadd hx hb dX10_move_166 ?_
  refine lv_istore (lv' := [(7, .int (k + 6)), (0, .ref h0), (1, .int hom), (2, .int nh), (3, .int si), (4, .int rw), (5, .int cl)]) hx hb dX10_move_167 hl (by decide) rfl (fun ls hl => ?_)
  refine lv_goto (tgt := 112) hx hb dX10_move_169 (by decide) ?_
  exact KS H locs ls hP hD hS (lv_sub hl [1, 2, 3, 4, 5, 6, 0] rfl)

set_option maxHeartbeats 4000000 in
set_option maxRecDepth 100000 in
theorem ksmv_x {p : Program} {l : Launch} {e : Env} {s : State} {m : MethodId} {below : List Frame} {meth : Method} {c : Code} {args : Array Value} {A : Nat → Prop} {D : va_G} {Qc : Array Value → State → Outcome → State → Prop} {free : Addr → Prop} (hfr : ∀ q, A q → free q)  (h0 : Nat) (h1 : Nat) (h2 : Nat) (cA : ClassId) (cB : ClassId) (cd : Int32) (n : Int32) (md : Int32) (ch : Int32) (sh : Int32) (tp : Int32) (lf : Int32) (bt : Int32) (rt : Int32) (f : Nat → Int32) (g : Nat → Int32) (hom : Int32) (nh : Int32) (si : Int32) (rw : Int32) (cl : Int32) (k : Int32) (C : Cx p s m meth c args D [(cA, .int), (cB, .int)] A cX10_move wsX10_move RX10 (some .int) 8) (hc : n ≤ k) (hm : vp_in md 1001) (KR : ∀ (H : Heap) (locs : List Loc), va_P D vwCl [(h0, .inr (8, [.int cd, .int (fX10_finish md ch f g).2.1, .ref h1, .int md, .ref h2, .int ch, .int sh, .int tp, .int lf, .int bt, .int rt])), (h1, .inl (cA, 1000, .inl (fX10_finish md ch f g).2.2)), (h2, .inl (cB, 1000, .inl g))] H → va_D A [(h0, .inr (8, [.int cd, .int (fX10_finish md ch f g).2.1, .ref h1, .int md, .ref h2, .int ch, .int sh, .int tp, .int lf, .int bt, .int rt])), (h1, .inl (cA, 1000, .inl (fX10_finish md ch f g).2.2)), (h2, .inl (cB, 1000, .inl g))] → va_S A s.heap H locs → ∀ t : State, t.heap = H → s.WarmedH t.vm → Qc args s (.returned (some (.int (fX10_finish md ch f g).1))) t) : ∀ (H : Heap) (locs : List Loc) (ls : Array Slot), va_P D vwCl [(h0, .inr (8, [.int cd, .int n, .ref h1, .int md, .ref h2, .int ch, .int sh, .int tp, .int lf, .int bt, .int rt])), (h1, .inl (cA, 1000, .inl f)), (h2, .inl (cB, 1000, .inl g))] H → va_D A [(h0, .inr (8, [.int cd, .int n, .ref h1, .int md, .ref h2, .int ch, .int sh, .int tp, .int lf, .int bt, .int rt])), (h1, .inl (cA, 1000, .inl f)), (h2, .inl (cB, 1000, .inl g))] → va_S A s.heap H locs → lv_has ls 8 [(0, .ref h0), (1, .int hom), (2, .int nh), (3, .int si), (4, .int rw), (5, .int cl), (7, .int k)] → W p l e (headSpec wsX10_move rmX10_move).room s m args below meth c H locs 0 0 (MQ below Qc args s 0 0 free) (F0 m 112 ls []) := by
  obtain ⟨hx, hb, hr, hml, hown, hts, hlocks, hK, hN, hA⟩ := C
  intro H locs ls hP hD hS hl
  have w_X10 : ∀ w ∈ wsX100, w ∈ wsX10_move := by decide +kernel
  have f_32 := hts (.fieldLink RX10 32 "ReferenceMoverModel" "size" "I") (by decide +kernel)
  refine lv_iload hx hb dX10_move_112 (lv_at hl 6 rfl) ?_
  refine lv_aload_n hx hb dX10_move_114 rfl (lv_at hl 0 rfl) ?_
  refine va_get (D := D) (ci := 8) (v := .int n) (C := RX10) (T := TX10) (N := 11) hx hb hts w_X10 hown hK hP 0 rfl rfl 1 (by decide) f_32 (fun _ h9 => h9) rfl dX10_move_115 ?_
  refine lv_icmp_ge (tgt := 172) hx hb dX10_move_118 (by decide) (fun _ => ?_) (fun h => absurd hc h)
  refine lv_aload_n hx hb dX10_move_172 rfl (lv_at hl 0 rfl) ?_
  have hPc := hP.sub (ws' := [(h0, .inr (8, [.int cd, .int n, .ref h1, .int md, .ref h2, .int ch, .int sh, .int tp, .int lf, .int bt, .int rt])), (h1, .inl (cA, 1000, .inl f)), (h2, .inl (cB, 1000, .inl g))]) [0, 1, 2] rfl
  have hDc := hD.sub (ws' := [(h0, .inr (8, [.int cd, .int n, .ref h1, .int md, .ref h2, .int ch, .int sh, .int tp, .int lf, .int bt, .int rt])), (h1, .inl (cA, 1000, .inl f)), (h2, .inl (cB, 1000, .inl g))]) [0, 1, 2] (by decide) rfl
  have hKc := hK.sub (tys' := [(cA, .int), (cB, .int)]) [0, 1] rfl
  refine wk_i (β := Unit) (ok := fun _ => True) (wc := [(h0, .inr (8, [.int cd, .int n, .ref h1, .int md, .ref h2, .int ch, .int sh, .int tp, .int lf, .int bt, .int rt])), (h1, .inl (cA, 1000, .inl f)), (h2, .inl (cB, 1000, .inl g))]) (wr := []) (w1 := fun _ => [(h0, .inr (8, [.int cd, .int (fX10_finish md ch f g).2.1, .ref h1, .int md, .ref h2, .int ch, .int sh, .int tp, .int lf, .int bt, .int rt])), (h1, .inl (cA, 1000, .inl (fX10_finish md ch f g).2.2)), (h2, .inl (cB, 1000, .inl g))]) (ws2 := fun _ => [(h0, .inr (8, [.int cd, .int (fX10_finish md ch f g).2.1, .ref h1, .int md, .ref h2, .int ch, .int sh, .int tp, .int lf, .int bt, .int rt])), (h1, .inl (cA, 1000, .inl (fX10_finish md ch f g).2.2)), (h2, .inl (cB, 1000, .inl g))]) (r1 := fun _ => (fX10_finish md ch f g).1) (va_runV (As := []) (rest := []) ⟨hx, hb, hml, hown, hts⟩ (kX10_finish l D H.size h0 h1 h2 cA cB cd n md ch sh tp lf bt rt f g hm) (cwV 0 hts gX10_move_X10_finish rfl rfl rfl (by decide +kernel) ⟨Nat.le_of_ble_eq_true rfl, Nat.le_of_ble_eq_true rfl⟩) ⟨Pw_blind, (va_recv hKc hPc (ci := 8) (q0 := 0) rfl rfl), fun U hU hW => Pw_at hKc hPc hDc hN hU hW⟩ rfl rfl hl.1 rfl (lv_room (Nat.le_of_ble_eq_true rfl)) dX10_move_173 ⟨Nat.le_of_ble_eq_true rfl, Nat.le_of_ble_eq_true rfl⟩) hP hD hS hA [0, 1, 2] [] [0, 1, 2] rfl rfl (by decide) (by decide) (fun _ => rfl) (by decide) (fun _ _ H locs hP hD hS => ?_)
  have hP : va_P D vwCl [(h0, .inr (8, [.int cd, .int (fX10_finish md ch f g).2.1, .ref h1, .int md, .ref h2, .int ch, .int sh, .int tp, .int lf, .int bt, .int rt])), (h1, .inl (cA, 1000, .inl (fX10_finish md ch f g).2.2)), (h2, .inl (cB, 1000, .inl g))] H := hP
  have hD : va_D A [(h0, .inr (8, [.int cd, .int (fX10_finish md ch f g).2.1, .ref h1, .int md, .ref h2, .int ch, .int sh, .int tp, .int lf, .int bt, .int rt])), (h1, .inl (cA, 1000, .inl (fX10_finish md ch f g).2.2)), (h2, .inl (cB, 1000, .inl g))] := hD
  exact W.iret (v := (fX10_finish md ch f g).1) hx hb hr (fun t ht hW => KR H locs hP hD hS t ht hW) (fun q h => hfr _ (hS.2.2 q h)) dX10_move_176
