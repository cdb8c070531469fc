abbrev rmX10_copy : Room := { frames := 3, cells := 0, slots := 0, locals := 82 }
def fscp_0 (md : Int32) (ch : Int32) (dn : Int32) (al : Int32) : Int32 × Int32 × Int32 × Int32 := let v_1 : Int32 := (if (fX10_within dn (-1048575) 1048575) = 0 then 1 else (if (fX10_within al (-16383) 16383) = 0 then 1 else 0)); if v_1 = 0 then (1, v_1, 0, 0) else (0, v_1, md, ch)
set_option maxHeartbeats 4000000 in
set_option maxRecDepth 100000 in
theorem kscp_0 {p : Program} {l : Launch} {e : Env} {s : State} {m : MethodId} {below : List Frame} {meth : Method} {c : Code} {args : Array Value} {A : Nat → Prop} {D : va_G} {Qc : Array Value → State → Outcome → State → Prop} {free : Addr → Prop} (hfr : ∀ q, A q → free q)  (h0 : Nat) (h1 : Nat) (h2 : Nat) (cA : ClassId) (cB : ClassId) (cd : Int32) (n : Int32) (md : Int32) (ch : Int32) (sh : Int32) (tp : Int32) (lf : Int32) (bt : Int32) (rt : Int32) (f : Nat → Int32) (g : Nat → Int32) (dn : Int32) (al : Int32) (C : Cx p s m meth c args D [(cA, .int), (cB, .int)] A cX10_copy wsX10_copy RX10 (some .int) 7) (KS : (fscp_0 md ch dn al).1 = 1 → ∀ (H : Heap) (locs : List Loc) (ls : Array Slot), va_P D vwCl [(h0, .inr (8, [.int (fscp_0 md ch dn al).2.1, .int n, .ref h1, .int (fscp_0 md ch dn al).2.2.1, .ref h2, .int (fscp_0 md ch dn al).2.2.2, .int sh, .int tp, .int lf, .int bt, .int rt])), (h1, .inl (cA, 1000, .inl f)), (h2, .inl (cB, 1000, .inl g))] H → va_D A [(h0, .inr (8, [.int (fscp_0 md ch dn al).2.1, .int n, .ref h1, .int (fscp_0 md ch dn al).2.2.1, .ref h2, .int (fscp_0 md ch dn al).2.2.2, .int sh, .int tp, .int lf, .int bt, .int rt])), (h1, .inl (cA, 1000, .inl f)), (h2, .inl (cB, 1000, .inl g))] → va_S A s.heap H locs → lv_has ls 7 [(0, .ref h0), (1, .int dn), (2, .int al), (3, .int 0)] → W p l e (headSpec wsX10_copy rmX10_copy).room s m args below meth c H locs 0 0 (MQ below Qc args s 0 0 free) (F0 m 48 ls [])) (KR : (fscp_0 md ch dn al).1 = 0 → ∀ (H : Heap) (locs : List Loc), va_P D vwCl [(h0, .inr (8, [.int (fscp_0 md ch dn al).2.1, .int n, .ref h1, .int (fscp_0 md ch dn al).2.2.1, .ref h2, .int (fscp_0 md ch dn al).2.2.2, .int sh, .int tp, .int lf, .int bt, .int rt])), (h1, .inl (cA, 1000, .inl f)), (h2, .inl (cB, 1000, .inl g))] H → va_D A [(h0, .inr (8, [.int (fscp_0 md ch dn al).2.1, .int n, .ref h1, .int (fscp_0 md ch dn al).2.2.1, .ref h2, .int (fscp_0 md ch dn al).2.2.2, .int sh, .int tp, .int lf, .int bt, .int rt])), (h1, .inl (cA, 1000, .inl f)), (h2, .inl (cB, 1000, .inl g))] → va_S A s.heap H locs → ∀ t : State, t.heap = H → s.WarmedH t.vm → Qc args s (.returned (some (.int 0))) t) : ∀ (H : Heap) (locs : List Loc) (ls : Array Slot), va_P D vwCl [(h0, .inr (8, [.int cd, .int n, .ref h1, .int md, .ref h2, .int ch, .int sh, .int tp, .int lf, .int bt, .int rt])), (h1, .inl (cA, 1000, .inl f)), (h2, .inl (cB, 1000, .inl g))] H → va_D A [(h0, .inr (8, [.int cd, .int n, .ref h1, .int md, .ref h2, .int ch, .int sh, .int tp, .int lf, .int bt, .int rt])), (h1, .inl (cA, 1000, .inl f)), (h2, .inl (cB, 1000, .inl g))] → va_S A s.heap H locs → lv_has ls 7 [(0, .ref h0), (1, .int dn), (2, .int al)] → W p l e (headSpec wsX10_copy rmX10_copy).room s m args below meth c H locs 0 0 (MQ below Qc args s 0 0 free) (F0 m 0 ls []) := by
  obtain ⟨hx, hb, hr, hml, hown, hts, hlocks, hK, hN, hA⟩ := C
  intro H locs ls hP hD hS hl
  have k_68 := hts (.constant RX10 68 (-1048575)) (by decide +kernel)
  have k_69 := hts (.constant RX10 69 (1048575)) (by decide +kernel)
  have w_X10 : ∀ w ∈ wsX100, w ∈ wsX10_copy := by decide +kernel
  have f_29 := hts (.fieldLink RX10 29 "ReferenceMoverModel" "code" "I") (by decide +kernel)
  refine lv_aload_n hx hb dX10_copy_0 rfl (lv_at hl 0 rfl) ?_
  refine lv_iload_n hx hb dX10_copy_1 rfl (lv_at hl 1 rfl) ?_
  refine lv_ldc (v := (-1048575)) hx hb hown k_68 dX10_copy_2 ?_
  refine lv_ldc (v := 1048575) hx hb hown k_69 dX10_copy_4 ?_
  have hPc := hP.sub (ws' := []) [] rfl
  have hDc := hD.sub (ws' := []) [] (by decide) rfl
  have hKc := hK.sub (tys' := []) [] rfl
  refine rd_i (va_runS (As := [.int dn, .int (-1048575), .int 1048575]) (rest := [.ref h0]) ⟨hx, hb, hml, hown, hts⟩ (kX10_within l D H.size dn (-1048575) 1048575 ) (va_cwS 3 hts gX10_copy_X10_within rfl rfl rfl (by decide +kernel) ⟨Nat.le_of_ble_eq_true rfl, Nat.le_of_ble_eq_true rfl⟩) ⟨Pw_blind, fun U hU hW => Pw_at hKc hPc hDc hN hU hW⟩ rfl rfl hl.1 rfl (lv_room (Nat.le_of_ble_eq_true rfl)) dX10_copy_6 ⟨Nat.le_of_ble_eq_true rfl, Nat.le_of_ble_eq_true rfl⟩) ?_
  have K30_1 : ∀ (v_1 : Int32), v_1 = (if (fX10_within dn (-1048575) 1048575) = 0 then 1 else (if (fX10_within al (-16383) 16383) = 0 then 1 else 0)) → ∀ ls : Array Slot, lv_has ls 7 [(0, .ref h0), (1, .int dn), (2, .int al)] → W p l e (headSpec wsX10_copy rmX10_copy).room s m args below meth c H locs 0 0 (MQ below Qc args s 0 0 free) (F0 m 30 ls [.int v_1, .ref h0]) := by
    intro v_1 ev_1 ls hl
    refine va_put (D := D) (ci := 8) (v := .int v_1) (ty := .int) (C := RX10) (T := TX10) (N := 11) hx hb hts w_X10 tyX10 tyX10_ok nmX10 hown hK hP hD hS 0 rfl rfl 0 (by decide) f_29 (fun _ h9 => h9) rfl (by decide +kernel) rfl rfl (Nat.le_of_ble_eq_true rfl) dX10_copy_30 (fun H locs hP hD hS => ?_)
    have hP : va_P D vwCl [(h0, .inr (8, [.int v_1, .int n, .ref h1, .int md, .ref h2, .int ch, .int sh, .int tp, .int lf, .int bt, .int rt])), (h1, .inl (cA, 1000, .inl f)), (h2, .inl (cB, 1000, .inl g))] H := hP
    have hD : va_D A [(h0, .inr (8, [.int v_1, .int n, .ref h1, .int md, .ref h2, .int ch, .int sh, .int tp, .int lf, .int bt, .int rt])), (h1, .inl (cA, 1000, .inl f)), (h2, .inl (cB, 1000, .inl g))] := hD
    refine lv_aload_n hx hb dX10_copy_33 rfl (lv_at hl 0 rfl) ?_
    refine va_get (D := D) (ci := 8) (v := .int v_1) (C := RX10) (T := TX10) (N := 11) hx hb hts w_X10 hown hK hP 0 rfl rfl 0 (by decide) f_29 (fun _ h9 => h9) rfl dX10_copy_34 ?_
    refine lv_if_eq (tgt := 42) hx hb dX10_copy_37 (by decide) (fun c37 => ?_) (fun c37 => ?_)
    · refine lv_aload_n hx hb dX10_copy_42 rfl (lv_at hl 0 rfl) ?_
      have hPc := hP.sub (ws' := [(h0, .inr (8, [.int v_1, .int n, .ref h1, .int md, .ref h2, .int ch, .int sh, .int tp, .int lf, .int bt, .int rt])), (h1, .inl (cA, 1000, .inl f)), (h2, .inl (cB, 1000, .inl g))]) [0, 1, 2] rfl
      have hDc := hD.sub (ws' := [(h0, .inr (8, [.int v_1, .int n, .ref h1, .int md, .ref h2, .int ch, .int sh, .int tp, .int lf, .int bt, .int rt])), (h1, .inl (cA, 1000, .inl f)), (h2, .inl (cB, 1000, .inl g))]) [0, 1, 2] (by decide) rfl
      have hKc := hK.sub (tys' := [(cA, .int), (cB, .int)]) [0, 1] rfl
      refine wk_v (β := Unit) (ok := fun _ => True) (wc := [(h0, .inr (8, [.int v_1, .int n, .ref h1, .int md, .ref h2, .int ch, .int sh, .int tp, .int lf, .int bt, .int rt])), (h1, .inl (cA, 1000, .inl f)), (h2, .inl (cB, 1000, .inl g))]) (wr := []) (w1 := fun _ => [(h0, .inr (8, [.int v_1, .int n, .ref h1, .int 0, .ref h2, .int 0, .int sh, .int tp, .int lf, .int bt, .int rt])), (h1, .inl (cA, 1000, .inl f)), (h2, .inl (cB, 1000, .inl g))]) (ws2 := fun _ => [(h0, .inr (8, [.int v_1, .int n, .ref h1, .int 0, .ref h2, .int 0, .int sh, .int tp, .int lf, .int bt, .int rt])), (h1, .inl (cA, 1000, .inl f)), (h2, .inl (cB, 1000, .inl g))]) (va_runV (As := []) (rest := []) ⟨hx, hb, hml, hown, hts⟩ (kX10_begin l D H.size h0 h1 h2 cA cB v_1 n md ch sh tp lf bt rt f g ) (cwV 0 hts gX10_copy_X10_begin rfl rfl rfl (by decide +kernel) ⟨Nat.le_of_ble_eq_true rfl, Nat.le_of_ble_eq_true rfl⟩) ⟨Pw_blind, (va_recv hKc hPc (ci := 8) (q0 := 0) rfl rfl), fun U hU hW => Pw_at hKc hPc hDc hN hU hW⟩ rfl rfl hl.1 rfl (lv_room (Nat.le_of_ble_eq_true rfl)) dX10_copy_43 ⟨Nat.le_of_ble_eq_true rfl, Nat.le_of_ble_eq_true rfl⟩) hP hD hS hA [0, 1, 2] [] [0, 1, 2] rfl rfl (by decide) (by decide) (fun _ => rfl) (by decide) (fun _ _ H locs hP hD hS => ?_)
      have hP : va_P D vwCl [(h0, .inr (8, [.int v_1, .int n, .ref h1, .int 0, .ref h2, .int 0, .int sh, .int tp, .int lf, .int bt, .int rt])), (h1, .inl (cA, 1000, .inl f)), (h2, .inl (cB, 1000, .inl g))] H := hP
      have hD : va_D A [(h0, .inr (8, [.int v_1, .int n, .ref h1, .int 0, .ref h2, .int 0, .int sh, .int tp, .int lf, .int bt, .int rt])), (h1, .inl (cA, 1000, .inl f)), (h2, .inl (cB, 1000, .inl g))] := hD
      refine lv_iconst (v := 0) hx hb dX10_copy_46 (by decide) ?_
      refine lv_istore_n (lv' := [(3, .int 0), (0, .ref h0), (1, .int dn), (2, .int al)]) hx hb dX10_copy_47 rfl hl (by decide) rfl (fun ls hl => ?_)
      have hF : (fscp_0 md ch dn al) = (1, v_1, 0, 0) := by subst ev_1; exact (if_pos c37)
      exact KS (by rw [hF]) H locs ls (by rw [hF]; exact hP) (by rw [hF]; exact hD) hS (lv_sub hl [1, 2, 3, 0] rfl)
    · refine lv_iconst (v := 0) hx hb dX10_copy_40 (by decide) ?_
      have hF : (fscp_0 md ch dn al) = (0, v_1, md, ch) := by subst ev_1; exact (if_neg c37)
      exact W.iret (v := 0) hx hb hr (fun t ht hW => KR (by rw [hF]) H locs (by rw [hF]; exact hP) (by rw [hF]; exact hD) hS t ht hW) (fun q h => hfr _ (hS.2.2 q h)) dX10_copy_41
  refine lv_if_eq (tgt := 29) hx hb dX10_copy_9 (by decide) (fun c9 => ?_) (fun c9 => ?_)
  · refine lv_iconst (v := 1) hx hb dX10_copy_29 (by decide) ?_
    exact K30_1 _ (if_pos c9).symm ls (lv_sub hl [0, 1, 2] rfl)
  · refine lv_iload_n hx hb dX10_copy_12 rfl (lv_at hl 2 rfl) ?_
    refine lv_sipush (v := (-16383)) hx hb dX10_copy_13 (by decide) ?_
    refine lv_sipush (v := 16383) hx hb dX10_copy_16 (by decide) ?_
    have hPc := hP.sub (ws' := []) [] rfl
    have hDc := hD.sub (ws' := []) [] (by decide) rfl
    have hKc := hK.sub (tys' := []) [] rfl
    refine rd_i (va_runS (As := [.int al, .int (-16383), .int 16383]) (rest := [.ref h0]) ⟨hx, hb, hml, hown, hts⟩ (kX10_within l D H.size al (-16383) 16383 ) (va_cwS 3 hts gX10_copy_X10_within rfl rfl rfl (by decide +kernel) ⟨Nat.le_of_ble_eq_true rfl, Nat.le_of_ble_eq_true rfl⟩) ⟨Pw_blind, fun U hU hW => Pw_at hKc hPc hDc hN hU hW⟩ rfl rfl hl.1 rfl (lv_room (Nat.le_of_ble_eq_true rfl)) dX10_copy_19 ⟨Nat.le_of_ble_eq_true rfl, Nat.le_of_ble_eq_true rfl⟩) ?_
    refine lv_if_eq (tgt := 29) hx hb dX10_copy_22 (by decide) (fun c22 => ?_) (fun c22 => ?_)
    · refine lv_iconst (v := 1) hx hb dX10_copy_29 (by decide) ?_
      exact K30_1 _ ((if_neg c9).trans (if_pos c22)).symm ls (lv_sub hl [0, 1, 2] rfl)
    · refine lv_iconst (v := 0) hx hb dX10_copy_25 (by decide) ?_
      refine lv_goto (tgt := 30) hx hb dX10_copy_26 (by decide) ?_
      exact K30_1 _ ((if_neg c9).trans (if_neg c22)).symm ls (lv_sub hl [0, 1, 2] rfl)

set_option maxHeartbeats 4000000 in
set_option maxRecDepth 100000 in
theorem kscp_1 {p : Program} {l : Launch} {e : Env} {s : State} {m : MethodId} {below : List Frame} {meth : Method} {c : Code} {args : Array Value} {A : Nat → Prop} {D : va_G} {Q : State → Prop}  (h0 : Nat) (h1 : Nat) (h2 : Nat) (cA : ClassId) (cB : ClassId) (cd : Int32) (n : Int32) (md : Int32) (ch : Int32) (sh : Int32) (tp : Int32) (lf : Int32) (bt : Int32) (rt : Int32) (f : Nat → Int32) (g : Nat → Int32) (dn : Int32) (al : Int32) (k : Int32) (C : Cx p s m meth c args D [(cA, .int), (cB, .int)] A cX10_copy wsX10_copy RX10 (some .int) 7) (hc : ¬ n ≤ k) (hL : (fX10_lengthAt f k) = 1) (hk : vp_in k 1000) (hm : vp_in md 1000) (KS : ∀ (H : Heap) (locs : List Loc) (ls : Array Slot), va_P D vwCl [(h0, .inr (8, [.int cd, .int n, .ref h1, .int (md + 1), .ref h2, .int ch, .int sh, .int tp, .int lf, .int bt, .int rt])), (h1, .inl (cA, 1000, .inl f)), (h2, .inl (cB, 1000, .inl (upd g md.toNatClampNeg (f k.toNatClampNeg))))] H → va_D A [(h0, .inr (8, [.int cd, .int n, .ref h1, .int (md + 1), .ref h2, .int ch, .int sh, .int tp, .int lf, .int bt, .int rt])), (h1, .inl (cA, 1000, .inl f)), (h2, .inl (cB, 1000, .inl (upd g md.toNatClampNeg (f k.toNatClampNeg))))] → va_S A s.heap H locs → lv_has ls 7 [(0, .ref h0), (1, .int dn), (2, .int al), (3, .int (k + 1))] → W p l e (headSpec wsX10_copy rmX10_copy).room s m args below meth c H locs 0 0 Q (F0 m 48 ls [])) : ∀ (H : Heap) (locs : List Loc) (ls : Array Slot), va_P D vwCl [(h0, .inr (8, [.int cd, .int n, .ref h1, .int md, .ref h2, .int ch, .int sh, .int tp, .int lf, .int bt, .int rt])), (h1, .inl (cA, 1000, .inl f)), (h2, .inl (cB, 1000, .inl g))] H → va_D A [(h0, .inr (8, [.int cd, .int n, .ref h1, .int md, .ref h2, .int ch, .int sh, .int tp, .int lf, .int bt, .int rt])), (h1, .inl (cA, 1000, .inl f)), (h2, .inl (cB, 1000, .inl g))] → va_S A s.heap H locs → lv_has ls 7 [(0, .ref h0), (1, .int dn), (2, .int al), (3, .int k)] → W p l e (headSpec wsX10_copy rmX10_copy).room s m args below meth c H locs 0 0 Q (F0 m 48 ls []) := by
  obtain ⟨hx, hb, hr, hml, hown, hts, hlocks, hK, hN, hA⟩ := C
  intro H locs ls hP hD hS hl
  have w_X10 : ∀ w ∈ wsX100, w ∈ wsX10_copy := by decide +kernel
  have f_32 := hts (.fieldLink RX10 32 "ReferenceMoverModel" "size" "I") (by decide +kernel)
  have f_7 := hts (.fieldLink RX10 7 "ReferenceMoverModel" "words" "[I") (by decide +kernel)
  refine lv_iload_n hx hb dX10_copy_48 rfl (lv_at hl 3 rfl) ?_
  refine lv_aload_n hx hb dX10_copy_49 rfl (lv_at hl 0 rfl) ?_
  refine va_get (D := D) (ci := 8) (v := .int n) (C := RX10) (T := TX10) (N := 11) hx hb hts w_X10 hown hK hP 0 rfl rfl 1 (by decide) f_32 (fun _ h9 => h9) rfl dX10_copy_50 ?_
  refine lv_icmp_ge (tgt := 235) hx hb dX10_copy_53 (by decide) (fun h => absurd h hc) (fun _ => ?_)
  refine lv_aload_n hx hb dX10_copy_56 rfl (lv_at hl 0 rfl) ?_
  refine lv_iload_n hx hb dX10_copy_57 rfl (lv_at hl 3 rfl) ?_
  have hPc := hP.sub (ws' := [(h0, .inr (8, [.int cd, .int n, .ref h1, .int md, .ref h2, .int ch, .int sh, .int tp, .int lf, .int bt, .int rt])), (h1, .inl (cA, 1000, .inl f)), (h2, .inl (cB, 1000, .inl g))]) [0, 1, 2] rfl
  have hDc := hD.sub (ws' := [(h0, .inr (8, [.int cd, .int n, .ref h1, .int md, .ref h2, .int ch, .int sh, .int tp, .int lf, .int bt, .int rt])), (h1, .inl (cA, 1000, .inl f)), (h2, .inl (cB, 1000, .inl g))]) [0, 1, 2] (by decide) rfl
  have hKc := hK.sub (tys' := [(cA, .int), (cB, .int)]) [0, 1] rfl
  refine rd_i (va_runV (As := [.int k]) (rest := []) ⟨hx, hb, hml, hown, hts⟩ (kX10_lengthAt l D H.size h0 h1 h2 cA cB cd n md ch sh tp lf bt rt f g k hk) (cwV 1 hts gX10_copy_X10_lengthAt rfl rfl rfl (by decide +kernel) ⟨Nat.le_of_ble_eq_true rfl, Nat.le_of_ble_eq_true rfl⟩) ⟨Pw_blind, (va_recv hKc hPc (ci := 8) (q0 := 0) rfl rfl), fun U hU hW => Pw_at hKc hPc hDc hN hU hW⟩ rfl rfl hl.1 rfl (lv_room (Nat.le_of_ble_eq_true rfl)) dX10_copy_58 ⟨Nat.le_of_ble_eq_true rfl, Nat.le_of_ble_eq_true rfl⟩) ?_
  rw [hL]
  refine lv_istore (lv' := [(4, .int 1), (0, .ref h0), (1, .int dn), (2, .int al), (3, .int k)]) hx hb dX10_copy_61 hl (by decide) rfl (fun ls hl => ?_)
  refine lv_iload hx hb dX10_copy_63 (lv_at hl 0 rfl) ?_
  refine lv_iconst (v := 4) hx hb dX10_copy_65 (by decide) ?_
  refine lv_icmp_ne (tgt := 105) hx hb dX10_copy_66 (by decide) (fun _ => ?_) (fun h => absurd h (by decide))
  refine lv_iconst (v := 0) hx hb dX10_copy_105 (by decide) ?_
  refine lv_istore (lv' := [(5, .int 0), (4, .int 1), (0, .ref h0), (1, .int dn), (2, .int al), (3, .int k)]) hx hb dX10_copy_106 hl (by decide) rfl (fun ls hl => ?_)
  refine lv_iload hx hb dX10_copy_108 (lv_at hl 1 rfl) ?_
  refine lv_iconst (v := 4) hx hb dX10_copy_110 (by decide) ?_
  refine lv_icmp_ne (tgt := 151) hx hb dX10_copy_111 (by decide) (fun _ => ?_) (fun h => absurd h (by decide))
  refine lv_iconst (v := 0) hx hb dX10_copy_151 (by decide) ?_
  refine lv_istore (lv' := [(6, .int 0), (5, .int 0), (4, .int 1), (0, .ref h0), (1, .int dn), (2, .int al), (3, .int k)]) hx hb dX10_copy_152 hl (by decide) rfl (fun ls hl => ?_)
  refine lv_iload hx hb dX10_copy_154 (lv_at hl 2 rfl) ?_
  refine lv_iconst (v := 1) hx hb dX10_copy_156 (by decide) ?_
  refine lv_icmp_ne (tgt := 173) hx hb dX10_copy_157 (by decide) (fun h => absurd h (by decide)) (fun _ => ?_)
  refine lv_aload_n hx hb dX10_copy_160 rfl (lv_at hl 3 rfl) ?_
  refine lv_aload_n hx hb dX10_copy_161 rfl (lv_at hl 3 rfl) ?_
  refine va_get (D := D) (ci := 8) (v := .ref h1) (C := RX10) (T := TX10) (N := 11) hx hb hts w_X10 hown hK hP 0 rfl rfl 2 (by decide) f_7 (fun _ h9 => h9) rfl dX10_copy_162 ?_
  refine lv_iload_n hx hb dX10_copy_165 rfl (lv_at hl 6 rfl) ?_
  refine va_iald hx hb hK hP 1 0 rfl rfl hk dX10_copy_166 ?_
  have hPc := hP.sub (ws' := [(h0, .inr (8, [.int cd, .int n, .ref h1, .int md, .ref h2, .int ch, .int sh, .int tp, .int lf, .int bt, .int rt])), (h1, .inl (cA, 1000, .inl f)), (h2, .inl (cB, 1000, .inl g))]) [0, 1, 2] rfl
  have hDc := hD.sub (ws' := [(h0, .inr (8, [.int cd, .int n, .ref h1, .int md, .ref h2, .int ch, .int sh, .int tp, .int lf, .int bt, .int rt])), (h1, .inl (cA, 1000, .inl f)), (h2, .inl (cB, 1000, .inl g))]) [0, 1, 2] (by decide) rfl
  have hKc := hK.sub (tys' := [(cA, .int), (cB, .int)]) [0, 1] rfl
  refine wk_v (β := Unit) (ok := fun _ => True) (wc := [(h0, .inr (8, [.int cd, .int n, .ref h1, .int md, .ref h2, .int ch, .int sh, .int tp, .int lf, .int bt, .int rt])), (h1, .inl (cA, 1000, .inl f)), (h2, .inl (cB, 1000, .inl g))]) (wr := []) (w1 := fun _ => [(h0, .inr (8, [.int cd, .int n, .ref h1, .int (md + 1), .ref h2, .int ch, .int sh, .int tp, .int lf, .int bt, .int rt])), (h1, .inl (cA, 1000, .inl f)), (h2, .inl (cB, 1000, .inl (upd g md.toNatClampNeg (f k.toNatClampNeg))))]) (ws2 := fun _ => [(h0, .inr (8, [.int cd, .int n, .ref h1, .int (md + 1), .ref h2, .int ch, .int sh, .int tp, .int lf, .int bt, .int rt])), (h1, .inl (cA, 1000, .inl f)), (h2, .inl (cB, 1000, .inl (upd g md.toNatClampNeg (f k.toNatClampNeg))))]) (va_runV (As := [.int (f k.toNatClampNeg)]) (rest := []) ⟨hx, hb, hml, hown, hts⟩ (kX10_make l D H.size h0 h1 h2 cA cB cd n md ch sh tp lf bt rt f g (f k.toNatClampNeg) hm) (cwV 1 hts gX10_copy_X10_make rfl rfl rfl (by decide +kernel) ⟨Nat.le_of_ble_eq_true rfl, Nat.le_of_ble_eq_true rfl⟩) ⟨Pw_blind, (va_recv hKc hPc (ci := 8) (q0 := 0) rfl rfl), fun U hU hW => Pw_at hKc hPc hDc hN hU hW⟩ rfl rfl hl.1 rfl (lv_room (Nat.le_of_ble_eq_true rfl)) dX10_copy_167 ⟨Nat.le_of_ble_eq_true rfl, Nat.le_of_ble_eq_true rfl⟩) hP hD hS hA [0, 1, 2] [] [0, 1, 2] rfl rfl (by decide) (by decide) (fun _ => rfl) (by decide) (fun _ _ H locs hP hD hS => ?_)
  have hP : va_P D vwCl [(h0, .inr (8, [.int cd, .int n, .ref h1, .int (md + 1), .ref h2, .int ch, .int sh, .int tp, .int lf, .int bt, .int rt])), (h1, .inl (cA, 1000, .inl f)), (h2, .inl (cB, 1000, .inl (upd g md.toNatClampNeg (f k.toNatClampNeg))))] H := hP
  have hD : va_D A [(h0, .inr (8, [.int cd, .int n, .ref h1, .int (md + 1), .ref h2, .int ch, .int sh, .int tp, .int lf, .int bt, .int rt])), (h1, .inl (cA, 1000, .inl f)), (h2, .inl (cB, 1000, .inl (upd g md.toNatClampNeg (f k.toNatClampNeg))))] := hD
  refine lv_goto (tgt := 224) hx hb dX10_copy_170 (by decide) ?_
  refine lv_iload_n hx hb dX10_copy_224 rfl (lv_at hl 6 rfl) ?_
  refine lv_aload_n hx hb dX10_copy_225 rfl (lv_at hl 3 rfl) ?_
  refine lv_iload_n hx hb dX10_copy_226 rfl (lv_at hl 6 rfl) ?_
  have hPc := hP.sub (ws' := [(h0, .inr (8, [.int cd, .int n, .ref h1, .int (md + 1), .ref h2, .int ch, .int sh, .int tp, .int lf, .int bt, .int rt])), (h1, .inl (cA, 1000, .inl f)), (h2, .inl (cB, 1000, .inl (upd g md.toNatClampNeg (f k.toNatClampNeg))))]) [0, 1, 2] rfl
  have hDc := hD.sub (ws' := [(h0, .inr (8, [.int cd, .int n, .ref h1, .int (md + 1), .ref h2, .int ch, .int sh, .int tp, .int lf, .int bt, .int rt])), (h1, .inl (cA, 1000, .inl f)), (h2, .inl (cB, 1000, .inl (upd g md.toNatClampNeg (f k.toNatClampNeg))))]) [0, 1, 2] (by decide) rfl
  have hKc := hK.sub (tys' := [(cA, .int), (cB, .int)]) [0, 1] rfl
  refine rd_i (va_runV (As := [.int k]) (rest := [.int k]) ⟨hx, hb, hml, hown, hts⟩ (kX10_lengthAt l D H.size h0 h1 h2 cA cB cd n (md + 1) ch sh tp lf bt rt f (upd g md.toNatClampNeg (f k.toNatClampNeg)) k hk) (cwV 1 hts gX10_copy_X10_lengthAt rfl rfl rfl (by decide +kernel) ⟨Nat.le_of_ble_eq_true rfl, Nat.le_of_ble_eq_true rfl⟩) ⟨Pw_blind, (va_recv hKc hPc (ci := 8) (q0 := 0) rfl rfl), fun U hU hW => Pw_at hKc hPc hDc hN hU hW⟩ rfl rfl hl.1 rfl (lv_room (Nat.le_of_ble_eq_true rfl)) dX10_copy_227 ⟨Nat.le_of_ble_eq_true rfl, Nat.le_of_ble_eq_true rfl⟩) ?_
  rw [hL]
  refine lv_iadd hx hb dX10_copy_230 ?_
  refine lv_istore_n (lv' := [(3, .int (k + 1)), (6, .int 0), (5, .int 0), (4, .int 1), (0, .ref h0), (1, .int dn), (2, .int al)]) hx hb dX10_copy_231 rfl hl (by decide) rfl (fun ls hl => ?_)
  refine lv_goto (tgt := 48) hx hb dX10_copy_232 (by decide) ?_
  exact KS H locs ls hP hD hS (lv_sub hl [4, 5, 6, 0] rfl)

def fscp_4 (md : Int32) (ch : Int32) (f : Nat → Int32) (g : Nat → Int32) (dn : Int32) (al : Int32) (k : Int32) : Int32 × Int32 × (Nat → Int32) := let v_1 : Int32 := (if (((f k.toNatClampNeg) / 16) &&& 2) ≤ 0 then 0 else 1); let v_2 : Int32 := (if (((f k.toNatClampNeg) / 16) &&& 1) ≤ 0 then 0 else 1); let v_3 : Int32 := (if (fX10_moved (f (k + 2).toNatClampNeg) v_1 dn 1048576) = 0 then (md + 1) else (if (fX10_moved (f (k + 3).toNatClampNeg) v_2 al 16384) = 0 then (md + 1) else (fX10_makePlace md ch f g k (f (k + 1).toNatClampNeg) (fX10_moved (f (k + 2).toNatClampNeg) v_1 dn 1048576) (fX10_moved (f (k + 3).toNatClampNeg) v_2 al 16384)).1)); let v_4 : Int32 := (if (fX10_moved (f (k + 2).toNatClampNeg) v_1 dn 1048576) = 0 then (ch + 1) else (if (fX10_moved (f (k + 3).toNatClampNeg) v_2 al 16384) = 0 then (ch + 1) else (fX10_makePlace md ch f g k (f (k + 1).toNatClampNeg) (fX10_moved (f (k + 2).toNatClampNeg) v_1 dn 1048576) (fX10_moved (f (k + 3).toNatClampNeg) v_2 al 16384)).2.1)); let v_5 : Nat → Int32 := (if (fX10_moved (f (k + 2).toNatClampNeg) v_1 dn 1048576) = 0 then (upd g md.toNatClampNeg 67) else (if (fX10_moved (f (k + 3).toNatClampNeg) v_2 al 16384) = 0 then (upd g md.toNatClampNeg 67) else (fX10_makePlace md ch f g k (f (k + 1).toNatClampNeg) (fX10_moved (f (k + 2).toNatClampNeg) v_1 dn 1048576) (fX10_moved (f (k + 3).toNatClampNeg) v_2 al 16384)).2.2)); (v_3, v_4, v_5)
set_option maxHeartbeats 4000000 in
set_option maxRecDepth 100000 in
theorem kscp_4 {p : Program} {l : Launch} {e : Env} {s : State} {m : MethodId} {below : List Frame} {meth : Method} {c : Code} {args : Array Value} {A : Nat → Prop} {D : va_G} {Q : State → Prop}  (h0 : Nat) (h1 : Nat) (h2 : Nat) (cA : ClassId) (cB : ClassId) (cd : Int32) (n : Int32) (md : Int32) (ch : Int32) (sh : Int32) (tp : Int32) (lf : Int32) (bt : Int32) (rt : Int32) (f : Nat → Int32) (g : Nat → Int32) (dn : Int32) (al : Int32) (k : Int32) (C : Cx p s m meth c args D [(cA, .int), (cB, .int)] A cX10_copy wsX10_copy RX10 (some .int) 7) (hc : ¬ n ≤ k) (hL : (fX10_lengthAt f k) = 4) (hk : vp_in k 997) (hm : vp_in md 997) (KS : ∀ (H : Heap) (locs : List Loc) (ls : Array Slot), va_P D vwCl [(h0, .inr (8, [.int cd, .int n, .ref h1, .int (fscp_4 md ch f g dn al k).1, .ref h2, .int (fscp_4 md ch f g dn al k).2.1, .int sh, .int tp, .int lf, .int bt, .int rt])), (h1, .inl (cA, 1000, .inl f)), (h2, .inl (cB, 1000, .inl (fscp_4 md ch f g dn al k).2.2))] H → va_D A [(h0, .inr (8, [.int cd, .int n, .ref h1, .int (fscp_4 md ch f g dn al k).1, .ref h2, .int (fscp_4 md ch f g dn al k).2.1, .int sh, .int tp, .int lf, .int bt, .int rt])), (h1, .inl (cA, 1000, .inl f)), (h2, .inl (cB, 1000, .inl (fscp_4 md ch f g dn al k).2.2))] → va_S A s.heap H locs → lv_has ls 7 [(0, .ref h0), (1, .int dn), (2, .int al), (3, .int (k + 4))] → W p l e (headSpec wsX10_copy rmX10_copy).room s m args below meth c H locs 0 0 Q (F0 m 48 ls [])) : ∀ (H : Heap) (locs : List Loc) (ls : Array Slot), va_P D vwCl [(h0, .inr (8, [.int cd, .int n, .ref h1, .int md, .ref h2, .int ch, .int sh, .int tp, .int lf, .int bt, .int rt])), (h1, .inl (cA, 1000, .inl f)), (h2, .inl (cB, 1000, .inl g))] H → va_D A [(h0, .inr (8, [.int cd, .int n, .ref h1, .int md, .ref h2, .int ch, .int sh, .int tp, .int lf, .int bt, .int rt])), (h1, .inl (cA, 1000, .inl f)), (h2, .inl (cB, 1000, .inl g))] → va_S A s.heap H locs → lv_has ls 7 [(0, .ref h0), (1, .int dn), (2, .int al), (3, .int k)] → W p l e (headSpec wsX10_copy rmX10_copy).room s m args below meth c H locs 0 0 Q (F0 m 48 ls []) := by
  obtain ⟨hx, hb, hr, hml, hown, hts, hlocks, hK, hN, hA⟩ := C
  intro H locs ls hP hD hS hl
  have w_X10 : ∀ w ∈ wsX100, w ∈ wsX10_copy := by decide +kernel
  have f_32 := hts (.fieldLink RX10 32 "ReferenceMoverModel" "size" "I") (by decide +kernel)
  have f_7 := hts (.fieldLink RX10 7 "ReferenceMoverModel" "words" "[I") (by decide +kernel)
  have k_39 := hts (.constant RX10 39 (1048576)) (by decide +kernel)
  refine lv_iload_n hx hb dX10_copy_48 rfl (lv_at hl 3 rfl) ?_
  refine lv_aload_n hx hb dX10_copy_49 rfl (lv_at hl 0 rfl) ?_
  refine va_get (D := D) (ci := 8) (v := .int n) (C := RX10) (T := TX10) (N := 11) hx hb hts w_X10 hown hK hP 0 rfl rfl 1 (by decide) f_32 (fun _ h9 => h9) rfl dX10_copy_50 ?_
  refine lv_icmp_ge (tgt := 235) hx hb dX10_copy_53 (by decide) (fun h => absurd h hc) (fun _ => ?_)
  refine lv_aload_n hx hb dX10_copy_56 rfl (lv_at hl 0 rfl) ?_
  refine lv_iload_n hx hb dX10_copy_57 rfl (lv_at hl 3 rfl) ?_
  have hPc := hP.sub (ws' := [(h0, .inr (8, [.int cd, .int n, .ref h1, .int md, .ref h2, .int ch, .int sh, .int tp, .int lf, .int bt, .int rt])), (h1, .inl (cA, 1000, .inl f)), (h2, .inl (cB, 1000, .inl g))]) [0, 1, 2] rfl
  have hDc := hD.sub (ws' := [(h0, .inr (8, [.int cd, .int n, .ref h1, .int md, .ref h2, .int ch, .int sh, .int tp, .int lf, .int bt, .int rt])), (h1, .inl (cA, 1000, .inl f)), (h2, .inl (cB, 1000, .inl g))]) [0, 1, 2] (by decide) rfl
  have hKc := hK.sub (tys' := [(cA, .int), (cB, .int)]) [0, 1] rfl
  refine rd_i (va_runV (As := [.int k]) (rest := []) ⟨hx, hb, hml, hown, hts⟩ (kX10_lengthAt l D H.size h0 h1 h2 cA cB cd n md ch sh tp lf bt rt f g k (in_w hk (by decide))) (cwV 1 hts gX10_copy_X10_lengthAt rfl rfl rfl (by decide +kernel) ⟨Nat.le_of_ble_eq_true rfl, Nat.le_of_ble_eq_true rfl⟩) ⟨Pw_blind, (va_recv hKc hPc (ci := 8) (q0 := 0) rfl rfl), fun U hU hW => Pw_at hKc hPc hDc hN hU hW⟩ rfl rfl hl.1 rfl (lv_room (Nat.le_of_ble_eq_true rfl)) dX10_copy_58 ⟨Nat.le_of_ble_eq_true rfl, Nat.le_of_ble_eq_true rfl⟩) ?_
  rw [hL]
  refine lv_istore (lv' := [(4, .int 4), (0, .ref h0), (1, .int dn), (2, .int al), (3, .int k)]) hx hb dX10_copy_61 hl (by decide) rfl (fun ls hl => ?_)
  refine lv_iload hx hb dX10_copy_63 (lv_at hl 0 rfl) ?_
  refine lv_iconst (v := 4) hx hb dX10_copy_65 (by decide) ?_
  refine lv_icmp_ne (tgt := 105) hx hb dX10_copy_66 (by decide) (fun h => absurd h (by decide)) (fun _ => ?_)
  refine lv_aload_n hx hb dX10_copy_69 rfl (lv_at hl 1 rfl) ?_
  refine va_get (D := D) (ci := 8) (v := .ref h1) (C := RX10) (T := TX10) (N := 11) hx hb hts w_X10 hown hK hP 0 rfl rfl 2 (by decide) f_7 (fun _ h9 => h9) rfl dX10_copy_70 ?_
  refine lv_iload_n hx hb dX10_copy_73 rfl (lv_at hl 4 rfl) ?_
  refine lv_iconst (v := 2) hx hb dX10_copy_74 (by decide) ?_
  refine lv_iadd hx hb dX10_copy_75 ?_
  refine va_iald hx hb hK hP 1 0 rfl rfl (in_add (c := 2) (n := 1000) hk (by decide) (by decide) (by decide)) dX10_copy_76 ?_
  refine lv_aload_n hx hb dX10_copy_77 rfl (lv_at hl 1 rfl) ?_
  refine va_get (D := D) (ci := 8) (v := .ref h1) (C := RX10) (T := TX10) (N := 11) hx hb hts w_X10 hown hK hP 0 rfl rfl 2 (by decide) f_7 (fun _ h9 => h9) rfl dX10_copy_78 ?_
  refine lv_iload_n hx hb dX10_copy_81 rfl (lv_at hl 4 rfl) ?_
  refine va_iald hx hb hK hP 1 0 rfl rfl (in_w hk (by decide)) dX10_copy_82 ?_
  refine lv_bipush (v := 16) hx hb dX10_copy_83 (by decide) ?_
  refine lv_idiv hx hb dX10_copy_85 (by decide) ?_
  refine lv_iconst (v := 2) hx hb dX10_copy_86 (by decide) ?_
  refine lv_iand hx hb dX10_copy_87 ?_
  have K96_1 : ∀ (v_1 : Int32), v_1 = (if (((f k.toNatClampNeg) / 16) &&& 2) ≤ 0 then 0 else 1) → ∀ ls : Array Slot, lv_has ls 7 [(0, .ref h0), (1, .int dn), (2, .int al), (3, .int k), (4, .int 4)] → W p l e (headSpec wsX10_copy rmX10_copy).room s m args below meth c H locs 0 0 Q (F0 m 96 ls [.int v_1, .int (f (k + 2).toNatClampNeg)]) := by
    intro v_1 ev_1 ls hl
    refine lv_iload_n hx hb dX10_copy_96 rfl (lv_at hl 1 rfl) ?_
    refine lv_ldc (v := 1048576) hx hb hown k_39 dX10_copy_97 ?_
    have hPc := hP.sub (ws' := []) [] rfl
    have hDc := hD.sub (ws' := []) [] (by decide) rfl
    have hKc := hK.sub (tys' := []) [] rfl
    refine rd_i (va_runS (As := [.int (f (k + 2).toNatClampNeg), .int v_1, .int dn, .int 1048576]) (rest := []) ⟨hx, hb, hml, hown, hts⟩ (kX10_moved l D H.size (f (k + 2).toNatClampNeg) v_1 dn 1048576 ) (va_cwS 4 hts gX10_copy_X10_moved rfl rfl rfl (by decide +kernel) ⟨Nat.le_of_ble_eq_true rfl, Nat.le_of_ble_eq_true rfl⟩) ⟨Pw_blind, fun U hU hW => Pw_at hKc hPc hDc hN hU hW⟩ rfl rfl hl.1 rfl (lv_room (Nat.le_of_ble_eq_true rfl)) dX10_copy_99 ⟨Nat.le_of_ble_eq_true rfl, Nat.le_of_ble_eq_true rfl⟩) ?_
    refine lv_goto (tgt := 106) hx hb dX10_copy_102 (by decide) ?_
    refine lv_istore (lv' := [(5, .int (fX10_moved (f (k + 2).toNatClampNeg) v_1 dn 1048576)), (0, .ref h0), (1, .int dn), (2, .int al), (3, .int k), (4, .int 4)]) hx hb dX10_copy_106 hl (by decide) rfl (fun ls hl => ?_)
    refine lv_iload hx hb dX10_copy_108 (lv_at hl 5 rfl) ?_
    refine lv_iconst (v := 4) hx hb dX10_copy_110 (by decide) ?_
    refine lv_icmp_ne (tgt := 151) hx hb dX10_copy_111 (by decide) (fun h => absurd h (by decide)) (fun _ => ?_)
    refine lv_aload_n hx hb dX10_copy_114 rfl (lv_at hl 1 rfl) ?_
    refine va_get (D := D) (ci := 8) (v := .ref h1) (C := RX10) (T := TX10) (N := 11) hx hb hts w_X10 hown hK hP 0 rfl rfl 2 (by decide) f_7 (fun _ h9 => h9) rfl dX10_copy_115 ?_
    refine lv_iload_n hx hb dX10_copy_118 rfl (lv_at hl 4 rfl) ?_
    refine lv_iconst (v := 3) hx hb dX10_copy_119 (by decide) ?_
    refine lv_iadd hx hb dX10_copy_120 ?_
    refine va_iald hx hb hK hP 1 0 rfl rfl (in_add (c := 3) (n := 1000) hk (by decide) (by decide) (by decide)) dX10_copy_121 ?_
    refine lv_aload_n hx hb dX10_copy_122 rfl (lv_at hl 1 rfl) ?_
    refine va_get (D := D) (ci := 8) (v := .ref h1) (C := RX10) (T := TX10) (N := 11) hx hb hts w_X10 hown hK hP 0 rfl rfl 2 (by decide) f_7 (fun _ h9 => h9) rfl dX10_copy_123 ?_
    refine lv_iload_n hx hb dX10_copy_126 rfl (lv_at hl 4 rfl) ?_
    refine va_iald hx hb hK hP 1 0 rfl rfl (in_w hk (by decide)) dX10_copy_127 ?_
    refine lv_bipush (v := 16) hx hb dX10_copy_128 (by decide) ?_
    refine lv_idiv hx hb dX10_copy_130 (by decide) ?_
    refine lv_iconst (v := 1) hx hb dX10_copy_131 (by decide) ?_
    refine lv_iand hx hb dX10_copy_132 ?_
    have K141_2 : ∀ (v_2 : Int32), v_2 = (if (((f k.toNatClampNeg) / 16) &&& 1) ≤ 0 then 0 else 1) → ∀ ls : Array Slot, lv_has ls 7 [(0, .ref h0), (1, .int dn), (2, .int al), (3, .int k), (4, .int 4), (5, .int (fX10_moved (f (k + 2).toNatClampNeg) v_1 dn 1048576))] → W p l e (headSpec wsX10_copy rmX10_copy).room s m args below meth c H locs 0 0 Q (F0 m 141 ls [.int v_2, .int (f (k + 3).toNatClampNeg)]) := by
      intro v_2 ev_2 ls hl
      refine lv_iload_n hx hb dX10_copy_141 rfl (lv_at hl 2 rfl) ?_
      refine lv_sipush (v := 16384) hx hb dX10_copy_142 (by decide) ?_
      have hPc := hP.sub (ws' := []) [] rfl
      have hDc := hD.sub (ws' := []) [] (by decide) rfl
      have hKc := hK.sub (tys' := []) [] rfl
      refine rd_i (va_runS (As := [.int (f (k + 3).toNatClampNeg), .int v_2, .int al, .int 16384]) (rest := []) ⟨hx, hb, hml, hown, hts⟩ (kX10_moved l D H.size (f (k + 3).toNatClampNeg) v_2 al 16384 ) (va_cwS 4 hts gX10_copy_X10_moved rfl rfl rfl (by decide +kernel) ⟨Nat.le_of_ble_eq_true rfl, Nat.le_of_ble_eq_true rfl⟩) ⟨Pw_blind, fun U hU hW => Pw_at hKc hPc hDc hN hU hW⟩ rfl rfl hl.1 rfl (lv_room (Nat.le_of_ble_eq_true rfl)) dX10_copy_145 ⟨Nat.le_of_ble_eq_true rfl, Nat.le_of_ble_eq_true rfl⟩) ?_
      refine lv_goto (tgt := 152) hx hb dX10_copy_148 (by decide) ?_
      refine lv_istore (lv' := [(6, .int (fX10_moved (f (k + 3).toNatClampNeg) v_2 al 16384)), (0, .ref h0), (1, .int dn), (2, .int al), (3, .int k), (4, .int 4), (5, .int (fX10_moved (f (k + 2).toNatClampNeg) v_1 dn 1048576))]) hx hb dX10_copy_152 hl (by decide) rfl (fun ls hl => ?_)
      refine lv_iload hx hb dX10_copy_154 (lv_at hl 5 rfl) ?_
      refine lv_iconst (v := 1) hx hb dX10_copy_156 (by decide) ?_
      refine lv_icmp_ne (tgt := 173) hx hb dX10_copy_157 (by decide) (fun _ => ?_) (fun h => absurd h (by decide))
      refine lv_iload hx hb dX10_copy_173 (lv_at hl 5 rfl) ?_
      refine lv_bipush (v := 6) hx hb dX10_copy_175 (by decide) ?_
      refine lv_icmp_ne (tgt := 190) hx hb dX10_copy_177 (by decide) (fun _ => ?_) (fun h => absurd h (by decide))
      refine lv_iload hx hb dX10_copy_190 (lv_at hl 6 rfl) ?_
      have K224_3 : ∀ (v_3 : Int32), v_3 = (if (fX10_moved (f (k + 2).toNatClampNeg) v_1 dn 1048576) = 0 then (md + 1) else (if (fX10_moved (f (k + 3).toNatClampNeg) v_2 al 16384) = 0 then (md + 1) else (fX10_makePlace md ch f g k (f (k + 1).toNatClampNeg) (fX10_moved (f (k + 2).toNatClampNeg) v_1 dn 1048576) (fX10_moved (f (k + 3).toNatClampNeg) v_2 al 16384)).1)) → ∀ (v_4 : Int32), v_4 = (if (fX10_moved (f (k + 2).toNatClampNeg) v_1 dn 1048576) = 0 then (ch + 1) else (if (fX10_moved (f (k + 3).toNatClampNeg) v_2 al 16384) = 0 then (ch + 1) else (fX10_makePlace md ch f g k (f (k + 1).toNatClampNeg) (fX10_moved (f (k + 2).toNatClampNeg) v_1 dn 1048576) (fX10_moved (f (k + 3).toNatClampNeg) v_2 al 16384)).2.1)) → ∀ (v_5 : Nat → Int32), v_5 = (if (fX10_moved (f (k + 2).toNatClampNeg) v_1 dn 1048576) = 0 then (upd g md.toNatClampNeg 67) else (if (fX10_moved (f (k + 3).toNatClampNeg) v_2 al 16384) = 0 then (upd g md.toNatClampNeg 67) else (fX10_makePlace md ch f g k (f (k + 1).toNatClampNeg) (fX10_moved (f (k + 2).toNatClampNeg) v_1 dn 1048576) (fX10_moved (f (k + 3).toNatClampNeg) v_2 al 16384)).2.2)) → ∀ (H : Heap) (locs : List Loc), va_P D vwCl [(h0, .inr (8, [.int cd, .int n, .ref h1, .int v_3, .ref h2, .int v_4, .int sh, .int tp, .int lf, .int bt, .int rt])), (h1, .inl (cA, 1000, .inl f)), (h2, .inl (cB, 1000, .inl v_5))] H → va_D A [(h0, .inr (8, [.int cd, .int n, .ref h1, .int v_3, .ref h2, .int v_4, .int sh, .int tp, .int lf, .int bt, .int rt])), (h1, .inl (cA, 1000, .inl f)), (h2, .inl (cB, 1000, .inl v_5))] → va_S A s.heap H locs → ∀ ls : Array Slot, lv_has ls 7 [(0, .ref h0), (1, .int dn), (2, .int al), (3, .int k)] → W p l e (headSpec wsX10_copy rmX10_copy).room s m args below meth c H locs 0 0 Q (F0 m 224 ls []) := by
        intro v_3 ev_3 v_4 ev_4 v_5 ev_5 H locs hP hD hS ls hl
        refine lv_iload_n hx hb dX10_copy_224 rfl (lv_at hl 3 rfl) ?_
        refine lv_aload_n hx hb dX10_copy_225 rfl (lv_at hl 0 rfl) ?_
        refine lv_iload_n hx hb dX10_copy_226 rfl (lv_at hl 3 rfl) ?_
        have hPc := hP.sub (ws' := [(h0, .inr (8, [.int cd, .int n, .ref h1, .int v_3, .ref h2, .int v_4, .int sh, .int tp, .int lf, .int bt, .int rt])), (h1, .inl (cA, 1000, .inl f)), (h2, .inl (cB, 1000, .inl v_5))]) [0, 1, 2] rfl
        have hDc := hD.sub (ws' := [(h0, .inr (8, [.int cd, .int n, .ref h1, .int v_3, .ref h2, .int v_4, .int sh, .int tp, .int lf, .int bt, .int rt])), (h1, .inl (cA, 1000, .inl f)), (h2, .inl (cB, 1000, .inl v_5))]) [0, 1, 2] (by decide) rfl
        have hKc := hK.sub (tys' := [(cA, .int), (cB, .int)]) [0, 1] rfl
        refine rd_i (va_runV (As := [.int k]) (rest := [.int k]) ⟨hx, hb, hml, hown, hts⟩ (kX10_lengthAt l D H.size h0 h1 h2 cA cB cd n v_3 v_4 sh tp lf bt rt f v_5 k (in_w hk (by decide))) (cwV 1 hts gX10_copy_X10_lengthAt rfl rfl rfl (by decide +kernel) ⟨Nat.le_of_ble_eq_true rfl, Nat.le_of_ble_eq_true rfl⟩) ⟨Pw_blind, (va_recv hKc hPc (ci := 8) (q0 := 0) rfl rfl), fun U hU hW => Pw_at hKc hPc hDc hN hU hW⟩ rfl rfl hl.1 rfl (lv_room (Nat.le_of_ble_eq_true rfl)) dX10_copy_227 ⟨Nat.le_of_ble_eq_true rfl, Nat.le_of_ble_eq_true rfl⟩) ?_
        rw [hL]
        refine lv_iadd hx hb dX10_copy_230 ?_
        refine lv_istore_n (lv' := [(3, .int (k + 4)), (0, .ref h0), (1, .int dn), (2, .int al)]) hx hb dX10_copy_231 rfl hl (by decide) rfl (fun ls hl => ?_)
        refine lv_goto (tgt := 48) hx hb dX10_copy_232 (by decide) ?_
        have hF : (fscp_4 md ch f g dn al k) = (v_3, v_4, v_5) := by subst ev_5; subst ev_4; subst ev_3; subst ev_2; subst ev_1; exact rfl
        exact KS H locs ls (by rw [hF]; exact hP) (by rw [hF]; exact hD) hS (lv_sub hl [1, 2, 3, 0] rfl)
      refine lv_if_eq (tgt := 200) hx hb dX10_copy_192 (by decide) (fun c192 => ?_) (fun c192 => ?_)
      · refine lv_aload_n hx hb dX10_copy_200 rfl (lv_at hl 1 rfl) ?_
        have hPc := hP.sub (ws' := [(h0, .inr (8, [.int cd, .int n, .ref h1, .int md, .ref h2, .int ch, .int sh, .int tp, .int lf, .int bt, .int rt])), (h1, .inl (cA, 1000, .inl f)), (h2, .inl (cB, 1000, .inl g))]) [0, 1, 2] rfl
        have hDc := hD.sub (ws' := [(h0, .inr (8, [.int cd, .int n, .ref h1, .int md, .ref h2, .int ch, .int sh, .int tp, .int lf, .int bt, .int rt])), (h1, .inl (cA, 1000, .inl f)), (h2, .inl (cB, 1000, .inl g))]) [0, 1, 2] (by decide) rfl
        have hKc := hK.sub (tys' := [(cA, .int), (cB, .int)]) [0, 1] rfl
        refine wk_v (β := Unit) (ok := fun _ => True) (wc := [(h0, .inr (8, [.int cd, .int n, .ref h1, .int md, .ref h2, .int ch, .int sh, .int tp, .int lf, .int bt, .int rt])), (h1, .inl (cA, 1000, .inl f)), (h2, .inl (cB, 1000, .inl g))]) (wr := []) (w1 := fun _ => [(h0, .inr (8, [.int cd, .int n, .ref h1, .int (md + 1), .ref h2, .int (ch + 1), .int sh, .int tp, .int lf, .int bt, .int rt])), (h1, .inl (cA, 1000, .inl f)), (h2, .inl (cB, 1000, .inl (upd g md.toNatClampNeg 67)))]) (ws2 := fun _ => [(h0, .inr (8, [.int cd, .int n, .ref h1, .int (md + 1), .ref h2, .int (ch + 1), .int sh, .int tp, .int lf, .int bt, .int rt])), (h1, .inl (cA, 1000, .inl f)), (h2, .inl (cB, 1000, .inl (upd g md.toNatClampNeg 67)))]) (va_runV (As := []) (rest := []) ⟨hx, hb, hml, hown, hts⟩ (kX10_lose l D H.size h0 h1 h2 cA cB cd n md ch sh tp lf bt rt f g (in_w hm (by decide))) (cwV 0 hts gX10_copy_X10_lose rfl rfl rfl (by decide +kernel) ⟨Nat.le_of_ble_eq_true rfl, Nat.le_of_ble_eq_true rfl⟩) ⟨Pw_blind, (va_recv hKc hPc (ci := 8) (q0 := 0) rfl rfl), fun U hU hW => Pw_at hKc hPc hDc hN hU hW⟩ rfl rfl hl.1 rfl (lv_room (Nat.le_of_ble_eq_true rfl)) dX10_copy_201 ⟨Nat.le_of_ble_eq_true rfl, Nat.le_of_ble_eq_true rfl⟩) hP hD hS hA [0, 1, 2] [] [0, 1, 2] rfl rfl (by decide) (by decide) (fun _ => rfl) (by decide) (fun _ _ H locs hP hD hS => ?_)
        have hP : va_P D vwCl [(h0, .inr (8, [.int cd, .int n, .ref h1, .int (md + 1), .ref h2, .int (ch + 1), .int sh, .int tp, .int lf, .int bt, .int rt])), (h1, .inl (cA, 1000, .inl f)), (h2, .inl (cB, 1000, .inl (upd g md.toNatClampNeg 67)))] H := hP
        have hD : va_D A [(h0, .inr (8, [.int cd, .int n, .ref h1, .int (md + 1), .ref h2, .int (ch + 1), .int sh, .int tp, .int lf, .int bt, .int rt])), (h1, .inl (cA, 1000, .inl f)), (h2, .inl (cB, 1000, .inl (upd g md.toNatClampNeg 67)))] := hD
        refine lv_goto (tgt := 224) hx hb dX10_copy_204 (by decide) ?_
        exact K224_3 _ (if_pos c192).symm _ (if_pos c192).symm _ (if_pos c192).symm H locs hP hD hS ls (lv_sub hl [1, 2, 3, 4] rfl)
      · refine lv_iload hx hb dX10_copy_195 (lv_at hl 0 rfl) ?_
        refine lv_if_ne (tgt := 207) hx hb dX10_copy_197 (by decide) (fun c197 => ?_) (fun c197 => ?_)
        · refine lv_aload_n hx hb dX10_copy_207 rfl (lv_at hl 1 rfl) ?_
          refine lv_iload_n hx hb dX10_copy_208 rfl (lv_at hl 4 rfl) ?_
          refine lv_aload_n hx hb dX10_copy_209 rfl (lv_at hl 1 rfl) ?_
          refine va_get (D := D) (ci := 8) (v := .ref h1) (C := RX10) (T := TX10) (N := 11) hx hb hts w_X10 hown hK hP 0 rfl rfl 2 (by decide) f_7 (fun _ h9 => h9) rfl dX10_copy_210 ?_
          refine lv_iload_n hx hb dX10_copy_213 rfl (lv_at hl 4 rfl) ?_
          refine lv_iconst (v := 1) hx hb dX10_copy_214 (by decide) ?_
          refine lv_iadd hx hb dX10_copy_215 ?_
          refine va_iald hx hb hK hP 1 0 rfl rfl (in_add (c := 1) (n := 1000) hk (by decide) (by decide) (by decide)) dX10_copy_216 ?_
          refine lv_iload hx hb dX10_copy_217 (lv_at hl 6 rfl) ?_
          refine lv_iload hx hb dX10_copy_219 (lv_at hl 0 rfl) ?_
          have hPc := hP.sub (ws' := [(h0, .inr (8, [.int cd, .int n, .ref h1, .int md, .ref h2, .int ch, .int sh, .int tp, .int lf, .int bt, .int rt])), (h1, .inl (cA, 1000, .inl f)), (h2, .inl (cB, 1000, .inl g))]) [0, 1, 2] rfl
          have hDc := hD.sub (ws' := [(h0, .inr (8, [.int cd, .int n, .ref h1, .int md, .ref h2, .int ch, .int sh, .int tp, .int lf, .int bt, .int rt])), (h1, .inl (cA, 1000, .inl f)), (h2, .inl (cB, 1000, .inl g))]) [0, 1, 2] (by decide) rfl
          have hKc := hK.sub (tys' := [(cA, .int), (cB, .int)]) [0, 1] rfl
          refine wk_v (β := Unit) (ok := fun _ => True) (wc := [(h0, .inr (8, [.int cd, .int n, .ref h1, .int md, .ref h2, .int ch, .int sh, .int tp, .int lf, .int bt, .int rt])), (h1, .inl (cA, 1000, .inl f)), (h2, .inl (cB, 1000, .inl g))]) (wr := []) (w1 := fun _ => [(h0, .inr (8, [.int cd, .int n, .ref h1, .int (fX10_makePlace md ch f g k (f (k + 1).toNatClampNeg) (fX10_moved (f (k + 2).toNatClampNeg) v_1 dn 1048576) (fX10_moved (f (k + 3).toNatClampNeg) v_2 al 16384)).1, .ref h2, .int (fX10_makePlace md ch f g k (f (k + 1).toNatClampNeg) (fX10_moved (f (k + 2).toNatClampNeg) v_1 dn 1048576) (fX10_moved (f (k + 3).toNatClampNeg) v_2 al 16384)).2.1, .int sh, .int tp, .int lf, .int bt, .int rt])), (h1, .inl (cA, 1000, .inl f)), (h2, .inl (cB, 1000, .inl (fX10_makePlace md ch f g k (f (k + 1).toNatClampNeg) (fX10_moved (f (k + 2).toNatClampNeg) v_1 dn 1048576) (fX10_moved (f (k + 3).toNatClampNeg) v_2 al 16384)).2.2))]) (ws2 := fun _ => [(h0, .inr (8, [.int cd, .int n, .ref h1, .int (fX10_makePlace md ch f g k (f (k + 1).toNatClampNeg) (fX10_moved (f (k + 2).toNatClampNeg) v_1 dn 1048576) (fX10_moved (f (k + 3).toNatClampNeg) v_2 al 16384)).1, .ref h2, .int (fX10_makePlace md ch f g k (f (k + 1).toNatClampNeg) (fX10_moved (f (k + 2).toNatClampNeg) v_1 dn 1048576) (fX10_moved (f (k + 3).toNatClampNeg) v_2 al 16384)).2.1, .int sh, .int tp, .int lf, .int bt, .int rt])), (h1, .inl (cA, 1000, .inl f)), (h2, .inl (cB, 1000, .inl (fX10_makePlace md ch f g k (f (k + 1).toNatClampNeg) (fX10_moved (f (k + 2).toNatClampNeg) v_1 dn 1048576) (fX10_moved (f (k + 3).toNatClampNeg) v_2 al 16384)).2.2))]) (va_runV (As := [.int k, .int (f (k + 1).toNatClampNeg), .int (fX10_moved (f (k + 2).toNatClampNeg) v_1 dn 1048576), .int (fX10_moved (f (k + 3).toNatClampNeg) v_2 al 16384)]) (rest := []) ⟨hx, hb, hml, hown, hts⟩ (kX10_makePlace l D H.size h0 h1 h2 cA cB cd n md ch sh tp lf bt rt f g k (f (k + 1).toNatClampNeg) (fX10_moved (f (k + 2).toNatClampNeg) v_1 dn 1048576) (fX10_moved (f (k + 3).toNatClampNeg) v_2 al 16384) hk hm) (cwV 4 hts gX10_copy_X10_makePlace rfl rfl rfl (by decide +kernel) ⟨Nat.le_of_ble_eq_true rfl, Nat.le_of_ble_eq_true rfl⟩) ⟨Pw_blind, (va_recv hKc hPc (ci := 8) (q0 := 0) rfl rfl), fun U hU hW => Pw_at hKc hPc hDc hN hU hW⟩ rfl rfl hl.1 rfl (lv_room (Nat.le_of_ble_eq_true rfl)) dX10_copy_221 ⟨Nat.le_of_ble_eq_true rfl, Nat.le_of_ble_eq_true rfl⟩) hP hD hS hA [0, 1, 2] [] [0, 1, 2] rfl rfl (by decide) (by decide) (fun _ => rfl) (by decide) (fun _ _ H locs hP hD hS => ?_)
          have hP : va_P D vwCl [(h0, .inr (8, [.int cd, .int n, .ref h1, .int (fX10_makePlace md ch f g k (f (k + 1).toNatClampNeg) (fX10_moved (f (k + 2).toNatClampNeg) v_1 dn 1048576) (fX10_moved (f (k + 3).toNatClampNeg) v_2 al 16384)).1, .ref h2, .int (fX10_makePlace md ch f g k (f (k + 1).toNatClampNeg) (fX10_moved (f (k + 2).toNatClampNeg) v_1 dn 1048576) (fX10_moved (f (k + 3).toNatClampNeg) v_2 al 16384)).2.1, .int sh, .int tp, .int lf, .int bt, .int rt])), (h1, .inl (cA, 1000, .inl f)), (h2, .inl (cB, 1000, .inl (fX10_makePlace md ch f g k (f (k + 1).toNatClampNeg) (fX10_moved (f (k + 2).toNatClampNeg) v_1 dn 1048576) (fX10_moved (f (k + 3).toNatClampNeg) v_2 al 16384)).2.2))] H := hP
          have hD : va_D A [(h0, .inr (8, [.int cd, .int n, .ref h1, .int (fX10_makePlace md ch f g k (f (k + 1).toNatClampNeg) (fX10_moved (f (k + 2).toNatClampNeg) v_1 dn 1048576) (fX10_moved (f (k + 3).toNatClampNeg) v_2 al 16384)).1, .ref h2, .int (fX10_makePlace md ch f g k (f (k + 1).toNatClampNeg) (fX10_moved (f (k + 2).toNatClampNeg) v_1 dn 1048576) (fX10_moved (f (k + 3).toNatClampNeg) v_2 al 16384)).2.1, .int sh, .int tp, .int lf, .int bt, .int rt])), (h1, .inl (cA, 1000, .inl f)), (h2, .inl (cB, 1000, .inl (fX10_makePlace md ch f g k (f (k + 1).toNatClampNeg) (fX10_moved (f (k + 2).toNatClampNeg) v_1 dn 1048576) (fX10_moved (f (k + 3).toNatClampNeg) v_2 al 16384)).2.2))] := hD
          exact K224_3 _ ((if_neg c192).trans (if_neg c197)).symm _ ((if_neg c192).trans (if_neg c197)).symm _ ((if_neg c192).trans (if_neg c197)).symm H locs hP hD hS ls (lv_sub hl [1, 2, 3, 4] rfl)
        · refine lv_aload_n hx hb dX10_copy_200 rfl (lv_at hl 1 rfl) ?_
          have hPc := hP.sub (ws' := [(h0, .inr (8, [.int cd, .int n, .ref h1, .int md, .ref h2, .int ch, .int sh, .int tp, .int lf, .int bt, .int rt])), (h1, .inl (cA, 1000, .inl f)), (h2, .inl (cB, 1000, .inl g))]) [0, 1, 2] rfl
          have hDc := hD.sub (ws' := [(h0, .inr (8, [.int cd, .int n, .ref h1, .int md, .ref h2, .int ch, .int sh, .int tp, .int lf, .int bt, .int rt])), (h1, .inl (cA, 1000, .inl f)), (h2, .inl (cB, 1000, .inl g))]) [0, 1, 2] (by decide) rfl
          have hKc := hK.sub (tys' := [(cA, .int), (cB, .int)]) [0, 1] rfl
          refine wk_v (β := Unit) (ok := fun _ => True) (wc := [(h0, .inr (8, [.int cd, .int n, .ref h1, .int md, .ref h2, .int ch, .int sh, .int tp, .int lf, .int bt, .int rt])), (h1, .inl (cA, 1000, .inl f)), (h2, .inl (cB, 1000, .inl g))]) (wr := []) (w1 := fun _ => [(h0, .inr (8, [.int cd, .int n, .ref h1, .int (md + 1), .ref h2, .int (ch + 1), .int sh, .int tp, .int lf, .int bt, .int rt])), (h1, .inl (cA, 1000, .inl f)), (h2, .inl (cB, 1000, .inl (upd g md.toNatClampNeg 67)))]) (ws2 := fun _ => [(h0, .inr (8, [.int cd, .int n, .ref h1, .int (md + 1), .ref h2, .int (ch + 1), .int sh, .int tp, .int lf, .int bt, .int rt])), (h1, .inl (cA, 1000, .inl f)), (h2, .inl (cB, 1000, .inl (upd g md.toNatClampNeg 67)))]) (va_runV (As := []) (rest := []) ⟨hx, hb, hml, hown, hts⟩ (kX10_lose l D H.size h0 h1 h2 cA cB cd n md ch sh tp lf bt rt f g (in_w hm (by decide))) (cwV 0 hts gX10_copy_X10_lose rfl rfl rfl (by decide +kernel) ⟨Nat.le_of_ble_eq_true rfl, Nat.le_of_ble_eq_true rfl⟩) ⟨Pw_blind, (va_recv hKc hPc (ci := 8) (q0 := 0) rfl rfl), fun U hU hW => Pw_at hKc hPc hDc hN hU hW⟩ rfl rfl hl.1 rfl (lv_room (Nat.le_of_ble_eq_true rfl)) dX10_copy_201 ⟨Nat.le_of_ble_eq_true rfl, Nat.le_of_ble_eq_true rfl⟩) hP hD hS hA [0, 1, 2] [] [0, 1, 2] rfl rfl (by decide) (by decide) (fun _ => rfl) (by decide) (fun _ _ H locs hP hD hS => ?_)
          have hP : va_P D vwCl [(h0, .inr (8, [.int cd, .int n, .ref h1, .int (md + 1), .ref h2, .int (ch + 1), .int sh, .int tp, .int lf, .int bt, .int rt])), (h1, .inl (cA, 1000, .inl f)), (h2, .inl (cB, 1000, .inl (upd g md.toNatClampNeg 67)))] H := hP
          have hD : va_D A [(h0, .inr (8, [.int cd, .int n, .ref h1, .int (md + 1), .ref h2, .int (ch + 1), .int sh, .int tp, .int lf, .int bt, .int rt])), (h1, .inl (cA, 1000, .inl f)), (h2, .inl (cB, 1000, .inl (upd g md.toNatClampNeg 67)))] := hD
          refine lv_goto (tgt := 224) hx hb dX10_copy_204 (by decide) ?_
          exact K224_3 _ ((if_neg c192).trans (if_pos c197)).symm _ ((if_neg c192).trans (if_pos c197)).symm _ ((if_neg c192).trans (if_pos c197)).symm H locs hP hD hS ls (lv_sub hl [1, 2, 3, 4] rfl)
    refine lv_if_le (tgt := 140) hx hb dX10_copy_133 (by decide) (fun c133 => ?_) (fun c133 => ?_)
    · refine lv_iconst (v := 0) hx hb dX10_copy_140 (by decide) ?_
      exact K141_2 _ (if_pos c133).symm ls (lv_sub hl [1, 2, 3, 4, 5, 0] rfl)
    · refine lv_iconst (v := 1) hx hb dX10_copy_136 (by decide) ?_
      refine lv_goto (tgt := 141) hx hb dX10_copy_137 (by decide) ?_
      exact K141_2 _ (if_neg c133).symm ls (lv_sub hl [1, 2, 3, 4, 5, 0] rfl)
  refine lv_if_le (tgt := 95) hx hb dX10_copy_88 (by decide) (fun c88 => ?_) (fun c88 => ?_)
  · refine lv_iconst (v := 0) hx hb dX10_copy_95 (by decide) ?_
    exact K96_1 _ (if_pos c88).symm ls (lv_sub hl [1, 2, 3, 4, 0] rfl)
  · refine lv_iconst (v := 1) hx hb dX10_copy_91 (by decide) ?_
    refine lv_goto (tgt := 96) hx hb dX10_copy_92 (by decide) ?_
    exact K96_1 _ (if_neg c88).symm ls (lv_sub hl [1, 2, 3, 4, 0] rfl)

set_option maxHeartbeats 4000000 in
set_option maxRecDepth 100000 in
theorem kscp_6 {p : Program} {l : Launch} {e : Env} {s : State} {m : MethodId} {below : List Frame} {meth : Method} {c : Code} {args : Array Value} {A : Nat → Prop} {D : va_G} {Q : State → Prop}  (h0 : Nat) (h1 : Nat) (h2 : Nat) (cA : ClassId) (cB : ClassId) (cd : Int32) (n : Int32) (md : Int32) (ch : Int32) (sh : Int32) (tp : Int32) (lf : Int32) (bt : Int32) (rt : Int32) (f : Nat → Int32) (g : Nat → Int32) (dn : Int32) (al : Int32) (k : Int32) (C : Cx p s m meth c args D [(cA, .int), (cB, .int)] A cX10_copy wsX10_copy RX10 (some .int) 7) (hc : ¬ n ≤ k) (hL : (fX10_lengthAt f k) = 6) (hk : vp_in k 995) (hm : vp_in md 995) (KS : ∀ (H : Heap) (locs : List Loc) (ls : Array Slot), va_P D vwCl [(h0, .inr (8, [.int cd, .int n, .ref h1, .int (fX10_copyRange md ch f g k dn al).1, .ref h2, .int (fX10_copyRange md ch f g k dn al).2.1, .int sh, .int tp, .int lf, .int bt, .int rt])), (h1, .inl (cA, 1000, .inl f)), (h2, .inl (cB, 1000, .inl (fX10_copyRange md ch f g k dn al).2.2))] H → va_D A [(h0, .inr (8, [.int cd, .int n, .ref h1, .int (fX10_copyRange md ch f g k dn al).1, .ref h2, .int (fX10_copyRange md ch f g k dn al).2.1, .int sh, .int tp, .int lf, .int bt, .int rt])), (h1, .inl (cA, 1000, .inl f)), (h2, .inl (cB, 1000, .inl (fX10_copyRange md ch f g k dn al).2.2))] → va_S A s.heap H locs → lv_has ls 7 [(0, .ref h0), (1, .int dn), (2, .int al), (3, .int (k + 6))] → W p l e (headSpec wsX10_copy rmX10_copy).room s m args below meth c H locs 0 0 Q (F0 m 48 ls [])) : ∀ (H : Heap) (locs : List Loc) (ls : Array Slot), va_P D vwCl [(h0, .inr (8, [.int cd, .int n, .ref h1, .int md, .ref h2, .int ch, .int sh, .int tp, .int lf, .int bt, .int rt])), (h1, .inl (cA, 1000, .inl f)), (h2, .inl (cB, 1000, .inl g))] H → va_D A [(h0, .inr (8, [.int cd, .int n, .ref h1, .int md, .ref h2, .int ch, .int sh, .int tp, .int lf, .int bt, .int rt])), (h1, .inl (cA, 1000, .inl f)), (h2, .inl (cB, 1000, .inl g))] → va_S A s.heap H locs → lv_has ls 7 [(0, .ref h0), (1, .int dn), (2, .int al), (3, .int k)] → W p l e (headSpec wsX10_copy rmX10_copy).room s m args below meth c H locs 0 0 Q (F0 m 48 ls []) := by
  obtain ⟨hx, hb, hr, hml, hown, hts, hlocks, hK, hN, hA⟩ := C
  intro H locs ls hP hD hS hl
  have w_X10 : ∀ w ∈ wsX100, w ∈ wsX10_copy := by decide +kernel
  have f_32 := hts (.fieldLink RX10 32 "ReferenceMoverModel" "size" "I") (by decide +kernel)
  refine lv_iload_n hx hb dX10_copy_48 rfl (lv_at hl 3 rfl) ?_
  refine lv_aload_n hx hb dX10_copy_49 rfl (lv_at hl 0 rfl) ?_
  refine va_get (D := D) (ci := 8) (v := .int n) (C := RX10) (T := TX10) (N := 11) hx hb hts w_X10 hown hK hP 0 rfl rfl 1 (by decide) f_32 (fun _ h9 => h9) rfl dX10_copy_50 ?_
  refine lv_icmp_ge (tgt := 235) hx hb dX10_copy_53 (by decide) (fun h => absurd h hc) (fun _ => ?_)
  refine lv_aload_n hx hb dX10_copy_56 rfl (lv_at hl 0 rfl) ?_
  refine lv_iload_n hx hb dX10_copy_57 rfl (lv_at hl 3 rfl) ?_
  have hPc := hP.sub (ws' := [(h0, .inr (8, [.int cd, .int n, .ref h1, .int md, .ref h2, .int ch, .int sh, .int tp, .int lf, .int bt, .int rt])), (h1, .inl (cA, 1000, .inl f)), (h2, .inl (cB, 1000, .inl g))]) [0, 1, 2] rfl
  have hDc := hD.sub (ws' := [(h0, .inr (8, [.int cd, .int n, .ref h1, .int md, .ref h2, .int ch, .int sh, .int tp, .int lf, .int bt, .int rt])), (h1, .inl (cA, 1000, .inl f)), (h2, .inl (cB, 1000, .inl g))]) [0, 1, 2] (by decide) rfl
  have hKc := hK.sub (tys' := [(cA, .int), (cB, .int)]) [0, 1] rfl
  refine rd_i (va_runV (As := [.int k]) (rest := []) ⟨hx, hb, hml, hown, hts⟩ (kX10_lengthAt l D H.size h0 h1 h2 cA cB cd n md ch sh tp lf bt rt f g k (in_w hk (by decide))) (cwV 1 hts gX10_copy_X10_lengthAt rfl rfl rfl (by decide +kernel) ⟨Nat.le_of_ble_eq_true rfl, Nat.le_of_ble_eq_true rfl⟩) ⟨Pw_blind, (va_recv hKc hPc (ci := 8) (q0 := 0) rfl rfl), fun U hU hW => Pw_at hKc hPc hDc hN hU hW⟩ rfl rfl hl.1 rfl (lv_room (Nat.le_of_ble_eq_true rfl)) dX10_copy_58 ⟨Nat.le_of_ble_eq_true rfl, Nat.le_of_ble_eq_true rfl⟩) ?_
  rw [hL]
  refine lv_istore (lv' := [(4, .int 6), (0, .ref h0), (1, .int dn), (2, .int al), (3, .int k)]) hx hb dX10_copy_61 hl (by decide) rfl (fun ls hl => ?_)
  refine lv_iload hx hb dX10_copy_63 (lv_at hl 0 rfl) ?_
  refine lv_iconst (v := 4) hx hb dX10_copy_65 (by decide) ?_
  refine lv_icmp_ne (tgt := 105) hx hb dX10_copy_66 (by decide) (fun _ => ?_) (fun h => absurd h (by decide))
  refine lv_iconst (v := 0) hx hb dX10_copy_105 (by decide) ?_
  refine lv_istore (lv' := [(5, .int 0), (4, .int 6), (0, .ref h0), (1, .int dn), (2, .int al), (3, .int k)]) hx hb dX10_copy_106 hl (by decide) rfl (fun ls hl => ?_)
  refine lv_iload hx hb dX10_copy_108 (lv_at hl 1 rfl) ?_
  refine lv_iconst (v := 4) hx hb dX10_copy_110 (by decide) ?_
  refine lv_icmp_ne (tgt := 151) hx hb dX10_copy_111 (by decide) (fun _ => ?_) (fun h => absurd h (by decide))
  refine lv_iconst (v := 0) hx hb dX10_copy_151 (by decide) ?_
  refine lv_istore (lv' := [(6, .int 0), (5, .int 0), (4, .int 6), (0, .ref h0), (1, .int dn), (2, .int al), (3, .int k)]) hx hb dX10_copy_152 hl (by decide) rfl (fun ls hl => ?_)
  refine lv_iload hx hb dX10_copy_154 (lv_at hl 2 rfl) ?_
  refine lv_iconst (v := 1) hx hb dX10_copy_156 (by decide) ?_
  refine lv_icmp_ne (tgt := 173) hx hb dX10_copy_157 (by decide) (fun _ => ?_) (fun h => absurd h (by decide))
  refine lv_iload hx hb dX10_copy_173 (lv_at hl 2 rfl) ?_
  refine lv_bipush (v := 6) hx hb dX10_copy_175 (by decide) ?_
  refine lv_icmp_ne (tgt := 190) hx hb dX10_copy_177 (by decide) (fun h => absurd h (by decide)) (fun _ => ?_)
  refine lv_aload_n hx hb dX10_copy_180 rfl (lv_at hl 3 rfl) ?_
  refine lv_iload_n hx hb dX10_copy_181 rfl (lv_at hl 6 rfl) ?_
  refine lv_iload_n hx hb dX10_copy_182 rfl (lv_at hl 4 rfl) ?_
  refine lv_iload_n hx hb dX10_copy_183 rfl (lv_at hl 5 rfl) ?_
  have hPc := hP.sub (ws' := [(h0, .inr (8, [.int cd, .int n, .ref h1, .int md, .ref h2, .int ch, .int sh, .int tp, .int lf, .int bt, .int rt])), (h1, .inl (cA, 1000, .inl f)), (h2, .inl (cB, 1000, .inl g))]) [0, 1, 2] rfl
  have hDc := hD.sub (ws' := [(h0, .inr (8, [.int cd, .int n, .ref h1, .int md, .ref h2, .int ch, .int sh, .int tp, .int lf, .int bt, .int rt])), (h1, .inl (cA, 1000, .inl f)), (h2, .inl (cB, 1000, .inl g))]) [0, 1, 2] (by decide) rfl
  have hKc := hK.sub (tys' := [(cA, .int), (cB, .int)]) [0, 1] rfl
  refine wk_v (β := Unit) (ok := fun _ => True) (wc := [(h0, .inr (8, [.int cd, .int n, .ref h1, .int md, .ref h2, .int ch, .int sh, .int tp, .int lf, .int bt, .int rt])), (h1, .inl (cA, 1000, .inl f)), (h2, .inl (cB, 1000, .inl g))]) (wr := []) (w1 := fun _ => [(h0, .inr (8, [.int cd, .int n, .ref h1, .int (fX10_copyRange md ch f g k dn al).1, .ref h2, .int (fX10_copyRange md ch f g k dn al).2.1, .int sh, .int tp, .int lf, .int bt, .int rt])), (h1, .inl (cA, 1000, .inl f)), (h2, .inl (cB, 1000, .inl (fX10_copyRange md ch f g k dn al).2.2))]) (ws2 := fun _ => [(h0, .inr (8, [.int cd, .int n, .ref h1, .int (fX10_copyRange md ch f g k dn al).1, .ref h2, .int (fX10_copyRange md ch f g k dn al).2.1, .int sh, .int tp, .int lf, .int bt, .int rt])), (h1, .inl (cA, 1000, .inl f)), (h2, .inl (cB, 1000, .inl (fX10_copyRange md ch f g k dn al).2.2))]) (va_runV (As := [.int k, .int dn, .int al]) (rest := []) ⟨hx, hb, hml, hown, hts⟩ (kX10_copyRange l D H.size h0 h1 h2 cA cB cd n md ch sh tp lf bt rt f g k dn al hk hm) (cwV 3 hts gX10_copy_X10_copyRange rfl rfl rfl (by decide +kernel) ⟨Nat.le_of_ble_eq_true rfl, Nat.le_of_ble_eq_true rfl⟩) ⟨Pw_blind, (va_recv hKc hPc (ci := 8) (q0 := 0) rfl rfl), fun U hU hW => Pw_at hKc hPc hDc hN hU hW⟩ rfl rfl hl.1 rfl (lv_room (Nat.le_of_ble_eq_true rfl)) dX10_copy_184 ⟨Nat.le_of_ble_eq_true rfl, Nat.le_of_ble_eq_true rfl⟩) hP hD hS hA [0, 1, 2] [] [0, 1, 2] rfl rfl (by decide) (by decide) (fun _ => rfl) (by decide) (fun _ _ H locs hP hD hS => ?_)
  have hP : va_P D vwCl [(h0, .inr (8, [.int cd, .int n, .ref h1, .int (fX10_copyRange md ch f g k dn al).1, .ref h2, .int (fX10_copyRange md ch f g k dn al).2.1, .int sh, .int tp, .int lf, .int bt, .int rt])), (h1, .inl (cA, 1000, .inl f)), (h2, .inl (cB, 1000, .inl (fX10_copyRange md ch f g k dn al).2.2))] H := hP
  have hD : va_D A [(h0, .inr (8, [.int cd, .int n, .ref h1, .int (fX10_copyRange md ch f g k dn al).1, .ref h2, .int (fX10_copyRange md ch f g k dn al).2.1, .int sh, .int tp, .int lf, .int bt, .int rt])), (h1, .inl (cA, 1000, .inl f)), (h2, .inl (cB, 1000, .inl (fX10_copyRange md ch f g k dn al).2.2))] := hD
  refine lv_goto (tgt := 224) hx hb dX10_copy_187 (by decide) ?_
  refine lv_iload_n hx hb dX10_copy_224 rfl (lv_at hl 6 rfl) ?_
  refine lv_aload_n hx hb dX10_copy_225 rfl (lv_at hl 3 rfl) ?_
  refine lv_iload_n hx hb dX10_copy_226 rfl (lv_at hl 6 rfl) ?_
  have hPc := hP.sub (ws' := [(h0, .inr (8, [.int cd, .int n, .ref h1, .int (fX10_copyRange md ch f g k dn al).1, .ref h2, .int (fX10_copyRange md ch f g k dn al).2.1, .int sh, .int tp, .int lf, .int bt, .int rt])), (h1, .inl (cA, 1000, .inl f)), (h2, .inl (cB, 1000, .inl (fX10_copyRange md ch f g k dn al).2.2))]) [0, 1, 2] rfl
  have hDc := hD.sub (ws' := [(h0, .inr (8, [.int cd, .int n, .ref h1, .int (fX10_copyRange md ch f g k dn al).1, .ref h2, .int (fX10_copyRange md ch f g k dn al).2.1, .int sh, .int tp, .int lf, .int bt, .int rt])), (h1, .inl (cA, 1000, .inl f)), (h2, .inl (cB, 1000, .inl (fX10_copyRange md ch f g k dn al).2.2))]) [0, 1, 2] (by decide) rfl
  have hKc := hK.sub (tys' := [(cA, .int), (cB, .int)]) [0, 1] rfl
  refine rd_i (va_runV (As := [.int k]) (rest := [.int k]) ⟨hx, hb, hml, hown, hts⟩ (kX10_lengthAt l D H.size h0 h1 h2 cA cB cd n ((fX10_copyRange md ch f g k dn al).1) ((fX10_copyRange md ch f g k dn al).2.1) sh tp lf bt rt f ((fX10_copyRange md ch f g k dn al).2.2) k (in_w hk (by decide))) (cwV 1 hts gX10_copy_X10_lengthAt rfl rfl rfl (by decide +kernel) ⟨Nat.le_of_ble_eq_true rfl, Nat.le_of_ble_eq_true rfl⟩) ⟨Pw_blind, (va_recv hKc hPc (ci := 8) (q0 := 0) rfl rfl), fun U hU hW => Pw_at hKc hPc hDc hN hU hW⟩ rfl rfl hl.1 rfl (lv_room (Nat.le_of_ble_eq_true rfl)) dX10_copy_227 ⟨Nat.le_of_ble_eq_true rfl, Nat.le_of_ble_eq_true rfl⟩) ?_
  rw [hL]
  refine lv_iadd hx hb dX10_copy_230 ?_
  refine lv_istore_n (lv' := [(3, .int (k + 6)), (6, .int 0), (5, .int 0), (4, .int 6), (0, .ref h0), (1, .int dn), (2, .int al)]) hx hb dX10_copy_231 rfl hl (by decide) rfl (fun ls hl => ?_)
  refine lv_goto (tgt := 48) hx hb dX10_copy_232 (by decide) ?_
  exact KS H locs ls hP hD hS (lv_sub hl [4, 5, 6, 0] rfl)

set_option maxHeartbeats 4000000 in
set_option maxRecDepth 100000 in
theorem kscp_x {p : Program} {l : Launch} {e : Env} {s : State} {m : MethodId} {below : List Frame} {meth : Method} {c : Code} {args : Array Value} {A : Nat → Prop} {D : va_G} {Qc : Array Value → State → Outcome → State → Prop} {free : Addr → Prop} (hfr : ∀ q, A q → free q)  (h0 : Nat) (h1 : Nat) (h2 : Nat) (cA : ClassId) (cB : ClassId) (cd : Int32) (n : Int32) (md : Int32) (ch : Int32) (sh : Int32) (tp : Int32) (lf : Int32) (bt : Int32) (rt : Int32) (f : Nat → Int32) (g : Nat → Int32) (dn : Int32) (al : Int32) (k : Int32) (C : Cx p s m meth c args D [(cA, .int), (cB, .int)] A cX10_copy wsX10_copy RX10 (some .int) 7) (hc : n ≤ k) (hm : vp_in md 1001) (KR : ∀ (H : Heap) (locs : List Loc), va_P D vwCl [(h0, .inr (8, [.int cd, .int (fX10_finish md ch f g).2.1, .ref h1, .int md, .ref h2, .int ch, .int sh, .int tp, .int lf, .int bt, .int rt])), (h1, .inl (cA, 1000, .inl (fX10_finish md ch f g).2.2)), (h2, .inl (cB, 1000, .inl g))] H → va_D A [(h0, .inr (8, [.int cd, .int (fX10_finish md ch f g).2.1, .ref h1, .int md, .ref h2, .int ch, .int sh, .int tp, .int lf, .int bt, .int rt])), (h1, .inl (cA, 1000, .inl (fX10_finish md ch f g).2.2)), (h2, .inl (cB, 1000, .inl g))] → va_S A s.heap H locs → ∀ t : State, t.heap = H → s.WarmedH t.vm → Qc args s (.returned (some (.int (fX10_finish md ch f g).1))) t) : ∀ (H : Heap) (locs : List Loc) (ls : Array Slot), va_P D vwCl [(h0, .inr (8, [.int cd, .int n, .ref h1, .int md, .ref h2, .int ch, .int sh, .int tp, .int lf, .int bt, .int rt])), (h1, .inl (cA, 1000, .inl f)), (h2, .inl (cB, 1000, .inl g))] H → va_D A [(h0, .inr (8, [.int cd, .int n, .ref h1, .int md, .ref h2, .int ch, .int sh, .int tp, .int lf, .int bt, .int rt])), (h1, .inl (cA, 1000, .inl f)), (h2, .inl (cB, 1000, .inl g))] → va_S A s.heap H locs → lv_has ls 7 [(0, .ref h0), (1, .int dn), (2, .int al), (3, .int k)] → W p l e (headSpec wsX10_copy rmX10_copy).room s m args below meth c H locs 0 0 (MQ below Qc args s 0 0 free) (F0 m 48 ls []) := by
  obtain ⟨hx, hb, hr, hml, hown, hts, hlocks, hK, hN, hA⟩ := C
  intro H locs ls hP hD hS hl
  have w_X10 : ∀ w ∈ wsX100, w ∈ wsX10_copy := by decide +kernel
  have f_32 := hts (.fieldLink RX10 32 "ReferenceMoverModel" "size" "I") (by decide +kernel)
  refine lv_iload_n hx hb dX10_copy_48 rfl (lv_at hl 3 rfl) ?_
  refine lv_aload_n hx hb dX10_copy_49 rfl (lv_at hl 0 rfl) ?_
  refine va_get (D := D) (ci := 8) (v := .int n) (C := RX10) (T := TX10) (N := 11) hx hb hts w_X10 hown hK hP 0 rfl rfl 1 (by decide) f_32 (fun _ h9 => h9) rfl dX10_copy_50 ?_
  refine lv_icmp_ge (tgt := 235) hx hb dX10_copy_53 (by decide) (fun _ => ?_) (fun h => absurd hc h)
  refine lv_aload_n hx hb dX10_copy_235 rfl (lv_at hl 0 rfl) ?_
  have hPc := hP.sub (ws' := [(h0, .inr (8, [.int cd, .int n, .ref h1, .int md, .ref h2, .int ch, .int sh, .int tp, .int lf, .int bt, .int rt])), (h1, .inl (cA, 1000, .inl f)), (h2, .inl (cB, 1000, .inl g))]) [0, 1, 2] rfl
  have hDc := hD.sub (ws' := [(h0, .inr (8, [.int cd, .int n, .ref h1, .int md, .ref h2, .int ch, .int sh, .int tp, .int lf, .int bt, .int rt])), (h1, .inl (cA, 1000, .inl f)), (h2, .inl (cB, 1000, .inl g))]) [0, 1, 2] (by decide) rfl
  have hKc := hK.sub (tys' := [(cA, .int), (cB, .int)]) [0, 1] rfl
  refine wk_i (β := Unit) (ok := fun _ => True) (wc := [(h0, .inr (8, [.int cd, .int n, .ref h1, .int md, .ref h2, .int ch, .int sh, .int tp, .int lf, .int bt, .int rt])), (h1, .inl (cA, 1000, .inl f)), (h2, .inl (cB, 1000, .inl g))]) (wr := []) (w1 := fun _ => [(h0, .inr (8, [.int cd, .int (fX10_finish md ch f g).2.1, .ref h1, .int md, .ref h2, .int ch, .int sh, .int tp, .int lf, .int bt, .int rt])), (h1, .inl (cA, 1000, .inl (fX10_finish md ch f g).2.2)), (h2, .inl (cB, 1000, .inl g))]) (ws2 := fun _ => [(h0, .inr (8, [.int cd, .int (fX10_finish md ch f g).2.1, .ref h1, .int md, .ref h2, .int ch, .int sh, .int tp, .int lf, .int bt, .int rt])), (h1, .inl (cA, 1000, .inl (fX10_finish md ch f g).2.2)), (h2, .inl (cB, 1000, .inl g))]) (r1 := fun _ => (fX10_finish md ch f g).1) (va_runV (As := []) (rest := []) ⟨hx, hb, hml, hown, hts⟩ (kX10_finish l D H.size h0 h1 h2 cA cB cd n md ch sh tp lf bt rt f g hm) (cwV 0 hts gX10_copy_X10_finish rfl rfl rfl (by decide +kernel) ⟨Nat.le_of_ble_eq_true rfl, Nat.le_of_ble_eq_true rfl⟩) ⟨Pw_blind, (va_recv hKc hPc (ci := 8) (q0 := 0) rfl rfl), fun U hU hW => Pw_at hKc hPc hDc hN hU hW⟩ rfl rfl hl.1 rfl (lv_room (Nat.le_of_ble_eq_true rfl)) dX10_copy_236 ⟨Nat.le_of_ble_eq_true rfl, Nat.le_of_ble_eq_true rfl⟩) hP hD hS hA [0, 1, 2] [] [0, 1, 2] rfl rfl (by decide) (by decide) (fun _ => rfl) (by decide) (fun _ _ H locs hP hD hS => ?_)
  have hP : va_P D vwCl [(h0, .inr (8, [.int cd, .int (fX10_finish md ch f g).2.1, .ref h1, .int md, .ref h2, .int ch, .int sh, .int tp, .int lf, .int bt, .int rt])), (h1, .inl (cA, 1000, .inl (fX10_finish md ch f g).2.2)), (h2, .inl (cB, 1000, .inl g))] H := hP
  have hD : va_D A [(h0, .inr (8, [.int cd, .int (fX10_finish md ch f g).2.1, .ref h1, .int md, .ref h2, .int ch, .int sh, .int tp, .int lf, .int bt, .int rt])), (h1, .inl (cA, 1000, .inl (fX10_finish md ch f g).2.2)), (h2, .inl (cB, 1000, .inl g))] := hD
  exact W.iret (v := (fX10_finish md ch f g).1) hx hb hr (fun t ht hW => KR H locs hP hD hS t ht hW) (fun q h => hfr _ (hS.2.2 q h)) dX10_copy_239
