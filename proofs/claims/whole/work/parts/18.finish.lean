abbrev rmX10_finish : Room := { frames := 0, cells := 0, slots := 0, locals := 0 }
set_option maxHeartbeats 4000000 in
set_option maxRecDepth 100000 in
theorem ksfin_0 {p : Program} {l : Launch} {e : Env} {s : State} {m : MethodId} {below : List Frame} {meth : Method} {c : Code} {args : Array Value} {A : Nat → Prop} {D : va_G} {Q : State → Prop}  (h0 : Nat) (h1 : Nat) (h2 : Nat) (cA : ClassId) (cB : ClassId) (cd : Int32) (n : Int32) (md : Int32) (ch : Int32) (sh : Int32) (tp : Int32) (lf : Int32) (bt : Int32) (rt : Int32) (f : Nat → Int32) (g : Nat → Int32) (C : Cx p s m meth c args D [(cA, .int), (cB, .int)] A cX10_finish wsX10_finish RX10 (some .int) 2) (KS : ∀ (H : Heap) (locs : List Loc) (ls : Array Slot), va_P D vwCl [(h0, .inr (8, [.int cd, .int n, .ref h1, .int md, .ref h2, .int ch, .int sh, .int tp, .int lf, .int bt, .int rt])), (h1, .inl (cA, 1000, .inl f)), (h2, .inl (cB, 1000, .inl g))] H → va_D A [(h0, .inr (8, [.int cd, .int n, .ref h1, .int md, .ref h2, .int ch, .int sh, .int tp, .int lf, .int bt, .int rt])), (h1, .inl (cA, 1000, .inl f)), (h2, .inl (cB, 1000, .inl g))] → va_S A s.heap H locs → lv_has ls 2 [(0, .ref h0), (1, .int 0)] → W p l e (headSpec wsX10_finish rmX10_finish).room s m args below meth c H locs 0 0 Q (F0 m 2 ls [])) : ∀ (H : Heap) (locs : List Loc) (ls : Array Slot), va_P D vwCl [(h0, .inr (8, [.int cd, .int n, .ref h1, .int md, .ref h2, .int ch, .int sh, .int tp, .int lf, .int bt, .int rt])), (h1, .inl (cA, 1000, .inl f)), (h2, .inl (cB, 1000, .inl g))] H → va_D A [(h0, .inr (8, [.int cd, .int n, .ref h1, .int md, .ref h2, .int ch, .int sh, .int tp, .int lf, .int bt, .int rt])), (h1, .inl (cA, 1000, .inl f)), (h2, .inl (cB, 1000, .inl g))] → va_S A s.heap H locs → lv_has ls 2 [(0, .ref h0)] → W p l e (headSpec wsX10_finish rmX10_finish).room s m args below meth c H locs 0 0 Q (F0 m 0 ls []) := by
  obtain ⟨hx, hb, hr, hml, hown, hts, hlocks, hK, hN, hA⟩ := C
  intro H locs ls hP hD hS hl
  refine lv_iconst (v := 0) hx hb dX10_finish_0 (by decide) ?_
  refine lv_istore_n (lv' := [(1, .int 0), (0, .ref h0)]) hx hb dX10_finish_1 rfl hl (by decide) rfl (fun ls hl => ?_)
  exact KS H locs ls hP hD hS (lv_sub hl [1, 0] rfl)

set_option maxHeartbeats 4000000 in
set_option maxRecDepth 100000 in
theorem ksfin_b {p : Program} {l : Launch} {e : Env} {s : State} {m : MethodId} {below : List Frame} {meth : Method} {c : Code} {args : Array Value} {A : Nat → Prop} {D : va_G} {Q : State → Prop}  (h0 : Nat) (h1 : Nat) (h2 : Nat) (cA : ClassId) (cB : ClassId) (cd : Int32) (n : Int32) (md : Int32) (ch : Int32) (sh : Int32) (tp : Int32) (lf : Int32) (bt : Int32) (rt : Int32) (f : Nat → Int32) (g : Nat → Int32) (k : Int32) (C : Cx p s m meth c args D [(cA, .int), (cB, .int)] A cX10_finish wsX10_finish RX10 (some .int) 2) (hc : ¬ md ≤ k) (hk : vp_in k 1000) (KS : ∀ (H : Heap) (locs : List Loc) (ls : Array Slot), va_P D vwCl [(h0, .inr (8, [.int cd, .int n, .ref h1, .int md, .ref h2, .int ch, .int sh, .int tp, .int lf, .int bt, .int rt])), (h1, .inl (cA, 1000, .inl (upd f k.toNatClampNeg (g k.toNatClampNeg)))), (h2, .inl (cB, 1000, .inl g))] H → va_D A [(h0, .inr (8, [.int cd, .int n, .ref h1, .int md, .ref h2, .int ch, .int sh, .int tp, .int lf, .int bt, .int rt])), (h1, .inl (cA, 1000, .inl (upd f k.toNatClampNeg (g k.toNatClampNeg)))), (h2, .inl (cB, 1000, .inl g))] → va_S A s.heap H locs → lv_has ls 2 [(0, .ref h0), (1, .int (k + 1))] → W p l e (headSpec wsX10_finish rmX10_finish).room s m args below meth c H locs 0 0 Q (F0 m 2 ls [])) : ∀ (H : Heap) (locs : List Loc) (ls : Array Slot), va_P D vwCl [(h0, .inr (8, [.int cd, .int n, .ref h1, .int md, .ref h2, .int ch, .int sh, .int tp, .int lf, .int bt, .int rt])), (h1, .inl (cA, 1000, .inl f)), (h2, .inl (cB, 1000, .inl g))] H → va_D A [(h0, .inr (8, [.int cd, .int n, .ref h1, .int md, .ref h2, .int ch, .int sh, .int tp, .int lf, .int bt, .int rt])), (h1, .inl (cA, 1000, .inl f)), (h2, .inl (cB, 1000, .inl g))] → va_S A s.heap H locs → lv_has ls 2 [(0, .ref h0), (1, .int k)] → W p l e (headSpec wsX10_finish rmX10_finish).room s m args below meth c H locs 0 0 Q (F0 m 2 ls []) := by
  obtain ⟨hx, hb, hr, hml, hown, hts, hlocks, hK, hN, hA⟩ := C
  intro H locs ls hP hD hS hl
  have w_X10 : ∀ w ∈ wsX100, w ∈ wsX10_finish := by decide +kernel
  have f_48 := hts (.fieldLink RX10 48 "ReferenceMoverModel" "made" "I") (by decide +kernel)
  have f_7 := hts (.fieldLink RX10 7 "ReferenceMoverModel" "words" "[I") (by decide +kernel)
  have f_13 := hts (.fieldLink RX10 13 "ReferenceMoverModel" "making" "[I") (by decide +kernel)
  refine lv_iload_n hx hb dX10_finish_2 rfl (lv_at hl 1 rfl) ?_
  refine lv_aload_n hx hb dX10_finish_3 rfl (lv_at hl 0 rfl) ?_
  refine va_get (D := D) (ci := 8) (v := .int md) (C := RX10) (T := TX10) (N := 11) hx hb hts w_X10 hown hK hP 0 rfl rfl 3 (by decide) f_48 (fun _ h9 => h9) rfl dX10_finish_4 ?_
  refine lv_icmp_ge (tgt := 28) hx hb dX10_finish_7 (by decide) (fun h => absurd h hc) (fun _ => ?_)
  refine lv_aload_n hx hb dX10_finish_10 rfl (lv_at hl 0 rfl) ?_
  refine va_get (D := D) (ci := 8) (v := .ref h1) (C := RX10) (T := TX10) (N := 11) hx hb hts w_X10 hown hK hP 0 rfl rfl 2 (by decide) f_7 (fun _ h9 => h9) rfl dX10_finish_11 ?_
  refine lv_iload_n hx hb dX10_finish_14 rfl (lv_at hl 1 rfl) ?_
  refine lv_aload_n hx hb dX10_finish_15 rfl (lv_at hl 0 rfl) ?_
  refine va_get (D := D) (ci := 8) (v := .ref h2) (C := RX10) (T := TX10) (N := 11) hx hb hts w_X10 hown hK hP 0 rfl rfl 4 (by decide) f_13 (fun _ h9 => h9) rfl dX10_finish_16 ?_
  refine lv_iload_n hx hb dX10_finish_19 rfl (lv_at hl 1 rfl) ?_
  refine va_iald hx hb hK hP 2 1 rfl rfl hk dX10_finish_20 ?_
  refine va_iast hx hb hK hP hD hS 1 0 rfl rfl hk dX10_finish_21 (fun H locs hP hD hS => ?_)
  have hP : va_P D vwCl [(h0, .inr (8, [.int cd, .int n, .ref h1, .int md, .ref h2, .int ch, .int sh, .int tp, .int lf, .int bt, .int rt])), (h1, .inl (cA, 1000, .inl (upd f k.toNatClampNeg (g k.toNatClampNeg)))), (h2, .inl (cB, 1000, .inl g))] H := hP
  have hD : va_D A [(h0, .inr (8, [.int cd, .int n, .ref h1, .int md, .ref h2, .int ch, .int sh, .int tp, .int lf, .int bt, .int rt])), (h1, .inl (cA, 1000, .inl (upd f k.toNatClampNeg (g k.toNatClampNeg)))), (h2, .inl (cB, 1000, .inl g))] := hD
  refine lv_iinc (v := (k + 1)) (lv' := [(1, .int (k + 1)), (0, .ref h0)]) hx hb dX10_finish_22 hl (k := 1) rfl (by rfl) (by decide) rfl (fun ls hl => ?_)
  refine lv_goto (tgt := 2) hx hb dX10_finish_25 (by decide) ?_
  exact KS H locs ls hP hD hS (lv_sub hl [1, 0] rfl)

set_option maxHeartbeats 4000000 in
set_option maxRecDepth 100000 in
theorem ksfin_x {p : Program} {l : Launch} {e : Env} {s : State} {m : MethodId} {below : List Frame} {meth : Method} {c : Code} {args : Array Value} {A : Nat → Prop} {D : va_G} {Qc : Array Value → State → Outcome → State → Prop} {free : Addr → Prop} (hfr : ∀ q, A q → free q)  (h0 : Nat) (h1 : Nat) (h2 : Nat) (cA : ClassId) (cB : ClassId) (cd : Int32) (n : Int32) (md : Int32) (ch : Int32) (sh : Int32) (tp : Int32) (lf : Int32) (bt : Int32) (rt : Int32) (f : Nat → Int32) (g : Nat → Int32) (k : Int32) (C : Cx p s m meth c args D [(cA, .int), (cB, .int)] A cX10_finish wsX10_finish RX10 (some .int) 2) (hc : md ≤ k) (KR : ∀ (H : Heap) (locs : List Loc), va_P D vwCl [(h0, .inr (8, [.int cd, .int md, .ref h1, .int md, .ref h2, .int ch, .int sh, .int tp, .int lf, .int bt, .int rt])), (h1, .inl (cA, 1000, .inl f)), (h2, .inl (cB, 1000, .inl g))] H → va_D A [(h0, .inr (8, [.int cd, .int md, .ref h1, .int md, .ref h2, .int ch, .int sh, .int tp, .int lf, .int bt, .int rt])), (h1, .inl (cA, 1000, .inl f)), (h2, .inl (cB, 1000, .inl g))] → va_S A s.heap H locs → ∀ t : State, t.heap = H → s.WarmedH t.vm → Qc args s (.returned (some (.int ch))) t) : ∀ (H : Heap) (locs : List Loc) (ls : Array Slot), va_P D vwCl [(h0, .inr (8, [.int cd, .int n, .ref h1, .int md, .ref h2, .int ch, .int sh, .int tp, .int lf, .int bt, .int rt])), (h1, .inl (cA, 1000, .inl f)), (h2, .inl (cB, 1000, .inl g))] H → va_D A [(h0, .inr (8, [.int cd, .int n, .ref h1, .int md, .ref h2, .int ch, .int sh, .int tp, .int lf, .int bt, .int rt])), (h1, .inl (cA, 1000, .inl f)), (h2, .inl (cB, 1000, .inl g))] → va_S A s.heap H locs → lv_has ls 2 [(0, .ref h0), (1, .int k)] → W p l e (headSpec wsX10_finish rmX10_finish).room s m args below meth c H locs 0 0 (MQ below Qc args s 0 0 free) (F0 m 2 ls []) := by
  obtain ⟨hx, hb, hr, hml, hown, hts, hlocks, hK, hN, hA⟩ := C
  intro H locs ls hP hD hS hl
  have w_X10 : ∀ w ∈ wsX100, w ∈ wsX10_finish := by decide +kernel
  have f_48 := hts (.fieldLink RX10 48 "ReferenceMoverModel" "made" "I") (by decide +kernel)
  have f_32 := hts (.fieldLink RX10 32 "ReferenceMoverModel" "size" "I") (by decide +kernel)
  have f_54 := hts (.fieldLink RX10 54 "ReferenceMoverModel" "changed" "I") (by decide +kernel)
  refine lv_iload_n hx hb dX10_finish_2 rfl (lv_at hl 1 rfl) ?_
  refine lv_aload_n hx hb dX10_finish_3 rfl (lv_at hl 0 rfl) ?_
  refine va_get (D := D) (ci := 8) (v := .int md) (C := RX10) (T := TX10) (N := 11) hx hb hts w_X10 hown hK hP 0 rfl rfl 3 (by decide) f_48 (fun _ h9 => h9) rfl dX10_finish_4 ?_
  refine lv_icmp_ge (tgt := 28) hx hb dX10_finish_7 (by decide) (fun _ => ?_) (fun h => absurd hc h)
  refine lv_aload_n hx hb dX10_finish_28 rfl (lv_at hl 0 rfl) ?_
  refine lv_aload_n hx hb dX10_finish_29 rfl (lv_at hl 0 rfl) ?_
  refine va_get (D := D) (ci := 8) (v := .int md) (C := RX10) (T := TX10) (N := 11) hx hb hts w_X10 hown hK hP 0 rfl rfl 3 (by decide) f_48 (fun _ h9 => h9) rfl dX10_finish_30 ?_
  refine va_put (D := D) (ci := 8) (v := .int md) (ty := .int) (C := RX10) (T := TX10) (N := 11) hx hb hts w_X10 tyX10 tyX10_ok nmX10 hown hK hP hD hS 0 rfl rfl 1 (by decide) f_32 (fun _ h9 => h9) rfl (by decide +kernel) rfl rfl (Nat.le_of_ble_eq_true rfl) dX10_finish_33 (fun H locs hP hD hS => ?_)
  have hP : va_P D vwCl [(h0, .inr (8, [.int cd, .int md, .ref h1, .int md, .ref h2, .int ch, .int sh, .int tp, .int lf, .int bt, .int rt])), (h1, .inl (cA, 1000, .inl f)), (h2, .inl (cB, 1000, .inl g))] H := hP
  have hD : va_D A [(h0, .inr (8, [.int cd, .int md, .ref h1, .int md, .ref h2, .int ch, .int sh, .int tp, .int lf, .int bt, .int rt])), (h1, .inl (cA, 1000, .inl f)), (h2, .inl (cB, 1000, .inl g))] := hD
  refine lv_aload_n hx hb dX10_finish_36 rfl (lv_at hl 0 rfl) ?_
  refine va_get (D := D) (ci := 8) (v := .int ch) (C := RX10) (T := TX10) (N := 11) hx hb hts w_X10 hown hK hP 0 rfl rfl 5 (by decide) f_54 (fun _ h9 => h9) rfl dX10_finish_37 ?_
  exact W.iret (v := ch) hx hb hr (fun t ht hW => KR H locs hP hD hS t ht hW) (fun q h => hfr _ (hS.2.2 q h)) dX10_finish_40
