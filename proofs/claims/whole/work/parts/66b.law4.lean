set_option maxHeartbeats 4000000 in
set_option maxRecDepth 100000 in
theorem lc_7_1 {p : Program} {l : Launch} {e : Env} {s : State} {m : MethodId} {below : List Frame} {meth : Method} {c : Code} {D : va_G} {A : Nat → Prop} {b h0 h1 h4 h5 h6 m0 m1 m2 ho : Nat} {cA cB cC cL : ClassId} {L : Nat} {xs : Nat → Int32} (C : Lc p l e s m below meth c D A b h0 h1 h4 h5 h6 m0 m1 m2 ho cA cB cC cL L xs) {cl sl i : Nat} (hcl : cl + 2 ≤ 651793) (hsl : sl + 11 ≤ 7140724) (hi : i + 7 ≤ L) (hL : L ≤ 3584) (hz : ¬ xs (nI i + 3).toNatClampNeg = 0) (KN : Lw p l e s m below meth c D A b h0 h1 h4 h5 h6 m0 m1 m2 ho cA cB cC cL 807 (cl + 2) (sl + 11) (nI i)) : Lw p l e s m below meth c D A b h0 h1 h4 h5 h6 m0 m1 m2 ho cA cB cC cL 390 cl sl (nI i) := by
  obtain ⟨hst, ⟨hx, hb, hr, hml, hown, hts0, hX, hbl, hlocks, hgv⟩, hN, hT, z1, z2, hK, hA, hbA⟩ := C
  have hts : ∀ w ∈ wsL_law, w.before #[Value.ref b] s = true := fun w h => hts0 w (wsL_law_in w h)
  have hown : s.vm.findClass RL = some m.cls := hown
  intro items nn1 nn2 f f2 g2 go h8 cd md ch qs qt ql qb qr isr wh sh rf ra rx ry kf ka kx ky H locs ls hB hR hP hD hS hl
  have hB0 := hB
  obtain ⟨hok, hlen, rfl, rfl, hseg, hseg2⟩ := hB
  have hn1 : vp_in (nI items.flatten.length) 1001 := vp_in_nI (by omega) (by omega)
  obtain ⟨x4, ex4⟩ : ∃ y, y = nI i := ⟨_, rfl⟩
  rw [← ex4] at hl
  have v1 : vp_in (x4 + 1) L := by rw [ex4, n1]; exact vp_in_nI (by omega) (by omega)
  obtain ⟨a1, ea1⟩ : ∃ y, y = xs (x4 + 1).toNatClampNeg := ⟨_, rfl⟩
  have v2 : vp_in (x4 + 2) L := by rw [ex4, n2]; exact vp_in_nI (by omega) (by omega)
  obtain ⟨a2, ea2⟩ : ∃ y, y = xs (x4 + 2).toNatClampNeg := ⟨_, rfl⟩
  have v3 : vp_in (x4 + 3) L := by rw [ex4, n3]; exact vp_in_nI (by omega) (by omega)
  obtain ⟨a3, ea3⟩ : ∃ y, y = xs (x4 + 3).toNatClampNeg := ⟨_, rfl⟩
  have v4 : vp_in (x4 + 4) L := by rw [ex4, n4]; exact vp_in_nI (by omega) (by omega)
  obtain ⟨a4, ea4⟩ : ∃ y, y = xs (x4 + 4).toNatClampNeg := ⟨_, rfl⟩
  have v5 : vp_in (x4 + 5) L := by rw [ex4, n5]; exact vp_in_nI (by omega) (by omega)
  obtain ⟨a5, ea5⟩ : ∃ y, y = xs (x4 + 5).toNatClampNeg := ⟨_, rfl⟩
  have hz : ¬ a3 = 0 := by rw [ea3, ex4]; exact hz
  refine lv_aload_n hx hb dL_law_390 rfl (lv_at hl 1 rfl) ?_
  refine lv_aload_n hx hb dL_law_391 rfl (lv_at hl 0 rfl) ?_
  refine lv_iload hx hb dL_law_392 (lv_at hl 4 rfl) ?_
  refine lv_iconst (v := 1) hx hb dL_law_394 (by decide) ?_
  refine lv_iadd hx hb dL_law_395 ?_
  refine va_sld hx hb hX hbl hbA hS v1 dL_law_396 ?_
  rw [← ea1]
  refine lv_aload_n hx hb dL_law_397 rfl (lv_at hl 0 rfl) ?_
  refine lv_iload hx hb dL_law_398 (lv_at hl 4 rfl) ?_
  refine lv_iconst (v := 2) hx hb dL_law_400 (by decide) ?_
  refine lv_iadd hx hb dL_law_401 ?_
  refine va_sld hx hb hX hbl hbA hS v2 dL_law_402 ?_
  rw [← ea2]
  refine lv_aload_n hx hb dL_law_403 rfl (lv_at hl 0 rfl) ?_
  refine lv_iload hx hb dL_law_404 (lv_at hl 4 rfl) ?_
  refine lv_iconst (v := 3) hx hb dL_law_406 (by decide) ?_
  refine lv_iadd hx hb dL_law_407 ?_
  refine va_sld hx hb hX hbl hbA hS v3 dL_law_408 ?_
  rw [← ea3]
  refine lv_if_eq (tgt := 416) hx hb dL_law_409 (by decide) (fun c9 => absurd c9 hz) (fun _ => ?_)
  refine lv_iconst (v := 1) hx hb dL_law_412 (by decide) ?_
  refine lv_goto (tgt := 417) hx hb dL_law_413 (by decide) ?_
  refine lv_aload_n hx hb dL_law_417 rfl (lv_at hl 0 rfl) ?_
  refine lv_iload hx hb dL_law_418 (lv_at hl 4 rfl) ?_
  refine lv_iconst (v := 4) hx hb dL_law_420 (by decide) ?_
  refine lv_iadd hx hb dL_law_421 ?_
  refine va_sld hx hb hX hbl hbA hS v4 dL_law_422 ?_
  rw [← ea4]
  refine lv_aload_n hx hb dL_law_423 rfl (lv_at hl 0 rfl) ?_
  refine lv_iload hx hb dL_law_424 (lv_at hl 4 rfl) ?_
  refine lv_iconst (v := 5) hx hb dL_law_426 (by decide) ?_
  refine lv_iadd hx hb dL_law_427 ?_
  refine va_sld hx hb hX hbl hbA hS v5 dL_law_428 ?_
  rw [← ea5]
  refine lv_aload_n hx hb dL_law_429 rfl (lv_at hl 3 rfl) ?_
  have hPc := hP.sub (ws' := [(h0, .inr (7, [.ref h1, .int (nI items.flatten.length), .ref h8, .ref h4])), (h1, .inl (cA, 1000, .inl f)), (h4, .inr (5, [.ref h5, .ref h6, .int isr, .int wh, .int sh])), (h5, .inr (6, [.int 1048576, .int rf, .int ra, .int rx, .int ry])), (h6, .inr (6, [.int 16384, .int kf, .int ka, .int kx, .int ky])), (ho, .inl (cL, 1, .inr (.inl go)))]) [0, 1, 2, 3, 4, 9] rfl
  have hDc := hD.sub (ws' := [(h0, .inr (7, [.ref h1, .int (nI items.flatten.length), .ref h8, .ref h4])), (h1, .inl (cA, 1000, .inl f)), (h4, .inr (5, [.ref h5, .ref h6, .int isr, .int wh, .int sh])), (h5, .inr (6, [.int 1048576, .int rf, .int ra, .int rx, .int ry])), (h6, .inr (6, [.int 16384, .int kf, .int ka, .int kx, .int ky])), (ho, .inl (cL, 1, .inr (.inl go)))]) [0, 1, 2, 3, 4, 9] (by decide) rfl
  have hKc := hK.sub (tys' := [(cA, .int), (cL, .long)]) [0, 3] rfl
  have hFc := va_free (wc := [(h0, .inr (7, [.ref h1, .int (nI items.flatten.length), .ref h8, .ref h4])), (h1, .inl (cA, 1000, .inl f)), (h4, .inr (5, [.ref h5, .ref h6, .int isr, .int wh, .int sh])), (h5, .inr (6, [.int 1048576, .int rf, .int ra, .int rx, .int ry])), (h6, .inr (6, [.int 16384, .int kf, .int ka, .int kx, .int ky])), (ho, .inl (cL, 1, .inr (.inl go)))]) hD hS hA [0, 1, 2, 3, 4, 9] rfl
  refine wk_i (β := Int32 × Int32 × Int32 × Int32 × Int32 × Int32 × Int32 × Int32 × Int32 × Int32 × Int32) (ok := fun _ => True) (wc := [(h0, .inr (7, [.ref h1, .int (nI items.flatten.length), .ref h8, .ref h4])), (h1, .inl (cA, 1000, .inl f)), (h4, .inr (5, [.ref h5, .ref h6, .int isr, .int wh, .int sh])), (h5, .inr (6, [.int 1048576, .int rf, .int ra, .int rx, .int ry])), (h6, .inr (6, [.int 16384, .int kf, .int ka, .int kx, .int ky])), (ho, .inl (cL, 1, .inr (.inl go)))]) (wr := [(h8, .inr (0, [.int qs, .int qt, .int ql, .int qb, .int qr])), (m0, .inr (8, [.int cd, .int (nI items.flatten.length), .ref m1, .int md, .ref m2, .int ch, .int qs, .int qt, .int ql, .int qb, .int qr])), (m1, .inl (cB, 1000, .inl f2)), (m2, .inl (cC, 1000, .inl g2))]) (w1 := fun x => [(h0, .inr (7, [.ref h1, .int (resC (fX10_isLine a1 a2 1 a4 a5) (Tsh a1 a2 1 a4 a5) items f go).2.1, .ref h8, .ref h4])), (h1, .inl (cA, 1000, .inl (resC (fX10_isLine a1 a2 1 a4 a5) (Tsh a1 a2 1 a4 a5) items f go).2.2.1)), (h4, .inr (5, [.ref h5, .ref h6, .int x.1, .int x.2.1, .int x.2.2.1])), (h5, .inr (6, [.int 1048576, .int x.2.2.2.1, .int x.2.2.2.2.1, .int x.2.2.2.2.2.1, .int x.2.2.2.2.2.2.1])), (h6, .inr (6, [.int 16384, .int x.2.2.2.2.2.2.2.1, .int x.2.2.2.2.2.2.2.2.1, .int x.2.2.2.2.2.2.2.2.2.1, .int x.2.2.2.2.2.2.2.2.2.2])), (ho, .inl (cL, 1, .inr (.inl (resC (fX10_isLine a1 a2 1 a4 a5) (Tsh a1 a2 1 a4 a5) items f go).2.2.2)))]) (ws2 := fun x => [(h0, .inr (7, [.ref h1, .int (resC (fX10_isLine a1 a2 1 a4 a5) (Tsh a1 a2 1 a4 a5) items f go).2.1, .ref h8, .ref h4])), (h1, .inl (cA, 1000, .inl (resC (fX10_isLine a1 a2 1 a4 a5) (Tsh a1 a2 1 a4 a5) items f go).2.2.1)), (h4, .inr (5, [.ref h5, .ref h6, .int x.1, .int x.2.1, .int x.2.2.1])), (h5, .inr (6, [.int 1048576, .int x.2.2.2.1, .int x.2.2.2.2.1, .int x.2.2.2.2.2.1, .int x.2.2.2.2.2.2.1])), (h6, .inr (6, [.int 16384, .int x.2.2.2.2.2.2.2.1, .int x.2.2.2.2.2.2.2.2.1, .int x.2.2.2.2.2.2.2.2.2.1, .int x.2.2.2.2.2.2.2.2.2.2])), (h8, .inr (0, [.int qs, .int qt, .int ql, .int qb, .int qr])), (m0, .inr (8, [.int cd, .int (nI items.flatten.length), .ref m1, .int md, .ref m2, .int ch, .int qs, .int qt, .int ql, .int qb, .int qr])), (m1, .inl (cB, 1000, .inl f2)), (m2, .inl (cC, 1000, .inl g2)), (ho, .inl (cL, 1, .inr (.inl (resC (fX10_isLine a1 a2 1 a4 a5) (Tsh a1 a2 1 a4 a5) items f go).2.2.2)))]) (r1 := fun _ => (resC (fX10_isLine a1 a2 1 a4 a5) (Tsh a1 a2 1 a4 a5) items f go).1) (vx_runSW (As := [.ref h0, .int a1, .int a2, .int 1, .int a4, .int a5, .ref ho]) (rest := []) ⟨hx, hb, hml, hown, hts⟩ (kL_insert l hst D H.size h0 h1 h4 h5 h6 cA (.ref h8) f isr wh sh rf ra rx ry kf ka kx ky a1 a2 1 a4 a5 items ho cL go hok hlen hseg (Or.inr rfl)) (vx_cwSW 7 hts gL_law_L_insert rfl rfl rfl (by decide +kernel) ⟨Nat.le_of_ble_eq_true rfl, Nat.le_of_ble_eq_true rfl⟩) ⟨Pt_blind, fun U hU hW => Pt_at hKc hPc hDc hN hT z1 z2 hS hFc hU hW⟩ rfl rfl hl.1 rfl (lv_room (Nat.le_of_ble_eq_true rfl)) dL_law_430 ⟨by show cl + 2 ≤ 651793; omega, by show sl + 11 ≤ 7140724; omega⟩) hP hD hS hA [0, 1, 2, 3, 4, 9] [5, 6, 7, 8] [4, 5, 6, 7, 8, 0, 1, 2, 3, 9] rfl rfl (by decide) (by decide) (fun _ => rfl) (by decide) (fun x9 _ H locs hP hD hS => ?_)
  obtain ⟨y0, y1, y2, y3, y4, y5, y6, y7, y8, y9, y10⟩ := x9
  have hP : va_P D vwCl [(h0, .inr (7, [.ref h1, .int (resC (fX10_isLine a1 a2 1 a4 a5) (Tsh a1 a2 1 a4 a5) items f go).2.1, .ref h8, .ref h4])), (h1, .inl (cA, 1000, .inl (resC (fX10_isLine a1 a2 1 a4 a5) (Tsh a1 a2 1 a4 a5) items f go).2.2.1)), (h4, .inr (5, [.ref h5, .ref h6, .int y0, .int y1, .int y2])), (h5, .inr (6, [.int 1048576, .int y3, .int y4, .int y5, .int y6])), (h6, .inr (6, [.int 16384, .int y7, .int y8, .int y9, .int y10])), (h8, .inr (0, [.int qs, .int qt, .int ql, .int qb, .int qr])), (m0, .inr (8, [.int cd, .int (nI items.flatten.length), .ref m1, .int md, .ref m2, .int ch, .int qs, .int qt, .int ql, .int qb, .int qr])), (m1, .inl (cB, 1000, .inl f2)), (m2, .inl (cC, 1000, .inl g2)), (ho, .inl (cL, 1, .inr (.inl (resC (fX10_isLine a1 a2 1 a4 a5) (Tsh a1 a2 1 a4 a5) items f go).2.2.2)))] H := hP
  have hD : va_D A [(h0, .inr (7, [.ref h1, .int (resC (fX10_isLine a1 a2 1 a4 a5) (Tsh a1 a2 1 a4 a5) items f go).2.1, .ref h8, .ref h4])), (h1, .inl (cA, 1000, .inl (resC (fX10_isLine a1 a2 1 a4 a5) (Tsh a1 a2 1 a4 a5) items f go).2.2.1)), (h4, .inr (5, [.ref h5, .ref h6, .int y0, .int y1, .int y2])), (h5, .inr (6, [.int 1048576, .int y3, .int y4, .int y5, .int y6])), (h6, .inr (6, [.int 16384, .int y7, .int y8, .int y9, .int y10])), (h8, .inr (0, [.int qs, .int qt, .int ql, .int qb, .int qr])), (m0, .inr (8, [.int cd, .int (nI items.flatten.length), .ref m1, .int md, .ref m2, .int ch, .int qs, .int qt, .int ql, .int qb, .int qr])), (m1, .inl (cB, 1000, .inl f2)), (m2, .inl (cC, 1000, .inl g2)), (ho, .inl (cL, 1, .inr (.inl (resC (fX10_isLine a1 a2 1 a4 a5) (Tsh a1 a2 1 a4 a5) items f go).2.2.2)))] := hD
  refine W.widen (k := cl + 2) (n := sl + 11) (by omega) (by omega) ?_
  refine lv_istore (lv' := [(5, .int (resC (fX10_isLine a1 a2 1 a4 a5) (Tsh a1 a2 1 a4 a5) items f go).1), (0, .ref b), (1, .ref h0), (2, .ref m0), (3, .ref ho), (4, .int x4)]) hx hb dL_law_433 hl (by decide) rfl (fun ls hl => ?_)
  refine lv_aload_n hx hb dL_law_435 rfl (lv_at hl 3 rfl) ?_
  refine lv_aload_n hx hb dL_law_436 rfl (lv_at hl 1 rfl) ?_
  refine lv_iload hx hb dL_law_437 (lv_at hl 5 rfl) ?_
  refine lv_iconst (v := 1) hx hb dL_law_439 (by decide) ?_
  refine lv_iadd hx hb dL_law_440 ?_
  refine va_sld hx hb hX hbl hbA hS v1 dL_law_441 ?_
  rw [← ea1]
  refine lv_aload_n hx hb dL_law_442 rfl (lv_at hl 1 rfl) ?_
  refine lv_iload hx hb dL_law_443 (lv_at hl 5 rfl) ?_
  refine lv_iconst (v := 2) hx hb dL_law_445 (by decide) ?_
  refine lv_iadd hx hb dL_law_446 ?_
  refine va_sld hx hb hX hbl hbA hS v2 dL_law_447 ?_
  rw [← ea2]
  refine lv_aload_n hx hb dL_law_448 rfl (lv_at hl 1 rfl) ?_
  refine lv_iload hx hb dL_law_449 (lv_at hl 5 rfl) ?_
  refine lv_iconst (v := 3) hx hb dL_law_451 (by decide) ?_
  refine lv_iadd hx hb dL_law_452 ?_
  refine va_sld hx hb hX hbl hbA hS v3 dL_law_453 ?_
  rw [← ea3]
  refine lv_if_eq (tgt := 461) hx hb dL_law_454 (by decide) (fun c9 => absurd c9 hz) (fun _ => ?_)
  refine lv_iconst (v := 1) hx hb dL_law_457 (by decide) ?_
  refine lv_goto (tgt := 462) hx hb dL_law_458 (by decide) ?_
  refine lv_aload_n hx hb dL_law_462 rfl (lv_at hl 1 rfl) ?_
  refine lv_iload hx hb dL_law_463 (lv_at hl 5 rfl) ?_
  refine lv_iconst (v := 4) hx hb dL_law_465 (by decide) ?_
  refine lv_iadd hx hb dL_law_466 ?_
  refine va_sld hx hb hX hbl hbA hS v4 dL_law_467 ?_
  rw [← ea4]
  refine lv_aload_n hx hb dL_law_468 rfl (lv_at hl 1 rfl) ?_
  refine lv_iload hx hb dL_law_469 (lv_at hl 5 rfl) ?_
  refine lv_iconst (v := 5) hx hb dL_law_471 (by decide) ?_
  refine lv_iadd hx hb dL_law_472 ?_
  refine va_sld hx hb hX hbl hbA hS v5 dL_law_473 ?_
  rw [← ea5]
  have hPc := hP.sub (ws' := [(m0, .inr (8, [.int cd, .int (nI items.flatten.length), .ref m1, .int md, .ref m2, .int ch, .int qs, .int qt, .int ql, .int qb, .int qr])), (m1, .inl (cB, 1000, .inl f2)), (m2, .inl (cC, 1000, .inl g2))]) [6, 7, 8] rfl
  have hDc := hD.sub (ws' := [(m0, .inr (8, [.int cd, .int (nI items.flatten.length), .ref m1, .int md, .ref m2, .int ch, .int qs, .int qt, .int ql, .int qb, .int qr])), (m1, .inl (cB, 1000, .inl f2)), (m2, .inl (cC, 1000, .inl g2))]) [6, 7, 8] (by decide) rfl
  have hKc := hK.sub (tys' := [(cB, .int), (cC, .int)]) [1, 2] rfl
  refine wk_i (β := Unit) (ok := fun _ => True) (wc := [(m0, .inr (8, [.int cd, .int (nI items.flatten.length), .ref m1, .int md, .ref m2, .int ch, .int qs, .int qt, .int ql, .int qb, .int qr])), (m1, .inl (cB, 1000, .inl f2)), (m2, .inl (cC, 1000, .inl g2))]) (wr := [(h0, .inr (7, [.ref h1, .int (resC (fX10_isLine a1 a2 1 a4 a5) (Tsh a1 a2 1 a4 a5) items f go).2.1, .ref h8, .ref h4])), (h1, .inl (cA, 1000, .inl (resC (fX10_isLine a1 a2 1 a4 a5) (Tsh a1 a2 1 a4 a5) items f go).2.2.1)), (h4, .inr (5, [.ref h5, .ref h6, .int y0, .int y1, .int y2])), (h5, .inr (6, [.int 1048576, .int y3, .int y4, .int y5, .int y6])), (h6, .inr (6, [.int 16384, .int y7, .int y8, .int y9, .int y10])), (h8, .inr (0, [.int qs, .int qt, .int ql, .int qb, .int qr])), (ho, .inl (cL, 1, .inr (.inl (resC (fX10_isLine a1 a2 1 a4 a5) (Tsh a1 a2 1 a4 a5) items f go).2.2.2)))]) (w1 := fun _ => [(m0, .inr (8, [.int (fX10_insert md ch f2 g2 a1 a2 1 a4 a5 items).2.1, .int (fX10_insert md ch f2 g2 a1 a2 1 a4 a5 items).2.2.1, .ref m1, .int (fX10_insert md ch f2 g2 a1 a2 1 a4 a5 items).2.2.2.1, .ref m2, .int (fX10_insert md ch f2 g2 a1 a2 1 a4 a5 items).2.2.2.2.1, .int qs, .int qt, .int ql, .int qb, .int qr])), (m1, .inl (cB, 1000, .inl (fX10_insert md ch f2 g2 a1 a2 1 a4 a5 items).2.2.2.2.2.1)), (m2, .inl (cC, 1000, .inl (fX10_insert md ch f2 g2 a1 a2 1 a4 a5 items).2.2.2.2.2.2))]) (ws2 := fun _ => [(h0, .inr (7, [.ref h1, .int (resC (fX10_isLine a1 a2 1 a4 a5) (Tsh a1 a2 1 a4 a5) items f go).2.1, .ref h8, .ref h4])), (h1, .inl (cA, 1000, .inl (resC (fX10_isLine a1 a2 1 a4 a5) (Tsh a1 a2 1 a4 a5) items f go).2.2.1)), (h4, .inr (5, [.ref h5, .ref h6, .int y0, .int y1, .int y2])), (h5, .inr (6, [.int 1048576, .int y3, .int y4, .int y5, .int y6])), (h6, .inr (6, [.int 16384, .int y7, .int y8, .int y9, .int y10])), (h8, .inr (0, [.int qs, .int qt, .int ql, .int qb, .int qr])), (m0, .inr (8, [.int (fX10_insert md ch f2 g2 a1 a2 1 a4 a5 items).2.1, .int (fX10_insert md ch f2 g2 a1 a2 1 a4 a5 items).2.2.1, .ref m1, .int (fX10_insert md ch f2 g2 a1 a2 1 a4 a5 items).2.2.2.1, .ref m2, .int (fX10_insert md ch f2 g2 a1 a2 1 a4 a5 items).2.2.2.2.1, .int qs, .int qt, .int ql, .int qb, .int qr])), (m1, .inl (cB, 1000, .inl (fX10_insert md ch f2 g2 a1 a2 1 a4 a5 items).2.2.2.2.2.1)), (m2, .inl (cC, 1000, .inl (fX10_insert md ch f2 g2 a1 a2 1 a4 a5 items).2.2.2.2.2.2)), (ho, .inl (cL, 1, .inr (.inl (resC (fX10_isLine a1 a2 1 a4 a5) (Tsh a1 a2 1 a4 a5) items f go).2.2.2)))]) (r1 := fun _ => (fX10_insert md ch f2 g2 a1 a2 1 a4 a5 items).1) (va_runV (As := [.int a1, .int a2, .int 1, .int a4, .int a5]) (rest := []) ⟨hx, hb, hml, hown, hts⟩ (kX10_insert l D H.size m0 m1 m2 cB cC cd md ch qs qt ql qb qr f2 g2 a1 a2 1 a4 a5 items (by assumption) (by assumption) hseg2) (cwV 5 hts gL_law_X10_insert rfl rfl rfl (by decide +kernel) ⟨Nat.le_of_ble_eq_true rfl, Nat.le_of_ble_eq_true rfl⟩) ⟨Pw_blind, (va_recv hKc hPc (ci := 8) (q0 := 0) rfl rfl), fun U hU hW => Pw_at hKc hPc hDc hN hU hW⟩ rfl rfl hl.1 rfl (lv_room (Nat.le_of_ble_eq_true rfl)) dL_law_474 ⟨by show cl + 2 ≤ 651793; omega, by show sl + 11 ≤ 7140724; omega⟩) hP hD hS hA [6, 7, 8] [0, 1, 2, 3, 4, 5, 9] [0, 1, 2, 3, 4, 5, 7, 8, 9, 6] rfl rfl (by decide) (by decide) (fun _ => rfl) (by decide) (fun _ _ H locs hP hD hS => ?_)
  have hP : va_P D vwCl [(h0, .inr (7, [.ref h1, .int (resC (fX10_isLine a1 a2 1 a4 a5) (Tsh a1 a2 1 a4 a5) items f go).2.1, .ref h8, .ref h4])), (h1, .inl (cA, 1000, .inl (resC (fX10_isLine a1 a2 1 a4 a5) (Tsh a1 a2 1 a4 a5) items f go).2.2.1)), (h4, .inr (5, [.ref h5, .ref h6, .int y0, .int y1, .int y2])), (h5, .inr (6, [.int 1048576, .int y3, .int y4, .int y5, .int y6])), (h6, .inr (6, [.int 16384, .int y7, .int y8, .int y9, .int y10])), (h8, .inr (0, [.int qs, .int qt, .int ql, .int qb, .int qr])), (m0, .inr (8, [.int (fX10_insert md ch f2 g2 a1 a2 1 a4 a5 items).2.1, .int (fX10_insert md ch f2 g2 a1 a2 1 a4 a5 items).2.2.1, .ref m1, .int (fX10_insert md ch f2 g2 a1 a2 1 a4 a5 items).2.2.2.1, .ref m2, .int (fX10_insert md ch f2 g2 a1 a2 1 a4 a5 items).2.2.2.2.1, .int qs, .int qt, .int ql, .int qb, .int qr])), (m1, .inl (cB, 1000, .inl (fX10_insert md ch f2 g2 a1 a2 1 a4 a5 items).2.2.2.2.2.1)), (m2, .inl (cC, 1000, .inl (fX10_insert md ch f2 g2 a1 a2 1 a4 a5 items).2.2.2.2.2.2)), (ho, .inl (cL, 1, .inr (.inl (resC (fX10_isLine a1 a2 1 a4 a5) (Tsh a1 a2 1 a4 a5) items f go).2.2.2)))] H := hP
  have hD : va_D A [(h0, .inr (7, [.ref h1, .int (resC (fX10_isLine a1 a2 1 a4 a5) (Tsh a1 a2 1 a4 a5) items f go).2.1, .ref h8, .ref h4])), (h1, .inl (cA, 1000, .inl (resC (fX10_isLine a1 a2 1 a4 a5) (Tsh a1 a2 1 a4 a5) items f go).2.2.1)), (h4, .inr (5, [.ref h5, .ref h6, .int y0, .int y1, .int y2])), (h5, .inr (6, [.int 1048576, .int y3, .int y4, .int y5, .int y6])), (h6, .inr (6, [.int 16384, .int y7, .int y8, .int y9, .int y10])), (h8, .inr (0, [.int qs, .int qt, .int ql, .int qb, .int qr])), (m0, .inr (8, [.int (fX10_insert md ch f2 g2 a1 a2 1 a4 a5 items).2.1, .int (fX10_insert md ch f2 g2 a1 a2 1 a4 a5 items).2.2.1, .ref m1, .int (fX10_insert md ch f2 g2 a1 a2 1 a4 a5 items).2.2.2.1, .ref m2, .int (fX10_insert md ch f2 g2 a1 a2 1 a4 a5 items).2.2.2.2.1, .int qs, .int qt, .int ql, .int qb, .int qr])), (m1, .inl (cB, 1000, .inl (fX10_insert md ch f2 g2 a1 a2 1 a4 a5 items).2.2.2.2.2.1)), (m2, .inl (cC, 1000, .inl (fX10_insert md ch f2 g2 a1 a2 1 a4 a5 items).2.2.2.2.2.2)), (ho, .inl (cL, 1, .inr (.inl (resC (fX10_isLine a1 a2 1 a4 a5) (Tsh a1 a2 1 a4 a5) items f go).2.2.2)))] := hD
  refine W.widen (k := cl + 2) (n := sl + 11) (by omega) (by omega) ?_
  rw [ins_eq] at hP hD ⊢
  obtain ⟨hq1, hq2, items', hB'⟩ := res_rows hB0 (fX10_isLine a1 a2 1 a4 a5) (Tsh a1 a2 1 a4 a5) md ch g2 go (fun hg it hit => Tsh_ok (ckl ((ckl_eq _ _ _ _ _).trans hg)).1 (ckl ((ckl_eq _ _ _ _ _).trans hg)).2.1 (ckl ((ckl_eq _ _ _ _ _).trans hg)).2.2.1 (ckl ((ckl_eq _ _ _ _ _).trans hg)).2.2.2 (Or.inl rfl) (hok it hit))
  refine lv_istore (lv' := [(6, .int (resM (fX10_isLine a1 a2 1 a4 a5) (Tsh a1 a2 1 a4 a5) items md ch f2 g2).1), (5, .int (resC (fX10_isLine a1 a2 1 a4 a5) (Tsh a1 a2 1 a4 a5) items f go).1), (0, .ref b), (1, .ref h0), (2, .ref m0), (3, .ref ho), (4, .int x4)]) hx hb dL_law_477 hl (by decide) rfl (fun ls hl => ?_)
  refine lv_aload_n hx hb dL_law_479 rfl (lv_at hl 4 rfl) ?_
  have hPc := hP.sub (ws' := [(m0, .inr (8, [.int (resM (fX10_isLine a1 a2 1 a4 a5) (Tsh a1 a2 1 a4 a5) items md ch f2 g2).2.1, .int (resM (fX10_isLine a1 a2 1 a4 a5) (Tsh a1 a2 1 a4 a5) items md ch f2 g2).2.2.1, .ref m1, .int (resM (fX10_isLine a1 a2 1 a4 a5) (Tsh a1 a2 1 a4 a5) items md ch f2 g2).2.2.2.1, .ref m2, .int (resM (fX10_isLine a1 a2 1 a4 a5) (Tsh a1 a2 1 a4 a5) items md ch f2 g2).2.2.2.2.1, .int qs, .int qt, .int ql, .int qb, .int qr])), (m1, .inl (cB, 1000, .inl (resM (fX10_isLine a1 a2 1 a4 a5) (Tsh a1 a2 1 a4 a5) items md ch f2 g2).2.2.2.2.2.1)), (m2, .inl (cC, 1000, .inl (resM (fX10_isLine a1 a2 1 a4 a5) (Tsh a1 a2 1 a4 a5) items md ch f2 g2).2.2.2.2.2.2))]) [6, 7, 8] rfl
  have hDc := hD.sub (ws' := [(m0, .inr (8, [.int (resM (fX10_isLine a1 a2 1 a4 a5) (Tsh a1 a2 1 a4 a5) items md ch f2 g2).2.1, .int (resM (fX10_isLine a1 a2 1 a4 a5) (Tsh a1 a2 1 a4 a5) items md ch f2 g2).2.2.1, .ref m1, .int (resM (fX10_isLine a1 a2 1 a4 a5) (Tsh a1 a2 1 a4 a5) items md ch f2 g2).2.2.2.1, .ref m2, .int (resM (fX10_isLine a1 a2 1 a4 a5) (Tsh a1 a2 1 a4 a5) items md ch f2 g2).2.2.2.2.1, .int qs, .int qt, .int ql, .int qb, .int qr])), (m1, .inl (cB, 1000, .inl (resM (fX10_isLine a1 a2 1 a4 a5) (Tsh a1 a2 1 a4 a5) items md ch f2 g2).2.2.2.2.2.1)), (m2, .inl (cC, 1000, .inl (resM (fX10_isLine a1 a2 1 a4 a5) (Tsh a1 a2 1 a4 a5) items md ch f2 g2).2.2.2.2.2.2))]) [6, 7, 8] (by decide) rfl
  have hKc := hK.sub (tys' := [(cB, .int), (cC, .int)]) [1, 2] rfl
  refine rd_i (va_runV (As := []) (rest := []) ⟨hx, hb, hml, hown, hts⟩ (kX10_thrown l D H.size m0 m1 m2 cB cC ((resM (fX10_isLine a1 a2 1 a4 a5) (Tsh a1 a2 1 a4 a5) items md ch f2 g2).2.1) ((resM (fX10_isLine a1 a2 1 a4 a5) (Tsh a1 a2 1 a4 a5) items md ch f2 g2).2.2.1) ((resM (fX10_isLine a1 a2 1 a4 a5) (Tsh a1 a2 1 a4 a5) items md ch f2 g2).2.2.2.1) ((resM (fX10_isLine a1 a2 1 a4 a5) (Tsh a1 a2 1 a4 a5) items md ch f2 g2).2.2.2.2.1) qs qt ql qb qr ((resM (fX10_isLine a1 a2 1 a4 a5) (Tsh a1 a2 1 a4 a5) items md ch f2 g2).2.2.2.2.2.1) ((resM (fX10_isLine a1 a2 1 a4 a5) (Tsh a1 a2 1 a4 a5) items md ch f2 g2).2.2.2.2.2.2) ) (cwV 0 hts gL_law_X10_thrown rfl rfl rfl (by decide +kernel) ⟨Nat.le_of_ble_eq_true rfl, Nat.le_of_ble_eq_true rfl⟩) ⟨Pw_blind, (va_recv hKc hPc (ci := 8) (q0 := 0) rfl rfl), fun U hU hW => Pw_at hKc hPc hDc hN hU hW⟩ rfl rfl hl.1 rfl (lv_room (Nat.le_of_ble_eq_true rfl)) dL_law_480 ⟨by show cl + 2 ≤ 651793; omega, by show sl + 11 ≤ 7140724; omega⟩) ?_
  refine lv_iload hx hb dL_law_483 (lv_at hl 1 rfl) ?_
  refine lv_icmp_eq (tgt := 490) hx hb dL_law_485 (by decide) (fun _ => ?_) (fun c9 => absurd hq1 c9)
  refine lv_iload hx hb dL_law_490 (lv_at hl 1 rfl) ?_
  refine lv_if_ne (tgt := 507) hx hb dL_law_492 (by decide) (fun c9 => ?_) (fun c9 => ?_)
  · refine lv_goto (tgt := 807) hx hb dL_law_507 (by decide) ?_
    refine W.widen (k := cl + 2) (n := sl + 11) (by omega) (by omega) ?_
    subst ex4
    exact KN items' _ _ _ _ _ _ _ _ _ _ _ _ _ _ _ _ _ _ _ _ _ _ _ _ _ _ H locs ls hB' hR hP hD hS (lv_sub hl [2, 3, 4, 5, 6] rfl)
  · refine lv_aload_n hx hb dL_law_495 rfl (lv_at hl 5 rfl) ?_
    refine lv_iconst (v := 0) hx hb dL_law_496 (by decide) ?_
    refine va_lald hx hb hK hP 9 3 rfl rfl (show vp_in 0 1 by unfold vp_in; decide) dL_law_497 ?_
    refine lv_iload hx hb dL_law_498 (lv_at hl 0 rfl) ?_
    refine lv_i2l (v := ((resM (fX10_isLine a1 a2 1 a4 a5) (Tsh a1 a2 1 a4 a5) items md ch f2 g2).1).toInt64) hx hb dL_law_500 rfl ?_
    refine W.lcmp hx hb dL_law_501 ?_
    refine lv_if_eq (tgt := 507) hx hb dL_law_502 (by decide) (fun _ => ?_) (fun c8 => absurd (lgc0 (hq2 c9)) c8)
    refine lv_goto (tgt := 807) hx hb dL_law_507 (by decide) ?_
    refine W.widen (k := cl + 2) (n := sl + 11) (by omega) (by omega) ?_
    subst ex4
    exact KN items' _ _ _ _ _ _ _ _ _ _ _ _ _ _ _ _ _ _ _ _ _ _ _ _ _ _ H locs ls hB' hR hP hD hS (lv_sub hl [2, 3, 4, 5, 6] rfl)

set_option maxHeartbeats 4000000 in
set_option maxRecDepth 100000 in
theorem lc_8_1 {p : Program} {l : Launch} {e : Env} {s : State} {m : MethodId} {below : List Frame} {meth : Method} {c : Code} {D : va_G} {A : Nat → Prop} {b h0 h1 h4 h5 h6 m0 m1 m2 ho : Nat} {cA cB cC cL : ClassId} {L : Nat} {xs : Nat → Int32} (C : Lc p l e s m below meth c D A b h0 h1 h4 h5 h6 m0 m1 m2 ho cA cB cC cL L xs) {cl sl i : Nat} (hcl : cl + 2 ≤ 651793) (hsl : sl + 11 ≤ 7140724) (hi : i + 7 ≤ L) (hL : L ≤ 3584) (hz : ¬ xs (nI i + 3).toNatClampNeg = 0) (KN : Lw p l e s m below meth c D A b h0 h1 h4 h5 h6 m0 m1 m2 ho cA cB cC cL 807 (cl + 2) (sl + 11) (nI i)) : Lw p l e s m below meth c D A b h0 h1 h4 h5 h6 m0 m1 m2 ho cA cB cC cL 510 cl sl (nI i) := by
  obtain ⟨hst, ⟨hx, hb, hr, hml, hown, hts0, hX, hbl, hlocks, hgv⟩, hN, hT, z1, z2, hK, hA, hbA⟩ := C
  have hts : ∀ w ∈ wsL_law, w.before #[Value.ref b] s = true := fun w h => hts0 w (wsL_law_in w h)
  have hown : s.vm.findClass RL = some m.cls := hown
  intro items nn1 nn2 f f2 g2 go h8 cd md ch qs qt ql qb qr isr wh sh rf ra rx ry kf ka kx ky H locs ls hB hR hP hD hS hl
  have hB0 := hB
  obtain ⟨hok, hlen, rfl, rfl, hseg, hseg2⟩ := hB
  have hn1 : vp_in (nI items.flatten.length) 1001 := vp_in_nI (by omega) (by omega)
  obtain ⟨x4, ex4⟩ : ∃ y, y = nI i := ⟨_, rfl⟩
  rw [← ex4] at hl
  have v1 : vp_in (x4 + 1) L := by rw [ex4, n1]; exact vp_in_nI (by omega) (by omega)
  obtain ⟨a1, ea1⟩ : ∃ y, y = xs (x4 + 1).toNatClampNeg := ⟨_, rfl⟩
  have v2 : vp_in (x4 + 2) L := by rw [ex4, n2]; exact vp_in_nI (by omega) (by omega)
  obtain ⟨a2, ea2⟩ : ∃ y, y = xs (x4 + 2).toNatClampNeg := ⟨_, rfl⟩
  have v3 : vp_in (x4 + 3) L := by rw [ex4, n3]; exact vp_in_nI (by omega) (by omega)
  obtain ⟨a3, ea3⟩ : ∃ y, y = xs (x4 + 3).toNatClampNeg := ⟨_, rfl⟩
  have v4 : vp_in (x4 + 4) L := by rw [ex4, n4]; exact vp_in_nI (by omega) (by omega)
  obtain ⟨a4, ea4⟩ : ∃ y, y = xs (x4 + 4).toNatClampNeg := ⟨_, rfl⟩
  have v5 : vp_in (x4 + 5) L := by rw [ex4, n5]; exact vp_in_nI (by omega) (by omega)
  obtain ⟨a5, ea5⟩ : ∃ y, y = xs (x4 + 5).toNatClampNeg := ⟨_, rfl⟩
  have hz : ¬ a3 = 0 := by rw [ea3, ex4]; exact hz
  refine lv_aload_n hx hb dL_law_510 rfl (lv_at hl 1 rfl) ?_
  refine lv_aload_n hx hb dL_law_511 rfl (lv_at hl 0 rfl) ?_
  refine lv_iload hx hb dL_law_512 (lv_at hl 4 rfl) ?_
  refine lv_iconst (v := 1) hx hb dL_law_514 (by decide) ?_
  refine lv_iadd hx hb dL_law_515 ?_
  refine va_sld hx hb hX hbl hbA hS v1 dL_law_516 ?_
  rw [← ea1]
  refine lv_aload_n hx hb dL_law_517 rfl (lv_at hl 0 rfl) ?_
  refine lv_iload hx hb dL_law_518 (lv_at hl 4 rfl) ?_
  refine lv_iconst (v := 2) hx hb dL_law_520 (by decide) ?_
  refine lv_iadd hx hb dL_law_521 ?_
  refine va_sld hx hb hX hbl hbA hS v2 dL_law_522 ?_
  rw [← ea2]
  refine lv_aload_n hx hb dL_law_523 rfl (lv_at hl 0 rfl) ?_
  refine lv_iload hx hb dL_law_524 (lv_at hl 4 rfl) ?_
  refine lv_iconst (v := 3) hx hb dL_law_526 (by decide) ?_
  refine lv_iadd hx hb dL_law_527 ?_
  refine va_sld hx hb hX hbl hbA hS v3 dL_law_528 ?_
  rw [← ea3]
  refine lv_if_eq (tgt := 536) hx hb dL_law_529 (by decide) (fun c9 => absurd c9 hz) (fun _ => ?_)
  refine lv_iconst (v := 1) hx hb dL_law_532 (by decide) ?_
  refine lv_goto (tgt := 537) hx hb dL_law_533 (by decide) ?_
  refine lv_aload_n hx hb dL_law_537 rfl (lv_at hl 0 rfl) ?_
  refine lv_iload hx hb dL_law_538 (lv_at hl 4 rfl) ?_
  refine lv_iconst (v := 4) hx hb dL_law_540 (by decide) ?_
  refine lv_iadd hx hb dL_law_541 ?_
  refine va_sld hx hb hX hbl hbA hS v4 dL_law_542 ?_
  rw [← ea4]
  refine lv_aload_n hx hb dL_law_543 rfl (lv_at hl 0 rfl) ?_
  refine lv_iload hx hb dL_law_544 (lv_at hl 4 rfl) ?_
  refine lv_iconst (v := 5) hx hb dL_law_546 (by decide) ?_
  refine lv_iadd hx hb dL_law_547 ?_
  refine va_sld hx hb hX hbl hbA hS v5 dL_law_548 ?_
  rw [← ea5]
  refine lv_aload_n hx hb dL_law_549 rfl (lv_at hl 3 rfl) ?_
  have hPc := hP.sub (ws' := [(h0, .inr (7, [.ref h1, .int (nI items.flatten.length), .ref h8, .ref h4])), (h1, .inl (cA, 1000, .inl f)), (h4, .inr (5, [.ref h5, .ref h6, .int isr, .int wh, .int sh])), (h5, .inr (6, [.int 1048576, .int rf, .int ra, .int rx, .int ry])), (h6, .inr (6, [.int 16384, .int kf, .int ka, .int kx, .int ky])), (ho, .inl (cL, 1, .inr (.inl go)))]) [0, 1, 2, 3, 4, 9] rfl
  have hDc := hD.sub (ws' := [(h0, .inr (7, [.ref h1, .int (nI items.flatten.length), .ref h8, .ref h4])), (h1, .inl (cA, 1000, .inl f)), (h4, .inr (5, [.ref h5, .ref h6, .int isr, .int wh, .int sh])), (h5, .inr (6, [.int 1048576, .int rf, .int ra, .int rx, .int ry])), (h6, .inr (6, [.int 16384, .int kf, .int ka, .int kx, .int ky])), (ho, .inl (cL, 1, .inr (.inl go)))]) [0, 1, 2, 3, 4, 9] (by decide) rfl
  have hKc := hK.sub (tys' := [(cA, .int), (cL, .long)]) [0, 3] rfl
  have hFc := va_free (wc := [(h0, .inr (7, [.ref h1, .int (nI items.flatten.length), .ref h8, .ref h4])), (h1, .inl (cA, 1000, .inl f)), (h4, .inr (5, [.ref h5, .ref h6, .int isr, .int wh, .int sh])), (h5, .inr (6, [.int 1048576, .int rf, .int ra, .int rx, .int ry])), (h6, .inr (6, [.int 16384, .int kf, .int ka, .int kx, .int ky])), (ho, .inl (cL, 1, .inr (.inl go)))]) hD hS hA [0, 1, 2, 3, 4, 9] rfl
  refine wk_i (β := Int32 × Int32 × Int32 × Int32 × Int32 × Int32 × Int32 × Int32 × Int32 × Int32 × Int32) (ok := fun _ => True) (wc := [(h0, .inr (7, [.ref h1, .int (nI items.flatten.length), .ref h8, .ref h4])), (h1, .inl (cA, 1000, .inl f)), (h4, .inr (5, [.ref h5, .ref h6, .int isr, .int wh, .int sh])), (h5, .inr (6, [.int 1048576, .int rf, .int ra, .int rx, .int ry])), (h6, .inr (6, [.int 16384, .int kf, .int ka, .int kx, .int ky])), (ho, .inl (cL, 1, .inr (.inl go)))]) (wr := [(h8, .inr (0, [.int qs, .int qt, .int ql, .int qb, .int qr])), (m0, .inr (8, [.int cd, .int (nI items.flatten.length), .ref m1, .int md, .ref m2, .int ch, .int qs, .int qt, .int ql, .int qb, .int qr])), (m1, .inl (cB, 1000, .inl f2)), (m2, .inl (cC, 1000, .inl g2))]) (w1 := fun x => [(h0, .inr (7, [.ref h1, .int (resC (fX10_isLine a1 a2 1 a4 a5) (Tsh a1 a2 1 a4 (-a5)) items f go).2.1, .ref h8, .ref h4])), (h1, .inl (cA, 1000, .inl (resC (fX10_isLine a1 a2 1 a4 a5) (Tsh a1 a2 1 a4 (-a5)) items f go).2.2.1)), (h4, .inr (5, [.ref h5, .ref h6, .int x.1, .int x.2.1, .int x.2.2.1])), (h5, .inr (6, [.int 1048576, .int x.2.2.2.1, .int x.2.2.2.2.1, .int x.2.2.2.2.2.1, .int x.2.2.2.2.2.2.1])), (h6, .inr (6, [.int 16384, .int x.2.2.2.2.2.2.2.1, .int x.2.2.2.2.2.2.2.2.1, .int x.2.2.2.2.2.2.2.2.2.1, .int x.2.2.2.2.2.2.2.2.2.2])), (ho, .inl (cL, 1, .inr (.inl (resC (fX10_isLine a1 a2 1 a4 a5) (Tsh a1 a2 1 a4 (-a5)) items f go).2.2.2)))]) (ws2 := fun x => [(h0, .inr (7, [.ref h1, .int (resC (fX10_isLine a1 a2 1 a4 a5) (Tsh a1 a2 1 a4 (-a5)) items f go).2.1, .ref h8, .ref h4])), (h1, .inl (cA, 1000, .inl (resC (fX10_isLine a1 a2 1 a4 a5) (Tsh a1 a2 1 a4 (-a5)) items f go).2.2.1)), (h4, .inr (5, [.ref h5, .ref h6, .int x.1, .int x.2.1, .int x.2.2.1])), (h5, .inr (6, [.int 1048576, .int x.2.2.2.1, .int x.2.2.2.2.1, .int x.2.2.2.2.2.1, .int x.2.2.2.2.2.2.1])), (h6, .inr (6, [.int 16384, .int x.2.2.2.2.2.2.2.1, .int x.2.2.2.2.2.2.2.2.1, .int x.2.2.2.2.2.2.2.2.2.1, .int x.2.2.2.2.2.2.2.2.2.2])), (h8, .inr (0, [.int qs, .int qt, .int ql, .int qb, .int qr])), (m0, .inr (8, [.int cd, .int (nI items.flatten.length), .ref m1, .int md, .ref m2, .int ch, .int qs, .int qt, .int ql, .int qb, .int qr])), (m1, .inl (cB, 1000, .inl f2)), (m2, .inl (cC, 1000, .inl g2)), (ho, .inl (cL, 1, .inr (.inl (resC (fX10_isLine a1 a2 1 a4 a5) (Tsh a1 a2 1 a4 (-a5)) items f go).2.2.2)))]) (r1 := fun _ => (resC (fX10_isLine a1 a2 1 a4 a5) (Tsh a1 a2 1 a4 (-a5)) items f go).1) (vx_runSW (As := [.ref h0, .int a1, .int a2, .int 1, .int a4, .int a5, .ref ho]) (rest := []) ⟨hx, hb, hml, hown, hts⟩ (kL_delete l hst D H.size h0 h1 h4 h5 h6 cA (.ref h8) f isr wh sh rf ra rx ry kf ka kx ky a1 a2 1 a4 a5 items ho cL go hok hlen hseg (Or.inr rfl)) (vx_cwSW 7 hts gL_law_L_delete rfl rfl rfl (by decide +kernel) ⟨Nat.le_of_ble_eq_true rfl, Nat.le_of_ble_eq_true rfl⟩) ⟨Pt_blind, fun U hU hW => Pt_at hKc hPc hDc hN hT z1 z2 hS hFc hU hW⟩ rfl rfl hl.1 rfl (lv_room (Nat.le_of_ble_eq_true rfl)) dL_law_550 ⟨by show cl + 2 ≤ 651793; omega, by show sl + 11 ≤ 7140724; omega⟩) hP hD hS hA [0, 1, 2, 3, 4, 9] [5, 6, 7, 8] [4, 5, 6, 7, 8, 0, 1, 2, 3, 9] rfl rfl (by decide) (by decide) (fun _ => rfl) (by decide) (fun x9 _ H locs hP hD hS => ?_)
  obtain ⟨y0, y1, y2, y3, y4, y5, y6, y7, y8, y9, y10⟩ := x9
  have hP : va_P D vwCl [(h0, .inr (7, [.ref h1, .int (resC (fX10_isLine a1 a2 1 a4 a5) (Tsh a1 a2 1 a4 (-a5)) items f go).2.1, .ref h8, .ref h4])), (h1, .inl (cA, 1000, .inl (resC (fX10_isLine a1 a2 1 a4 a5) (Tsh a1 a2 1 a4 (-a5)) items f go).2.2.1)), (h4, .inr (5, [.ref h5, .ref h6, .int y0, .int y1, .int y2])), (h5, .inr (6, [.int 1048576, .int y3, .int y4, .int y5, .int y6])), (h6, .inr (6, [.int 16384, .int y7, .int y8, .int y9, .int y10])), (h8, .inr (0, [.int qs, .int qt, .int ql, .int qb, .int qr])), (m0, .inr (8, [.int cd, .int (nI items.flatten.length), .ref m1, .int md, .ref m2, .int ch, .int qs, .int qt, .int ql, .int qb, .int qr])), (m1, .inl (cB, 1000, .inl f2)), (m2, .inl (cC, 1000, .inl g2)), (ho, .inl (cL, 1, .inr (.inl (resC (fX10_isLine a1 a2 1 a4 a5) (Tsh a1 a2 1 a4 (-a5)) items f go).2.2.2)))] H := hP
  have hD : va_D A [(h0, .inr (7, [.ref h1, .int (resC (fX10_isLine a1 a2 1 a4 a5) (Tsh a1 a2 1 a4 (-a5)) items f go).2.1, .ref h8, .ref h4])), (h1, .inl (cA, 1000, .inl (resC (fX10_isLine a1 a2 1 a4 a5) (Tsh a1 a2 1 a4 (-a5)) items f go).2.2.1)), (h4, .inr (5, [.ref h5, .ref h6, .int y0, .int y1, .int y2])), (h5, .inr (6, [.int 1048576, .int y3, .int y4, .int y5, .int y6])), (h6, .inr (6, [.int 16384, .int y7, .int y8, .int y9, .int y10])), (h8, .inr (0, [.int qs, .int qt, .int ql, .int qb, .int qr])), (m0, .inr (8, [.int cd, .int (nI items.flatten.length), .ref m1, .int md, .ref m2, .int ch, .int qs, .int qt, .int ql, .int qb, .int qr])), (m1, .inl (cB, 1000, .inl f2)), (m2, .inl (cC, 1000, .inl g2)), (ho, .inl (cL, 1, .inr (.inl (resC (fX10_isLine a1 a2 1 a4 a5) (Tsh a1 a2 1 a4 (-a5)) items f go).2.2.2)))] := hD
  refine W.widen (k := cl + 2) (n := sl + 11) (by omega) (by omega) ?_
  refine lv_istore (lv' := [(5, .int (resC (fX10_isLine a1 a2 1 a4 a5) (Tsh a1 a2 1 a4 (-a5)) items f go).1), (0, .ref b), (1, .ref h0), (2, .ref m0), (3, .ref ho), (4, .int x4)]) hx hb dL_law_553 hl (by decide) rfl (fun ls hl => ?_)
  refine lv_aload_n hx hb dL_law_555 rfl (lv_at hl 3 rfl) ?_
  refine lv_aload_n hx hb dL_law_556 rfl (lv_at hl 1 rfl) ?_
  refine lv_iload hx hb dL_law_557 (lv_at hl 5 rfl) ?_
  refine lv_iconst (v := 1) hx hb dL_law_559 (by decide) ?_
  refine lv_iadd hx hb dL_law_560 ?_
  refine va_sld hx hb hX hbl hbA hS v1 dL_law_561 ?_
  rw [← ea1]
  refine lv_aload_n hx hb dL_law_562 rfl (lv_at hl 1 rfl) ?_
  refine lv_iload hx hb dL_law_563 (lv_at hl 5 rfl) ?_
  refine lv_iconst (v := 2) hx hb dL_law_565 (by decide) ?_
  refine lv_iadd hx hb dL_law_566 ?_
  refine va_sld hx hb hX hbl hbA hS v2 dL_law_567 ?_
  rw [← ea2]
  refine lv_aload_n hx hb dL_law_568 rfl (lv_at hl 1 rfl) ?_
  refine lv_iload hx hb dL_law_569 (lv_at hl 5 rfl) ?_
  refine lv_iconst (v := 3) hx hb dL_law_571 (by decide) ?_
  refine lv_iadd hx hb dL_law_572 ?_
  refine va_sld hx hb hX hbl hbA hS v3 dL_law_573 ?_
  rw [← ea3]
  refine lv_if_eq (tgt := 581) hx hb dL_law_574 (by decide) (fun c9 => absurd c9 hz) (fun _ => ?_)
  refine lv_iconst (v := 1) hx hb dL_law_577 (by decide) ?_
  refine lv_goto (tgt := 582) hx hb dL_law_578 (by decide) ?_
  refine lv_aload_n hx hb dL_law_582 rfl (lv_at hl 1 rfl) ?_
  refine lv_iload hx hb dL_law_583 (lv_at hl 5 rfl) ?_
  refine lv_iconst (v := 4) hx hb dL_law_585 (by decide) ?_
  refine lv_iadd hx hb dL_law_586 ?_
  refine va_sld hx hb hX hbl hbA hS v4 dL_law_587 ?_
  rw [← ea4]
  refine lv_aload_n hx hb dL_law_588 rfl (lv_at hl 1 rfl) ?_
  refine lv_iload hx hb dL_law_589 (lv_at hl 5 rfl) ?_
  refine lv_iconst (v := 5) hx hb dL_law_591 (by decide) ?_
  refine lv_iadd hx hb dL_law_592 ?_
  refine va_sld hx hb hX hbl hbA hS v5 dL_law_593 ?_
  rw [← ea5]
  have hPc := hP.sub (ws' := [(m0, .inr (8, [.int cd, .int (nI items.flatten.length), .ref m1, .int md, .ref m2, .int ch, .int qs, .int qt, .int ql, .int qb, .int qr])), (m1, .inl (cB, 1000, .inl f2)), (m2, .inl (cC, 1000, .inl g2))]) [6, 7, 8] rfl
  have hDc := hD.sub (ws' := [(m0, .inr (8, [.int cd, .int (nI items.flatten.length), .ref m1, .int md, .ref m2, .int ch, .int qs, .int qt, .int ql, .int qb, .int qr])), (m1, .inl (cB, 1000, .inl f2)), (m2, .inl (cC, 1000, .inl g2))]) [6, 7, 8] (by decide) rfl
  have hKc := hK.sub (tys' := [(cB, .int), (cC, .int)]) [1, 2] rfl
  refine wk_i (β := Unit) (ok := fun _ => True) (wc := [(m0, .inr (8, [.int cd, .int (nI items.flatten.length), .ref m1, .int md, .ref m2, .int ch, .int qs, .int qt, .int ql, .int qb, .int qr])), (m1, .inl (cB, 1000, .inl f2)), (m2, .inl (cC, 1000, .inl g2))]) (wr := [(h0, .inr (7, [.ref h1, .int (resC (fX10_isLine a1 a2 1 a4 a5) (Tsh a1 a2 1 a4 (-a5)) items f go).2.1, .ref h8, .ref h4])), (h1, .inl (cA, 1000, .inl (resC (fX10_isLine a1 a2 1 a4 a5) (Tsh a1 a2 1 a4 (-a5)) items f go).2.2.1)), (h4, .inr (5, [.ref h5, .ref h6, .int y0, .int y1, .int y2])), (h5, .inr (6, [.int 1048576, .int y3, .int y4, .int y5, .int y6])), (h6, .inr (6, [.int 16384, .int y7, .int y8, .int y9, .int y10])), (h8, .inr (0, [.int qs, .int qt, .int ql, .int qb, .int qr])), (ho, .inl (cL, 1, .inr (.inl (resC (fX10_isLine a1 a2 1 a4 a5) (Tsh a1 a2 1 a4 (-a5)) items f go).2.2.2)))]) (w1 := fun _ => [(m0, .inr (8, [.int (fX10_delete md ch f2 g2 a1 a2 1 a4 a5 items).2.1, .int (fX10_delete md ch f2 g2 a1 a2 1 a4 a5 items).2.2.1, .ref m1, .int (fX10_delete md ch f2 g2 a1 a2 1 a4 a5 items).2.2.2.1, .ref m2, .int (fX10_delete md ch f2 g2 a1 a2 1 a4 a5 items).2.2.2.2.1, .int qs, .int qt, .int ql, .int qb, .int qr])), (m1, .inl (cB, 1000, .inl (fX10_delete md ch f2 g2 a1 a2 1 a4 a5 items).2.2.2.2.2.1)), (m2, .inl (cC, 1000, .inl (fX10_delete md ch f2 g2 a1 a2 1 a4 a5 items).2.2.2.2.2.2))]) (ws2 := fun _ => [(h0, .inr (7, [.ref h1, .int (resC (fX10_isLine a1 a2 1 a4 a5) (Tsh a1 a2 1 a4 (-a5)) items f go).2.1, .ref h8, .ref h4])), (h1, .inl (cA, 1000, .inl (resC (fX10_isLine a1 a2 1 a4 a5) (Tsh a1 a2 1 a4 (-a5)) items f go).2.2.1)), (h4, .inr (5, [.ref h5, .ref h6, .int y0, .int y1, .int y2])), (h5, .inr (6, [.int 1048576, .int y3, .int y4, .int y5, .int y6])), (h6, .inr (6, [.int 16384, .int y7, .int y8, .int y9, .int y10])), (h8, .inr (0, [.int qs, .int qt, .int ql, .int qb, .int qr])), (m0, .inr (8, [.int (fX10_delete md ch f2 g2 a1 a2 1 a4 a5 items).2.1, .int (fX10_delete md ch f2 g2 a1 a2 1 a4 a5 items).2.2.1, .ref m1, .int (fX10_delete md ch f2 g2 a1 a2 1 a4 a5 items).2.2.2.1, .ref m2, .int (fX10_delete md ch f2 g2 a1 a2 1 a4 a5 items).2.2.2.2.1, .int qs, .int qt, .int ql, .int qb, .int qr])), (m1, .inl (cB, 1000, .inl (fX10_delete md ch f2 g2 a1 a2 1 a4 a5 items).2.2.2.2.2.1)), (m2, .inl (cC, 1000, .inl (fX10_delete md ch f2 g2 a1 a2 1 a4 a5 items).2.2.2.2.2.2)), (ho, .inl (cL, 1, .inr (.inl (resC (fX10_isLine a1 a2 1 a4 a5) (Tsh a1 a2 1 a4 (-a5)) items f go).2.2.2)))]) (r1 := fun _ => (fX10_delete md ch f2 g2 a1 a2 1 a4 a5 items).1) (va_runV (As := [.int a1, .int a2, .int 1, .int a4, .int a5]) (rest := []) ⟨hx, hb, hml, hown, hts⟩ (kX10_delete l D H.size m0 m1 m2 cB cC cd md ch qs qt ql qb qr f2 g2 a1 a2 1 a4 a5 items (by assumption) (by assumption) hseg2) (cwV 5 hts gL_law_X10_delete rfl rfl rfl (by decide +kernel) ⟨Nat.le_of_ble_eq_true rfl, Nat.le_of_ble_eq_true rfl⟩) ⟨Pw_blind, (va_recv hKc hPc (ci := 8) (q0 := 0) rfl rfl), fun U hU hW => Pw_at hKc hPc hDc hN hU hW⟩ rfl rfl hl.1 rfl (lv_room (Nat.le_of_ble_eq_true rfl)) dL_law_594 ⟨by show cl + 2 ≤ 651793; omega, by show sl + 11 ≤ 7140724; omega⟩) hP hD hS hA [6, 7, 8] [0, 1, 2, 3, 4, 5, 9] [0, 1, 2, 3, 4, 5, 7, 8, 9, 6] rfl rfl (by decide) (by decide) (fun _ => rfl) (by decide) (fun _ _ H locs hP hD hS => ?_)
  have hP : va_P D vwCl [(h0, .inr (7, [.ref h1, .int (resC (fX10_isLine a1 a2 1 a4 a5) (Tsh a1 a2 1 a4 (-a5)) items f go).2.1, .ref h8, .ref h4])), (h1, .inl (cA, 1000, .inl (resC (fX10_isLine a1 a2 1 a4 a5) (Tsh a1 a2 1 a4 (-a5)) items f go).2.2.1)), (h4, .inr (5, [.ref h5, .ref h6, .int y0, .int y1, .int y2])), (h5, .inr (6, [.int 1048576, .int y3, .int y4, .int y5, .int y6])), (h6, .inr (6, [.int 16384, .int y7, .int y8, .int y9, .int y10])), (h8, .inr (0, [.int qs, .int qt, .int ql, .int qb, .int qr])), (m0, .inr (8, [.int (fX10_delete md ch f2 g2 a1 a2 1 a4 a5 items).2.1, .int (fX10_delete md ch f2 g2 a1 a2 1 a4 a5 items).2.2.1, .ref m1, .int (fX10_delete md ch f2 g2 a1 a2 1 a4 a5 items).2.2.2.1, .ref m2, .int (fX10_delete md ch f2 g2 a1 a2 1 a4 a5 items).2.2.2.2.1, .int qs, .int qt, .int ql, .int qb, .int qr])), (m1, .inl (cB, 1000, .inl (fX10_delete md ch f2 g2 a1 a2 1 a4 a5 items).2.2.2.2.2.1)), (m2, .inl (cC, 1000, .inl (fX10_delete md ch f2 g2 a1 a2 1 a4 a5 items).2.2.2.2.2.2)), (ho, .inl (cL, 1, .inr (.inl (resC (fX10_isLine a1 a2 1 a4 a5) (Tsh a1 a2 1 a4 (-a5)) items f go).2.2.2)))] H := hP
  have hD : va_D A [(h0, .inr (7, [.ref h1, .int (resC (fX10_isLine a1 a2 1 a4 a5) (Tsh a1 a2 1 a4 (-a5)) items f go).2.1, .ref h8, .ref h4])), (h1, .inl (cA, 1000, .inl (resC (fX10_isLine a1 a2 1 a4 a5) (Tsh a1 a2 1 a4 (-a5)) items f go).2.2.1)), (h4, .inr (5, [.ref h5, .ref h6, .int y0, .int y1, .int y2])), (h5, .inr (6, [.int 1048576, .int y3, .int y4, .int y5, .int y6])), (h6, .inr (6, [.int 16384, .int y7, .int y8, .int y9, .int y10])), (h8, .inr (0, [.int qs, .int qt, .int ql, .int qb, .int qr])), (m0, .inr (8, [.int (fX10_delete md ch f2 g2 a1 a2 1 a4 a5 items).2.1, .int (fX10_delete md ch f2 g2 a1 a2 1 a4 a5 items).2.2.1, .ref m1, .int (fX10_delete md ch f2 g2 a1 a2 1 a4 a5 items).2.2.2.1, .ref m2, .int (fX10_delete md ch f2 g2 a1 a2 1 a4 a5 items).2.2.2.2.1, .int qs, .int qt, .int ql, .int qb, .int qr])), (m1, .inl (cB, 1000, .inl (fX10_delete md ch f2 g2 a1 a2 1 a4 a5 items).2.2.2.2.2.1)), (m2, .inl (cC, 1000, .inl (fX10_delete md ch f2 g2 a1 a2 1 a4 a5 items).2.2.2.2.2.2)), (ho, .inl (cL, 1, .inr (.inl (resC (fX10_isLine a1 a2 1 a4 a5) (Tsh a1 a2 1 a4 (-a5)) items f go).2.2.2)))] := hD
  refine W.widen (k := cl + 2) (n := sl + 11) (by omega) (by omega) ?_
  rw [del_eq] at hP hD ⊢
  obtain ⟨hq1, hq2, items', hB'⟩ := res_rows hB0 (fX10_isLine a1 a2 1 a4 a5) (Tsh a1 a2 1 a4 (-a5)) md ch g2 go (fun hg it hit => Tsh_ok (ckl ((ckl_eq _ _ _ _ _).trans hg)).1 (ckl ((ckl_eq _ _ _ _ _).trans hg)).2.1 (ckl ((ckl_eq _ _ _ _ _).trans hg)).2.2.1 (ckl ((ckl_eq _ _ _ _ _).trans hg)).2.2.2 (Or.inr rfl) (hok it hit))
  refine lv_istore (lv' := [(6, .int (resM (fX10_isLine a1 a2 1 a4 a5) (Tsh a1 a2 1 a4 (-a5)) items md ch f2 g2).1), (5, .int (resC (fX10_isLine a1 a2 1 a4 a5) (Tsh a1 a2 1 a4 (-a5)) items f go).1), (0, .ref b), (1, .ref h0), (2, .ref m0), (3, .ref ho), (4, .int x4)]) hx hb dL_law_597 hl (by decide) rfl (fun ls hl => ?_)
  refine lv_aload_n hx hb dL_law_599 rfl (lv_at hl 4 rfl) ?_
  have hPc := hP.sub (ws' := [(m0, .inr (8, [.int (resM (fX10_isLine a1 a2 1 a4 a5) (Tsh a1 a2 1 a4 (-a5)) items md ch f2 g2).2.1, .int (resM (fX10_isLine a1 a2 1 a4 a5) (Tsh a1 a2 1 a4 (-a5)) items md ch f2 g2).2.2.1, .ref m1, .int (resM (fX10_isLine a1 a2 1 a4 a5) (Tsh a1 a2 1 a4 (-a5)) items md ch f2 g2).2.2.2.1, .ref m2, .int (resM (fX10_isLine a1 a2 1 a4 a5) (Tsh a1 a2 1 a4 (-a5)) items md ch f2 g2).2.2.2.2.1, .int qs, .int qt, .int ql, .int qb, .int qr])), (m1, .inl (cB, 1000, .inl (resM (fX10_isLine a1 a2 1 a4 a5) (Tsh a1 a2 1 a4 (-a5)) items md ch f2 g2).2.2.2.2.2.1)), (m2, .inl (cC, 1000, .inl (resM (fX10_isLine a1 a2 1 a4 a5) (Tsh a1 a2 1 a4 (-a5)) items md ch f2 g2).2.2.2.2.2.2))]) [6, 7, 8] rfl
  have hDc := hD.sub (ws' := [(m0, .inr (8, [.int (resM (fX10_isLine a1 a2 1 a4 a5) (Tsh a1 a2 1 a4 (-a5)) items md ch f2 g2).2.1, .int (resM (fX10_isLine a1 a2 1 a4 a5) (Tsh a1 a2 1 a4 (-a5)) items md ch f2 g2).2.2.1, .ref m1, .int (resM (fX10_isLine a1 a2 1 a4 a5) (Tsh a1 a2 1 a4 (-a5)) items md ch f2 g2).2.2.2.1, .ref m2, .int (resM (fX10_isLine a1 a2 1 a4 a5) (Tsh a1 a2 1 a4 (-a5)) items md ch f2 g2).2.2.2.2.1, .int qs, .int qt, .int ql, .int qb, .int qr])), (m1, .inl (cB, 1000, .inl (resM (fX10_isLine a1 a2 1 a4 a5) (Tsh a1 a2 1 a4 (-a5)) items md ch f2 g2).2.2.2.2.2.1)), (m2, .inl (cC, 1000, .inl (resM (fX10_isLine a1 a2 1 a4 a5) (Tsh a1 a2 1 a4 (-a5)) items md ch f2 g2).2.2.2.2.2.2))]) [6, 7, 8] (by decide) rfl
  have hKc := hK.sub (tys' := [(cB, .int), (cC, .int)]) [1, 2] rfl
  refine rd_i (va_runV (As := []) (rest := []) ⟨hx, hb, hml, hown, hts⟩ (kX10_thrown l D H.size m0 m1 m2 cB cC ((resM (fX10_isLine a1 a2 1 a4 a5) (Tsh a1 a2 1 a4 (-a5)) items md ch f2 g2).2.1) ((resM (fX10_isLine a1 a2 1 a4 a5) (Tsh a1 a2 1 a4 (-a5)) items md ch f2 g2).2.2.1) ((resM (fX10_isLine a1 a2 1 a4 a5) (Tsh a1 a2 1 a4 (-a5)) items md ch f2 g2).2.2.2.1) ((resM (fX10_isLine a1 a2 1 a4 a5) (Tsh a1 a2 1 a4 (-a5)) items md ch f2 g2).2.2.2.2.1) qs qt ql qb qr ((resM (fX10_isLine a1 a2 1 a4 a5) (Tsh a1 a2 1 a4 (-a5)) items md ch f2 g2).2.2.2.2.2.1) ((resM (fX10_isLine a1 a2 1 a4 a5) (Tsh a1 a2 1 a4 (-a5)) items md ch f2 g2).2.2.2.2.2.2) ) (cwV 0 hts gL_law_X10_thrown rfl rfl rfl (by decide +kernel) ⟨Nat.le_of_ble_eq_true rfl, Nat.le_of_ble_eq_true rfl⟩) ⟨Pw_blind, (va_recv hKc hPc (ci := 8) (q0 := 0) rfl rfl), fun U hU hW => Pw_at hKc hPc hDc hN hU hW⟩ rfl rfl hl.1 rfl (lv_room (Nat.le_of_ble_eq_true rfl)) dL_law_600 ⟨by show cl + 2 ≤ 651793; omega, by show sl + 11 ≤ 7140724; omega⟩) ?_
  refine lv_iload hx hb dL_law_603 (lv_at hl 1 rfl) ?_
  refine lv_icmp_eq (tgt := 610) hx hb dL_law_605 (by decide) (fun _ => ?_) (fun c9 => absurd hq1 c9)
  refine lv_iload hx hb dL_law_610 (lv_at hl 1 rfl) ?_
  refine lv_if_ne (tgt := 627) hx hb dL_law_612 (by decide) (fun c9 => ?_) (fun c9 => ?_)
  · refine lv_goto (tgt := 807) hx hb dL_law_627 (by decide) ?_
    refine W.widen (k := cl + 2) (n := sl + 11) (by omega) (by omega) ?_
    subst ex4
    exact KN items' _ _ _ _ _ _ _ _ _ _ _ _ _ _ _ _ _ _ _ _ _ _ _ _ _ _ H locs ls hB' hR hP hD hS (lv_sub hl [2, 3, 4, 5, 6] rfl)
  · refine lv_aload_n hx hb dL_law_615 rfl (lv_at hl 5 rfl) ?_
    refine lv_iconst (v := 0) hx hb dL_law_616 (by decide) ?_
    refine va_lald hx hb hK hP 9 3 rfl rfl (show vp_in 0 1 by unfold vp_in; decide) dL_law_617 ?_
    refine lv_iload hx hb dL_law_618 (lv_at hl 0 rfl) ?_
    refine lv_i2l (v := ((resM (fX10_isLine a1 a2 1 a4 a5) (Tsh a1 a2 1 a4 (-a5)) items md ch f2 g2).1).toInt64) hx hb dL_law_620 rfl ?_
    refine W.lcmp hx hb dL_law_621 ?_
    refine lv_if_eq (tgt := 627) hx hb dL_law_622 (by decide) (fun _ => ?_) (fun c8 => absurd (lgc0 (hq2 c9)) c8)
    refine lv_goto (tgt := 807) hx hb dL_law_627 (by decide) ?_
    refine W.widen (k := cl + 2) (n := sl + 11) (by omega) (by omega) ?_
    subst ex4
    exact KN items' _ _ _ _ _ _ _ _ _ _ _ _ _ _ _ _ _ _ _ _ _ _ _ _ _ _ H locs ls hB' hR hP hD hS (lv_sub hl [2, 3, 4, 5, 6] rfl)
