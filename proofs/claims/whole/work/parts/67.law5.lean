set_option maxHeartbeats 4000000 in
set_option maxRecDepth 100000 in
theorem lc_10 {p : Program} {l : Launch} {e : Env} {s : State} {m : MethodId} {below : List Frame} {meth : Method} {c : Code} {D : va_G} {A : Nat → Prop} {b h0 h1 h4 h5 h6 m0 m1 m2 ho : Nat} {cA cB cC cL : ClassId} {L : Nat} {xs : Nat → Int32} (C : Lc p l e s m below meth c D A b h0 h1 h4 h5 h6 m0 m1 m2 ho cA cB cC cL L xs) {cl sl i : Nat} (hcl : cl + 2 ≤ 651793) (hsl : sl + 11 ≤ 7140724) (hi : i + 7 ≤ L) (hL : L ≤ 3584) (KN : Lw p l e s m below meth c D A b h0 h1 h4 h5 h6 m0 m1 m2 ho cA cB cC cL 807 (cl + 2) (sl + 11) (nI i)) : Lw p l e s m below meth c D A b h0 h1 h4 h5 h6 m0 m1 m2 ho cA cB cC cL 703 cl sl (nI i) := by
  obtain ⟨hst, ⟨hx, hb, hr, hml, hown, hts0, hX, hbl, hlocks, hgv⟩, hN, hT, z1, z2, hK, hA, hbA⟩ := C
  have hts : ∀ w ∈ wsL_law, w.before #[Value.ref b] s = true := fun w h => hts0 w (wsL_law_in w h)
  have hown : s.vm.findClass RL = some m.cls := hown
  intro items nn1 nn2 f f2 g2 go h8 cd md ch qs qt ql qb qr isr wh sh rf ra rx ry kf ka kx ky H locs ls hB hR hP hD hS hl
  have hB0 := hB
  obtain ⟨hok, hlen, rfl, rfl, hseg, hseg2⟩ := hB
  have hn1 : vp_in (nI items.flatten.length) 1001 := vp_in_nI (by omega) (by omega)
  obtain ⟨x4, ex4⟩ : ∃ y, y = nI i := ⟨_, rfl⟩
  rw [← ex4] at hl
  have v1 : vp_in (x4 + 1) L := by rw [ex4, n1]; exact vp_in_nI (by omega) (by omega)
  obtain ⟨a1, ea1⟩ : ∃ y, y = xs (x4 + 1).toNatClampNeg := ⟨_, rfl⟩
  have v2 : vp_in (x4 + 2) L := by rw [ex4, n2]; exact vp_in_nI (by omega) (by omega)
  obtain ⟨a2, ea2⟩ : ∃ y, y = xs (x4 + 2).toNatClampNeg := ⟨_, rfl⟩
  have v3 : vp_in (x4 + 3) L := by rw [ex4, n3]; exact vp_in_nI (by omega) (by omega)
  obtain ⟨a3, ea3⟩ : ∃ y, y = xs (x4 + 3).toNatClampNeg := ⟨_, rfl⟩
  have v4 : vp_in (x4 + 4) L := by rw [ex4, n4]; exact vp_in_nI (by omega) (by omega)
  obtain ⟨a4, ea4⟩ : ∃ y, y = xs (x4 + 4).toNatClampNeg := ⟨_, rfl⟩
  have v5 : vp_in (x4 + 5) L := by rw [ex4, n5]; exact vp_in_nI (by omega) (by omega)
  obtain ⟨a5, ea5⟩ : ∃ y, y = xs (x4 + 5).toNatClampNeg := ⟨_, rfl⟩
  refine lv_aload_n hx hb dL_law_703 rfl (lv_at hl 1 rfl) ?_
  refine lv_aload_n hx hb dL_law_704 rfl (lv_at hl 0 rfl) ?_
  refine lv_iload hx hb dL_law_705 (lv_at hl 4 rfl) ?_
  refine lv_iconst (v := 1) hx hb dL_law_707 (by decide) ?_
  refine lv_iadd hx hb dL_law_708 ?_
  refine va_sld hx hb hX hbl hbA hS v1 dL_law_709 ?_
  rw [← ea1]
  refine lv_aload_n hx hb dL_law_710 rfl (lv_at hl 0 rfl) ?_
  refine lv_iload hx hb dL_law_711 (lv_at hl 4 rfl) ?_
  refine lv_iconst (v := 2) hx hb dL_law_713 (by decide) ?_
  refine lv_iadd hx hb dL_law_714 ?_
  refine va_sld hx hb hX hbl hbA hS v2 dL_law_715 ?_
  rw [← ea2]
  refine lv_aload_n hx hb dL_law_716 rfl (lv_at hl 0 rfl) ?_
  refine lv_iload hx hb dL_law_717 (lv_at hl 4 rfl) ?_
  refine lv_iconst (v := 3) hx hb dL_law_719 (by decide) ?_
  refine lv_iadd hx hb dL_law_720 ?_
  refine va_sld hx hb hX hbl hbA hS v3 dL_law_721 ?_
  rw [← ea3]
  refine lv_aload_n hx hb dL_law_722 rfl (lv_at hl 0 rfl) ?_
  refine lv_iload hx hb dL_law_723 (lv_at hl 4 rfl) ?_
  refine lv_iconst (v := 4) hx hb dL_law_725 (by decide) ?_
  refine lv_iadd hx hb dL_law_726 ?_
  refine va_sld hx hb hX hbl hbA hS v4 dL_law_727 ?_
  rw [← ea4]
  refine lv_aload_n hx hb dL_law_728 rfl (lv_at hl 0 rfl) ?_
  refine lv_iload hx hb dL_law_729 (lv_at hl 4 rfl) ?_
  refine lv_iconst (v := 5) hx hb dL_law_731 (by decide) ?_
  refine lv_iadd hx hb dL_law_732 ?_
  refine va_sld hx hb hX hbl hbA hS v5 dL_law_733 ?_
  rw [← ea5]
  refine lv_aload_n hx hb dL_law_734 rfl (lv_at hl 3 rfl) ?_
  have hPc := hP.sub (ws' := [(h0, .inr (7, [.ref h1, .int (nI items.flatten.length), .ref h8, .ref h4])), (h1, .inl (cA, 1000, .inl f)), (h4, .inr (5, [.ref h5, .ref h6, .int isr, .int wh, .int sh])), (h5, .inr (6, [.int 1048576, .int rf, .int ra, .int rx, .int ry])), (h6, .inr (6, [.int 16384, .int kf, .int ka, .int kx, .int ky])), (h8, .inr (0, [.int qs, .int qt, .int ql, .int qb, .int qr])), (ho, .inl (cL, 1, .inr (.inl go)))]) [0, 1, 2, 3, 4, 5, 9] rfl
  have hDc := hD.sub (ws' := [(h0, .inr (7, [.ref h1, .int (nI items.flatten.length), .ref h8, .ref h4])), (h1, .inl (cA, 1000, .inl f)), (h4, .inr (5, [.ref h5, .ref h6, .int isr, .int wh, .int sh])), (h5, .inr (6, [.int 1048576, .int rf, .int ra, .int rx, .int ry])), (h6, .inr (6, [.int 16384, .int kf, .int ka, .int kx, .int ky])), (h8, .inr (0, [.int qs, .int qt, .int ql, .int qb, .int qr])), (ho, .inl (cL, 1, .inr (.inl go)))]) [0, 1, 2, 3, 4, 5, 9] (by decide) rfl
  have hKc := hK.sub (tys' := [(cA, .int), (cL, .long)]) [0, 3] rfl
  have hFc := va_free (wc := [(h0, .inr (7, [.ref h1, .int (nI items.flatten.length), .ref h8, .ref h4])), (h1, .inl (cA, 1000, .inl f)), (h4, .inr (5, [.ref h5, .ref h6, .int isr, .int wh, .int sh])), (h5, .inr (6, [.int 1048576, .int rf, .int ra, .int rx, .int ry])), (h6, .inr (6, [.int 16384, .int kf, .int ka, .int kx, .int ky])), (h8, .inr (0, [.int qs, .int qt, .int ql, .int qb, .int qr])), (ho, .inl (cL, 1, .inr (.inl go)))]) hD hS hA [0, 1, 2, 3, 4, 5, 9] rfl
  refine wk_i (β := Int32 × Int32 × Int32 × Int32 × Int32 × Int32 × Int32 × Int32 × Int32 × Int32 × Int32) (ok := fun _ => True) (wc := [(h0, .inr (7, [.ref h1, .int (nI items.flatten.length), .ref h8, .ref h4])), (h1, .inl (cA, 1000, .inl f)), (h4, .inr (5, [.ref h5, .ref h6, .int isr, .int wh, .int sh])), (h5, .inr (6, [.int 1048576, .int rf, .int ra, .int rx, .int ry])), (h6, .inr (6, [.int 16384, .int kf, .int ka, .int kx, .int ky])), (h8, .inr (0, [.int qs, .int qt, .int ql, .int qb, .int qr])), (ho, .inl (cL, 1, .inr (.inl go)))]) (wr := [(m0, .inr (8, [.int cd, .int (nI items.flatten.length), .ref m1, .int md, .ref m2, .int ch, .int qs, .int qt, .int ql, .int qb, .int qr])), (m1, .inl (cB, 1000, .inl f2)), (m2, .inl (cC, 1000, .inl g2))]) (w1 := fun x => [(h0, .inr (7, [.ref h1, .int (resC (gmv qt ql qb qr a1 a2 a3 a4 a5) (Tmv qs qt ql qb qr a1 a2 a3 a4 a5) items f go).2.1, .ref h8, .ref h4])), (h1, .inl (cA, 1000, .inl (resC (gmv qt ql qb qr a1 a2 a3 a4 a5) (Tmv qs qt ql qb qr a1 a2 a3 a4 a5) items f go).2.2.1)), (h4, .inr (5, [.ref h5, .ref h6, .int x.1, .int x.2.1, .int x.2.2.1])), (h5, .inr (6, [.int 1048576, .int x.2.2.2.1, .int x.2.2.2.2.1, .int x.2.2.2.2.2.1, .int x.2.2.2.2.2.2.1])), (h6, .inr (6, [.int 16384, .int x.2.2.2.2.2.2.2.1, .int x.2.2.2.2.2.2.2.2.1, .int x.2.2.2.2.2.2.2.2.2.1, .int x.2.2.2.2.2.2.2.2.2.2])), (h8, .inr (0, [.int qs, .int qt, .int ql, .int qb, .int qr])), (ho, .inl (cL, 1, .inr (.inl (resC (gmv qt ql qb qr a1 a2 a3 a4 a5) (Tmv qs qt ql qb qr a1 a2 a3 a4 a5) items f go).2.2.2)))]) (ws2 := fun x => [(h0, .inr (7, [.ref h1, .int (resC (gmv qt ql qb qr a1 a2 a3 a4 a5) (Tmv qs qt ql qb qr a1 a2 a3 a4 a5) items f go).2.1, .ref h8, .ref h4])), (h1, .inl (cA, 1000, .inl (resC (gmv qt ql qb qr a1 a2 a3 a4 a5) (Tmv qs qt ql qb qr a1 a2 a3 a4 a5) items f go).2.2.1)), (h4, .inr (5, [.ref h5, .ref h6, .int x.1, .int x.2.1, .int x.2.2.1])), (h5, .inr (6, [.int 1048576, .int x.2.2.2.1, .int x.2.2.2.2.1, .int x.2.2.2.2.2.1, .int x.2.2.2.2.2.2.1])), (h6, .inr (6, [.int 16384, .int x.2.2.2.2.2.2.2.1, .int x.2.2.2.2.2.2.2.2.1, .int x.2.2.2.2.2.2.2.2.2.1, .int x.2.2.2.2.2.2.2.2.2.2])), (h8, .inr (0, [.int qs, .int qt, .int ql, .int qb, .int qr])), (m0, .inr (8, [.int cd, .int (nI items.flatten.length), .ref m1, .int md, .ref m2, .int ch, .int qs, .int qt, .int ql, .int qb, .int qr])), (m1, .inl (cB, 1000, .inl f2)), (m2, .inl (cC, 1000, .inl g2)), (ho, .inl (cL, 1, .inr (.inl (resC (gmv qt ql qb qr a1 a2 a3 a4 a5) (Tmv qs qt ql qb qr a1 a2 a3 a4 a5) items f go).2.2.2)))]) (r1 := fun _ => (resC (gmv qt ql qb qr a1 a2 a3 a4 a5) (Tmv qs qt ql qb qr a1 a2 a3 a4 a5) items f go).1) (vx_runSW (As := [.ref h0, .int a1, .int a2, .int a3, .int a4, .int a5, .ref ho]) (rest := []) ⟨hx, hb, hml, hown, hts⟩ (kL_move l hst D H.size h0 h1 h4 h5 h6 cA f isr wh sh rf ra rx ry kf ka kx ky h8 a1 a2 qs qt ql qb qr a3 a4 a5 items ho cL go hok hlen hseg hR) (vx_cwSW 7 hts gL_law_L_move rfl rfl rfl (by decide +kernel) ⟨Nat.le_of_ble_eq_true rfl, Nat.le_of_ble_eq_true rfl⟩) ⟨Pt_blind, fun U hU hW => Pt_at hKc hPc hDc hN hT z1 z2 hS hFc hU hW⟩ rfl rfl hl.1 rfl (lv_room (Nat.le_of_ble_eq_true rfl)) dL_law_735 ⟨by show cl + 2 ≤ 651793; omega, by show sl + 9 ≤ 7140724; omega⟩) hP hD hS hA [0, 1, 2, 3, 4, 5, 9] [6, 7, 8] [3, 4, 5, 6, 7, 8, 0, 1, 2, 9] rfl rfl (by decide) (by decide) (fun _ => rfl) (by decide) (fun x9 _ H locs hP hD hS => ?_)
  obtain ⟨y0, y1, y2, y3, y4, y5, y6, y7, y8, y9, y10⟩ := x9
  have hP : va_P D vwCl [(h0, .inr (7, [.ref h1, .int (resC (gmv qt ql qb qr a1 a2 a3 a4 a5) (Tmv qs qt ql qb qr a1 a2 a3 a4 a5) items f go).2.1, .ref h8, .ref h4])), (h1, .inl (cA, 1000, .inl (resC (gmv qt ql qb qr a1 a2 a3 a4 a5) (Tmv qs qt ql qb qr a1 a2 a3 a4 a5) items f go).2.2.1)), (h4, .inr (5, [.ref h5, .ref h6, .int y0, .int y1, .int y2])), (h5, .inr (6, [.int 1048576, .int y3, .int y4, .int y5, .int y6])), (h6, .inr (6, [.int 16384, .int y7, .int y8, .int y9, .int y10])), (h8, .inr (0, [.int qs, .int qt, .int ql, .int qb, .int qr])), (m0, .inr (8, [.int cd, .int (nI items.flatten.length), .ref m1, .int md, .ref m2, .int ch, .int qs, .int qt, .int ql, .int qb, .int qr])), (m1, .inl (cB, 1000, .inl f2)), (m2, .inl (cC, 1000, .inl g2)), (ho, .inl (cL, 1, .inr (.inl (resC (gmv qt ql qb qr a1 a2 a3 a4 a5) (Tmv qs qt ql qb qr a1 a2 a3 a4 a5) items f go).2.2.2)))] H := hP
  have hD : va_D A [(h0, .inr (7, [.ref h1, .int (resC (gmv qt ql qb qr a1 a2 a3 a4 a5) (Tmv qs qt ql qb qr a1 a2 a3 a4 a5) items f go).2.1, .ref h8, .ref h4])), (h1, .inl (cA, 1000, .inl (resC (gmv qt ql qb qr a1 a2 a3 a4 a5) (Tmv qs qt ql qb qr a1 a2 a3 a4 a5) items f go).2.2.1)), (h4, .inr (5, [.ref h5, .ref h6, .int y0, .int y1, .int y2])), (h5, .inr (6, [.int 1048576, .int y3, .int y4, .int y5, .int y6])), (h6, .inr (6, [.int 16384, .int y7, .int y8, .int y9, .int y10])), (h8, .inr (0, [.int qs, .int qt, .int ql, .int qb, .int qr])), (m0, .inr (8, [.int cd, .int (nI items.flatten.length), .ref m1, .int md, .ref m2, .int ch, .int qs, .int qt, .int ql, .int qb, .int qr])), (m1, .inl (cB, 1000, .inl f2)), (m2, .inl (cC, 1000, .inl g2)), (ho, .inl (cL, 1, .inr (.inl (resC (gmv qt ql qb qr a1 a2 a3 a4 a5) (Tmv qs qt ql qb qr a1 a2 a3 a4 a5) items f go).2.2.2)))] := hD
  refine W.widen (k := cl + 2) (n := sl + 9) (by omega) (by omega) ?_
  refine lv_istore (lv' := [(5, .int (resC (gmv qt ql qb qr a1 a2 a3 a4 a5) (Tmv qs qt ql qb qr a1 a2 a3 a4 a5) items f go).1), (0, .ref b), (1, .ref h0), (2, .ref m0), (3, .ref ho), (4, .int x4)]) hx hb dL_law_738 hl (by decide) rfl (fun ls hl => ?_)
  refine lv_aload_n hx hb dL_law_740 rfl (lv_at hl 3 rfl) ?_
  refine lv_aload_n hx hb dL_law_741 rfl (lv_at hl 1 rfl) ?_
  refine lv_iload hx hb dL_law_742 (lv_at hl 5 rfl) ?_
  refine lv_iconst (v := 1) hx hb dL_law_744 (by decide) ?_
  refine lv_iadd hx hb dL_law_745 ?_
  refine va_sld hx hb hX hbl hbA hS v1 dL_law_746 ?_
  rw [← ea1]
  refine lv_aload_n hx hb dL_law_747 rfl (lv_at hl 1 rfl) ?_
  refine lv_iload hx hb dL_law_748 (lv_at hl 5 rfl) ?_
  refine lv_iconst (v := 2) hx hb dL_law_750 (by decide) ?_
  refine lv_iadd hx hb dL_law_751 ?_
  refine va_sld hx hb hX hbl hbA hS v2 dL_law_752 ?_
  rw [← ea2]
  refine lv_aload_n hx hb dL_law_753 rfl (lv_at hl 1 rfl) ?_
  refine lv_iload hx hb dL_law_754 (lv_at hl 5 rfl) ?_
  refine lv_iconst (v := 3) hx hb dL_law_756 (by decide) ?_
  refine lv_iadd hx hb dL_law_757 ?_
  refine va_sld hx hb hX hbl hbA hS v3 dL_law_758 ?_
  rw [← ea3]
  refine lv_aload_n hx hb dL_law_759 rfl (lv_at hl 1 rfl) ?_
  refine lv_iload hx hb dL_law_760 (lv_at hl 5 rfl) ?_
  refine lv_iconst (v := 4) hx hb dL_law_762 (by decide) ?_
  refine lv_iadd hx hb dL_law_763 ?_
  refine va_sld hx hb hX hbl hbA hS v4 dL_law_764 ?_
  rw [← ea4]
  refine lv_aload_n hx hb dL_law_765 rfl (lv_at hl 1 rfl) ?_
  refine lv_iload hx hb dL_law_766 (lv_at hl 5 rfl) ?_
  refine lv_iconst (v := 5) hx hb dL_law_768 (by decide) ?_
  refine lv_iadd hx hb dL_law_769 ?_
  refine va_sld hx hb hX hbl hbA hS v5 dL_law_770 ?_
  rw [← ea5]
  have hPc := hP.sub (ws' := [(m0, .inr (8, [.int cd, .int (nI items.flatten.length), .ref m1, .int md, .ref m2, .int ch, .int qs, .int qt, .int ql, .int qb, .int qr])), (m1, .inl (cB, 1000, .inl f2)), (m2, .inl (cC, 1000, .inl g2))]) [6, 7, 8] rfl
  have hDc := hD.sub (ws' := [(m0, .inr (8, [.int cd, .int (nI items.flatten.length), .ref m1, .int md, .ref m2, .int ch, .int qs, .int qt, .int ql, .int qb, .int qr])), (m1, .inl (cB, 1000, .inl f2)), (m2, .inl (cC, 1000, .inl g2))]) [6, 7, 8] (by decide) rfl
  have hKc := hK.sub (tys' := [(cB, .int), (cC, .int)]) [1, 2] rfl
  refine wk_i (β := Unit) (ok := fun _ => True) (wc := [(m0, .inr (8, [.int cd, .int (nI items.flatten.length), .ref m1, .int md, .ref m2, .int ch, .int qs, .int qt, .int ql, .int qb, .int qr])), (m1, .inl (cB, 1000, .inl f2)), (m2, .inl (cC, 1000, .inl g2))]) (wr := [(h0, .inr (7, [.ref h1, .int (resC (gmv qt ql qb qr a1 a2 a3 a4 a5) (Tmv qs qt ql qb qr a1 a2 a3 a4 a5) items f go).2.1, .ref h8, .ref h4])), (h1, .inl (cA, 1000, .inl (resC (gmv qt ql qb qr a1 a2 a3 a4 a5) (Tmv qs qt ql qb qr a1 a2 a3 a4 a5) items f go).2.2.1)), (h4, .inr (5, [.ref h5, .ref h6, .int y0, .int y1, .int y2])), (h5, .inr (6, [.int 1048576, .int y3, .int y4, .int y5, .int y6])), (h6, .inr (6, [.int 16384, .int y7, .int y8, .int y9, .int y10])), (h8, .inr (0, [.int qs, .int qt, .int ql, .int qb, .int qr])), (ho, .inl (cL, 1, .inr (.inl (resC (gmv qt ql qb qr a1 a2 a3 a4 a5) (Tmv qs qt ql qb qr a1 a2 a3 a4 a5) items f go).2.2.2)))]) (w1 := fun _ => [(m0, .inr (8, [.int (resM (gmv qt ql qb qr a1 a2 a3 a4 a5) (Tmv qs qt ql qb qr a1 a2 a3 a4 a5) items md ch f2 g2).2.1, .int (resM (gmv qt ql qb qr a1 a2 a3 a4 a5) (Tmv qs qt ql qb qr a1 a2 a3 a4 a5) items md ch f2 g2).2.2.1, .ref m1, .int (resM (gmv qt ql qb qr a1 a2 a3 a4 a5) (Tmv qs qt ql qb qr a1 a2 a3 a4 a5) items md ch f2 g2).2.2.2.1, .ref m2, .int (resM (gmv qt ql qb qr a1 a2 a3 a4 a5) (Tmv qs qt ql qb qr a1 a2 a3 a4 a5) items md ch f2 g2).2.2.2.2.1, .int qs, .int qt, .int ql, .int qb, .int qr])), (m1, .inl (cB, 1000, .inl (resM (gmv qt ql qb qr a1 a2 a3 a4 a5) (Tmv qs qt ql qb qr a1 a2 a3 a4 a5) items md ch f2 g2).2.2.2.2.2.1)), (m2, .inl (cC, 1000, .inl (resM (gmv qt ql qb qr a1 a2 a3 a4 a5) (Tmv qs qt ql qb qr a1 a2 a3 a4 a5) items md ch f2 g2).2.2.2.2.2.2))]) (ws2 := fun _ => [(h0, .inr (7, [.ref h1, .int (resC (gmv qt ql qb qr a1 a2 a3 a4 a5) (Tmv qs qt ql qb qr a1 a2 a3 a4 a5) items f go).2.1, .ref h8, .ref h4])), (h1, .inl (cA, 1000, .inl (resC (gmv qt ql qb qr a1 a2 a3 a4 a5) (Tmv qs qt ql qb qr a1 a2 a3 a4 a5) items f go).2.2.1)), (h4, .inr (5, [.ref h5, .ref h6, .int y0, .int y1, .int y2])), (h5, .inr (6, [.int 1048576, .int y3, .int y4, .int y5, .int y6])), (h6, .inr (6, [.int 16384, .int y7, .int y8, .int y9, .int y10])), (h8, .inr (0, [.int qs, .int qt, .int ql, .int qb, .int qr])), (m0, .inr (8, [.int (resM (gmv qt ql qb qr a1 a2 a3 a4 a5) (Tmv qs qt ql qb qr a1 a2 a3 a4 a5) items md ch f2 g2).2.1, .int (resM (gmv qt ql qb qr a1 a2 a3 a4 a5) (Tmv qs qt ql qb qr a1 a2 a3 a4 a5) items md ch f2 g2).2.2.1, .ref m1, .int (resM (gmv qt ql qb qr a1 a2 a3 a4 a5) (Tmv qs qt ql qb qr a1 a2 a3 a4 a5) items md ch f2 g2).2.2.2.1, .ref m2, .int (resM (gmv qt ql qb qr a1 a2 a3 a4 a5) (Tmv qs qt ql qb qr a1 a2 a3 a4 a5) items md ch f2 g2).2.2.2.2.1, .int qs, .int qt, .int ql, .int qb, .int qr])), (m1, .inl (cB, 1000, .inl (resM (gmv qt ql qb qr a1 a2 a3 a4 a5) (Tmv qs qt ql qb qr a1 a2 a3 a4 a5) items md ch f2 g2).2.2.2.2.2.1)), (m2, .inl (cC, 1000, .inl (resM (gmv qt ql qb qr a1 a2 a3 a4 a5) (Tmv qs qt ql qb qr a1 a2 a3 a4 a5) items md ch f2 g2).2.2.2.2.2.2)), (ho, .inl (cL, 1, .inr (.inl (resC (gmv qt ql qb qr a1 a2 a3 a4 a5) (Tmv qs qt ql qb qr a1 a2 a3 a4 a5) items f go).2.2.2)))]) (r1 := fun _ => (resM (gmv qt ql qb qr a1 a2 a3 a4 a5) (Tmv qs qt ql qb qr a1 a2 a3 a4 a5) items md ch f2 g2).1) (va_runV (As := [.int a1, .int a2, .int a3, .int a4, .int a5]) (rest := []) ⟨hx, hb, hml, hown, hts⟩ (kX10_move l D H.size m0 m1 m2 cB cC cd md ch qs qt ql qb qr f2 g2 a1 a2 a3 a4 a5 items (by assumption) (by assumption) hseg2 (by assumption)) (cwV 5 hts gL_law_X10_move rfl rfl rfl (by decide +kernel) ⟨Nat.le_of_ble_eq_true rfl, Nat.le_of_ble_eq_true rfl⟩) ⟨Pw_blind, (va_recv hKc hPc (ci := 8) (q0 := 0) rfl rfl), fun U hU hW => Pw_at hKc hPc hDc hN hU hW⟩ rfl rfl hl.1 rfl (lv_room (Nat.le_of_ble_eq_true rfl)) dL_law_771 ⟨by show cl + 2 ≤ 651793; omega, by show sl + 9 ≤ 7140724; omega⟩) hP hD hS hA [6, 7, 8] [0, 1, 2, 3, 4, 5, 9] [0, 1, 2, 3, 4, 5, 7, 8, 9, 6] rfl rfl (by decide) (by decide) (fun _ => rfl) (by decide) (fun _ _ H locs hP hD hS => ?_)
  have hP : va_P D vwCl [(h0, .inr (7, [.ref h1, .int (resC (gmv qt ql qb qr a1 a2 a3 a4 a5) (Tmv qs qt ql qb qr a1 a2 a3 a4 a5) items f go).2.1, .ref h8, .ref h4])), (h1, .inl (cA, 1000, .inl (resC (gmv qt ql qb qr a1 a2 a3 a4 a5) (Tmv qs qt ql qb qr a1 a2 a3 a4 a5) items f go).2.2.1)), (h4, .inr (5, [.ref h5, .ref h6, .int y0, .int y1, .int y2])), (h5, .inr (6, [.int 1048576, .int y3, .int y4, .int y5, .int y6])), (h6, .inr (6, [.int 16384, .int y7, .int y8, .int y9, .int y10])), (h8, .inr (0, [.int qs, .int qt, .int ql, .int qb, .int qr])), (m0, .inr (8, [.int (resM (gmv qt ql qb qr a1 a2 a3 a4 a5) (Tmv qs qt ql qb qr a1 a2 a3 a4 a5) items md ch f2 g2).2.1, .int (resM (gmv qt ql qb qr a1 a2 a3 a4 a5) (Tmv qs qt ql qb qr a1 a2 a3 a4 a5) items md ch f2 g2).2.2.1, .ref m1, .int (resM (gmv qt ql qb qr a1 a2 a3 a4 a5) (Tmv qs qt ql qb qr a1 a2 a3 a4 a5) items md ch f2 g2).2.2.2.1, .ref m2, .int (resM (gmv qt ql qb qr a1 a2 a3 a4 a5) (Tmv qs qt ql qb qr a1 a2 a3 a4 a5) items md ch f2 g2).2.2.2.2.1, .int qs, .int qt, .int ql, .int qb, .int qr])), (m1, .inl (cB, 1000, .inl (resM (gmv qt ql qb qr a1 a2 a3 a4 a5) (Tmv qs qt ql qb qr a1 a2 a3 a4 a5) items md ch f2 g2).2.2.2.2.2.1)), (m2, .inl (cC, 1000, .inl (resM (gmv qt ql qb qr a1 a2 a3 a4 a5) (Tmv qs qt ql qb qr a1 a2 a3 a4 a5) items md ch f2 g2).2.2.2.2.2.2)), (ho, .inl (cL, 1, .inr (.inl (resC (gmv qt ql qb qr a1 a2 a3 a4 a5) (Tmv qs qt ql qb qr a1 a2 a3 a4 a5) items f go).2.2.2)))] H := hP
  have hD : va_D A [(h0, .inr (7, [.ref h1, .int (resC (gmv qt ql qb qr a1 a2 a3 a4 a5) (Tmv qs qt ql qb qr a1 a2 a3 a4 a5) items f go).2.1, .ref h8, .ref h4])), (h1, .inl (cA, 1000, .inl (resC (gmv qt ql qb qr a1 a2 a3 a4 a5) (Tmv qs qt ql qb qr a1 a2 a3 a4 a5) items f go).2.2.1)), (h4, .inr (5, [.ref h5, .ref h6, .int y0, .int y1, .int y2])), (h5, .inr (6, [.int 1048576, .int y3, .int y4, .int y5, .int y6])), (h6, .inr (6, [.int 16384, .int y7, .int y8, .int y9, .int y10])), (h8, .inr (0, [.int qs, .int qt, .int ql, .int qb, .int qr])), (m0, .inr (8, [.int (resM (gmv qt ql qb qr a1 a2 a3 a4 a5) (Tmv qs qt ql qb qr a1 a2 a3 a4 a5) items md ch f2 g2).2.1, .int (resM (gmv qt ql qb qr a1 a2 a3 a4 a5) (Tmv qs qt ql qb qr a1 a2 a3 a4 a5) items md ch f2 g2).2.2.1, .ref m1, .int (resM (gmv qt ql qb qr a1 a2 a3 a4 a5) (Tmv qs qt ql qb qr a1 a2 a3 a4 a5) items md ch f2 g2).2.2.2.1, .ref m2, .int (resM (gmv qt ql qb qr a1 a2 a3 a4 a5) (Tmv qs qt ql qb qr a1 a2 a3 a4 a5) items md ch f2 g2).2.2.2.2.1, .int qs, .int qt, .int ql, .int qb, .int qr])), (m1, .inl (cB, 1000, .inl (resM (gmv qt ql qb qr a1 a2 a3 a4 a5) (Tmv qs qt ql qb qr a1 a2 a3 a4 a5) items md ch f2 g2).2.2.2.2.2.1)), (m2, .inl (cC, 1000, .inl (resM (gmv qt ql qb qr a1 a2 a3 a4 a5) (Tmv qs qt ql qb qr a1 a2 a3 a4 a5) items md ch f2 g2).2.2.2.2.2.2)), (ho, .inl (cL, 1, .inr (.inl (resC (gmv qt ql qb qr a1 a2 a3 a4 a5) (Tmv qs qt ql qb qr a1 a2 a3 a4 a5) items f go).2.2.2)))] := hD
  refine W.widen (k := cl + 2) (n := sl + 9) (by omega) (by omega) ?_
  obtain ⟨hq1, hq2, items', hB'⟩ := res_rows hB0 (gmv qt ql qb qr a1 a2 a3 a4 a5) (Tmv qs qt ql qb qr a1 a2 a3 a4 a5) md ch g2 go (fun hg it hit => Tmv_ok (gmv_ok hR hg) (hok it hit))
  refine lv_istore (lv' := [(6, .int (resM (gmv qt ql qb qr a1 a2 a3 a4 a5) (Tmv qs qt ql qb qr a1 a2 a3 a4 a5) items md ch f2 g2).1), (5, .int (resC (gmv qt ql qb qr a1 a2 a3 a4 a5) (Tmv qs qt ql qb qr a1 a2 a3 a4 a5) items f go).1), (0, .ref b), (1, .ref h0), (2, .ref m0), (3, .ref ho), (4, .int x4)]) hx hb dL_law_774 hl (by decide) rfl (fun ls hl => ?_)
  refine lv_aload_n hx hb dL_law_776 rfl (lv_at hl 4 rfl) ?_
  have hPc := hP.sub (ws' := [(m0, .inr (8, [.int (resM (gmv qt ql qb qr a1 a2 a3 a4 a5) (Tmv qs qt ql qb qr a1 a2 a3 a4 a5) items md ch f2 g2).2.1, .int (resM (gmv qt ql qb qr a1 a2 a3 a4 a5) (Tmv qs qt ql qb qr a1 a2 a3 a4 a5) items md ch f2 g2).2.2.1, .ref m1, .int (resM (gmv qt ql qb qr a1 a2 a3 a4 a5) (Tmv qs qt ql qb qr a1 a2 a3 a4 a5) items md ch f2 g2).2.2.2.1, .ref m2, .int (resM (gmv qt ql qb qr a1 a2 a3 a4 a5) (Tmv qs qt ql qb qr a1 a2 a3 a4 a5) items md ch f2 g2).2.2.2.2.1, .int qs, .int qt, .int ql, .int qb, .int qr])), (m1, .inl (cB, 1000, .inl (resM (gmv qt ql qb qr a1 a2 a3 a4 a5) (Tmv qs qt ql qb qr a1 a2 a3 a4 a5) items md ch f2 g2).2.2.2.2.2.1)), (m2, .inl (cC, 1000, .inl (resM (gmv qt ql qb qr a1 a2 a3 a4 a5) (Tmv qs qt ql qb qr a1 a2 a3 a4 a5) items md ch f2 g2).2.2.2.2.2.2))]) [6, 7, 8] rfl
  have hDc := hD.sub (ws' := [(m0, .inr (8, [.int (resM (gmv qt ql qb qr a1 a2 a3 a4 a5) (Tmv qs qt ql qb qr a1 a2 a3 a4 a5) items md ch f2 g2).2.1, .int (resM (gmv qt ql qb qr a1 a2 a3 a4 a5) (Tmv qs qt ql qb qr a1 a2 a3 a4 a5) items md ch f2 g2).2.2.1, .ref m1, .int (resM (gmv qt ql qb qr a1 a2 a3 a4 a5) (Tmv qs qt ql qb qr a1 a2 a3 a4 a5) items md ch f2 g2).2.2.2.1, .ref m2, .int (resM (gmv qt ql qb qr a1 a2 a3 a4 a5) (Tmv qs qt ql qb qr a1 a2 a3 a4 a5) items md ch f2 g2).2.2.2.2.1, .int qs, .int qt, .int ql, .int qb, .int qr])), (m1, .inl (cB, 1000, .inl (resM (gmv qt ql qb qr a1 a2 a3 a4 a5) (Tmv qs qt ql qb qr a1 a2 a3 a4 a5) items md ch f2 g2).2.2.2.2.2.1)), (m2, .inl (cC, 1000, .inl (resM (gmv qt ql qb qr a1 a2 a3 a4 a5) (Tmv qs qt ql qb qr a1 a2 a3 a4 a5) items md ch f2 g2).2.2.2.2.2.2))]) [6, 7, 8] (by decide) rfl
  have hKc := hK.sub (tys' := [(cB, .int), (cC, .int)]) [1, 2] rfl
  refine rd_i (va_runV (As := []) (rest := []) ⟨hx, hb, hml, hown, hts⟩ (kX10_thrown l D H.size m0 m1 m2 cB cC ((resM (gmv qt ql qb qr a1 a2 a3 a4 a5) (Tmv qs qt ql qb qr a1 a2 a3 a4 a5) items md ch f2 g2).2.1) ((resM (gmv qt ql qb qr a1 a2 a3 a4 a5) (Tmv qs qt ql qb qr a1 a2 a3 a4 a5) items md ch f2 g2).2.2.1) ((resM (gmv qt ql qb qr a1 a2 a3 a4 a5) (Tmv qs qt ql qb qr a1 a2 a3 a4 a5) items md ch f2 g2).2.2.2.1) ((resM (gmv qt ql qb qr a1 a2 a3 a4 a5) (Tmv qs qt ql qb qr a1 a2 a3 a4 a5) items md ch f2 g2).2.2.2.2.1) qs qt ql qb qr ((resM (gmv qt ql qb qr a1 a2 a3 a4 a5) (Tmv qs qt ql qb qr a1 a2 a3 a4 a5) items md ch f2 g2).2.2.2.2.2.1) ((resM (gmv qt ql qb qr a1 a2 a3 a4 a5) (Tmv qs qt ql qb qr a1 a2 a3 a4 a5) items md ch f2 g2).2.2.2.2.2.2) ) (cwV 0 hts gL_law_X10_thrown rfl rfl rfl (by decide +kernel) ⟨Nat.le_of_ble_eq_true rfl, Nat.le_of_ble_eq_true rfl⟩) ⟨Pw_blind, (va_recv hKc hPc (ci := 8) (q0 := 0) rfl rfl), fun U hU hW => Pw_at hKc hPc hDc hN hU hW⟩ rfl rfl hl.1 rfl (lv_room (Nat.le_of_ble_eq_true rfl)) dL_law_777 ⟨by show cl + 2 ≤ 651793; omega, by show sl + 9 ≤ 7140724; omega⟩) ?_
  refine lv_iload hx hb dL_law_780 (lv_at hl 1 rfl) ?_
  refine lv_icmp_eq (tgt := 787) hx hb dL_law_782 (by decide) (fun _ => ?_) (fun c9 => absurd hq1 c9)
  refine lv_iload hx hb dL_law_787 (lv_at hl 1 rfl) ?_
  refine lv_if_ne (tgt := 804) hx hb dL_law_789 (by decide) (fun c9 => ?_) (fun c9 => ?_)
  · refine lv_goto (tgt := 807) hx hb dL_law_804 (by decide) ?_
    refine W.widen (k := cl + 2) (n := sl + 11) (by omega) (by omega) ?_
    subst ex4
    exact KN items' _ _ _ _ _ _ _ _ _ _ _ _ _ _ _ _ _ _ _ _ _ _ _ _ _ _ H locs ls hB' hR hP hD hS (lv_sub hl [2, 3, 4, 5, 6] rfl)
  · refine lv_aload_n hx hb dL_law_792 rfl (lv_at hl 5 rfl) ?_
    refine lv_iconst (v := 0) hx hb dL_law_793 (by decide) ?_
    refine va_lald hx hb hK hP 9 3 rfl rfl (show vp_in 0 1 by unfold vp_in; decide) dL_law_794 ?_
    refine lv_iload hx hb dL_law_795 (lv_at hl 0 rfl) ?_
    refine lv_i2l (v := ((resM (gmv qt ql qb qr a1 a2 a3 a4 a5) (Tmv qs qt ql qb qr a1 a2 a3 a4 a5) items md ch f2 g2).1).toInt64) hx hb dL_law_797 rfl ?_
    refine W.lcmp hx hb dL_law_798 ?_
    refine lv_if_eq (tgt := 804) hx hb dL_law_799 (by decide) (fun _ => ?_) (fun c8 => absurd (lgc0 (hq2 c9)) c8)
    refine lv_goto (tgt := 807) hx hb dL_law_804 (by decide) ?_
    refine W.widen (k := cl + 2) (n := sl + 11) (by omega) (by omega) ?_
    subst ex4
    exact KN items' _ _ _ _ _ _ _ _ _ _ _ _ _ _ _ _ _ _ _ _ _ _ _ _ _ _ H locs ls hB' hR hP hD hS (lv_sub hl [2, 3, 4, 5, 6] rfl)
