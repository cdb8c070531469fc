set_option maxHeartbeats 4000000 in
set_option maxRecDepth 100000 in
theorem lc_2 {p : Program} {l : Launch} {e : Env} {s : State} {m : MethodId} {below : List Frame} {meth : Method} {c : Code} {D : va_G} {A : Nat → Prop} {b h0 h1 h4 h5 h6 m0 m1 m2 ho : Nat} {cA cB cC cL : ClassId} {L : Nat} {xs : Nat → Int32} (C : Lc p l e s m below meth c D A b h0 h1 h4 h5 h6 m0 m1 m2 ho cA cB cC cL L xs) {cl sl i : Nat} (hcl : cl + 2 ≤ 651793) (hsl : sl + 11 ≤ 7140724) (hi : i + 7 ≤ L) (hL : L ≤ 3584) (KN : Lw p l e s m below meth c D A b h0 h1 h4 h5 h6 m0 m1 m2 ho cA cB cC cL 807 (cl + 2) (sl + 11) (nI i)) : Lw p l e s m below meth c D A b h0 h1 h4 h5 h6 m0 m1 m2 ho cA cB cC cL 136 cl sl (nI i) := by
  obtain ⟨hst, ⟨hx, hb, hr, hml, hown, hts0, hX, hbl, hlocks, hgv⟩, hN, hT, z1, z2, hK, hA, hbA⟩ := C
  have hts : ∀ w ∈ wsL_law, w.before #[Value.ref b] s = true := fun w h => hts0 w (wsL_law_in w h)
  have hown : s.vm.findClass RL = some m.cls := hown
  intro items nn1 nn2 f f2 g2 go h8 cd md ch qs qt ql qb qr isr wh sh rf ra rx ry kf ka kx ky H locs ls hB hR hP hD hS hl
  have hB0 := hB
  obtain ⟨hok, hlen, rfl, rfl, hseg, hseg2⟩ := hB
  have hn1 : vp_in (nI items.flatten.length) 1001 := vp_in_nI (by omega) (by omega)
  obtain ⟨x4, ex4⟩ : ∃ y, y = nI i := ⟨_, rfl⟩
  rw [← ex4] at hl
  have v1 : vp_in (x4 + 1) L := by rw [ex4, n1]; exact vp_in_nI (by omega) (by omega)
  obtain ⟨a1, ea1⟩ : ∃ y, y = xs (x4 + 1).toNatClampNeg := ⟨_, rfl⟩
  have v2 : vp_in (x4 + 2) L := by rw [ex4, n2]; exact vp_in_nI (by omega) (by omega)
  obtain ⟨a2, ea2⟩ : ∃ y, y = xs (x4 + 2).toNatClampNeg := ⟨_, rfl⟩
  have v3 : vp_in (x4 + 3) L := by rw [ex4, n3]; exact vp_in_nI (by omega) (by omega)
  obtain ⟨a3, ea3⟩ : ∃ y, y = xs (x4 + 3).toNatClampNeg := ⟨_, rfl⟩
  have v4 : vp_in (x4 + 4) L := by rw [ex4, n4]; exact vp_in_nI (by omega) (by omega)
  obtain ⟨a4, ea4⟩ : ∃ y, y = xs (x4 + 4).toNatClampNeg := ⟨_, rfl⟩
  refine lv_aload_n hx hb dL_law_136 rfl (lv_at hl 1 rfl) ?_
  refine lv_aload_n hx hb dL_law_137 rfl (lv_at hl 0 rfl) ?_
  refine lv_iload hx hb dL_law_138 (lv_at hl 4 rfl) ?_
  refine lv_iconst (v := 1) hx hb dL_law_140 (by decide) ?_
  refine lv_iadd hx hb dL_law_141 ?_
  refine va_sld hx hb hX hbl hbA hS v1 dL_law_142 ?_
  rw [← ea1]
  refine lv_aload_n hx hb dL_law_143 rfl (lv_at hl 0 rfl) ?_
  refine lv_iload hx hb dL_law_144 (lv_at hl 4 rfl) ?_
  refine lv_iconst (v := 2) hx hb dL_law_146 (by decide) ?_
  refine lv_iadd hx hb dL_law_147 ?_
  refine va_sld hx hb hX hbl hbA hS v2 dL_law_148 ?_
  rw [← ea2]
  refine lv_aload_n hx hb dL_law_149 rfl (lv_at hl 0 rfl) ?_
  refine lv_iload hx hb dL_law_150 (lv_at hl 4 rfl) ?_
  refine lv_iconst (v := 3) hx hb dL_law_152 (by decide) ?_
  refine lv_iadd hx hb dL_law_153 ?_
  refine va_sld hx hb hX hbl hbA hS v3 dL_law_154 ?_
  rw [← ea3]
  refine lv_aload_n hx hb dL_law_155 rfl (lv_at hl 0 rfl) ?_
  refine lv_iload hx hb dL_law_156 (lv_at hl 4 rfl) ?_
  refine lv_iconst (v := 4) hx hb dL_law_158 (by decide) ?_
  refine lv_iadd hx hb dL_law_159 ?_
  refine va_sld hx hb hX hbl hbA hS v4 dL_law_160 ?_
  rw [← ea4]
  have hPc := hP.sub (ws' := [(h0, .inr (7, [.ref h1, .int (nI items.flatten.length), .ref h8, .ref h4])), (h1, .inl (cA, 1000, .inl f))]) [0, 1] rfl
  have hDc := hD.sub (ws' := [(h0, .inr (7, [.ref h1, .int (nI items.flatten.length), .ref h8, .ref h4])), (h1, .inl (cA, 1000, .inl f))]) [0, 1] (by decide) rfl
  have hKc := hK.sub (tys' := [(cA, .int)]) [0] rfl
  refine wk_i (β := Unit) (ok := fun _ => True) (wc := [(h0, .inr (7, [.ref h1, .int (nI items.flatten.length), .ref h8, .ref h4])), (h1, .inl (cA, 1000, .inl f))]) (wr := [(h4, .inr (5, [.ref h5, .ref h6, .int isr, .int wh, .int sh])), (h5, .inr (6, [.int 1048576, .int rf, .int ra, .int rx, .int ry])), (h6, .inr (6, [.int 16384, .int kf, .int ka, .int kx, .int ky])), (h8, .inr (0, [.int qs, .int qt, .int ql, .int qb, .int qr])), (m0, .inr (8, [.int cd, .int (nI items.flatten.length), .ref m1, .int md, .ref m2, .int ch, .int qs, .int qt, .int ql, .int qb, .int qr])), (m1, .inl (cB, 1000, .inl f2)), (m2, .inl (cC, 1000, .inl g2)), (ho, .inl (cL, 1, .inr (.inl go)))]) (w1 := fun _ => [(h0, .inr (7, [.ref h1, .int (fX9_place (nI items.flatten.length) f a1 a2 a3 a4).2.1, .ref h8, .ref h4])), (h1, .inl (cA, 1000, .inl (fX9_place (nI items.flatten.length) f a1 a2 a3 a4).2.2))]) (ws2 := fun _ => [(h0, .inr (7, [.ref h1, .int (fX9_place (nI items.flatten.length) f a1 a2 a3 a4).2.1, .ref h8, .ref h4])), (h1, .inl (cA, 1000, .inl (fX9_place (nI items.flatten.length) f a1 a2 a3 a4).2.2)), (h4, .inr (5, [.ref h5, .ref h6, .int isr, .int wh, .int sh])), (h5, .inr (6, [.int 1048576, .int rf, .int ra, .int rx, .int ry])), (h6, .inr (6, [.int 16384, .int kf, .int ka, .int kx, .int ky])), (h8, .inr (0, [.int qs, .int qt, .int ql, .int qb, .int qr])), (m0, .inr (8, [.int cd, .int (nI items.flatten.length), .ref m1, .int md, .ref m2, .int ch, .int qs, .int qt, .int ql, .int qb, .int qr])), (m1, .inl (cB, 1000, .inl f2)), (m2, .inl (cC, 1000, .inl g2)), (ho, .inl (cL, 1, .inr (.inl go)))]) (r1 := fun _ => (fX9_place (nI items.flatten.length) f a1 a2 a3 a4).1) (va_runV (As := [.int a1, .int a2, .int a3, .int a4]) (rest := []) ⟨hx, hb, hml, hown, hts⟩ (kX9_place l D H.size h0 h1 cA (.ref h8) (.ref h4) (nI items.flatten.length) f a1 a2 a3 a4 ) (cwV 4 hts gL_law_X9_place rfl rfl rfl (by decide +kernel) ⟨Nat.le_of_ble_eq_true rfl, Nat.le_of_ble_eq_true rfl⟩) ⟨Pw_blind, (va_recv hKc hPc (ci := 7) (q0 := 0) rfl rfl), fun U hU hW => Pw_at hKc hPc hDc hN hU hW⟩ rfl rfl hl.1 rfl (lv_room (Nat.le_of_ble_eq_true rfl)) dL_law_161 ⟨by show cl + 0 ≤ 651793; omega, by show sl + 0 ≤ 7140724; omega⟩) hP hD hS hA [0, 1] [2, 3, 4, 5, 6, 7, 8, 9] [8, 9, 0, 1, 2, 3, 4, 5, 6, 7] rfl rfl (by decide) (by decide) (fun _ => rfl) (by decide) (fun _ _ H locs hP hD hS => ?_)
  have hP : va_P D vwCl [(h0, .inr (7, [.ref h1, .int (fX9_place (nI items.flatten.length) f a1 a2 a3 a4).2.1, .ref h8, .ref h4])), (h1, .inl (cA, 1000, .inl (fX9_place (nI items.flatten.length) f a1 a2 a3 a4).2.2)), (h4, .inr (5, [.ref h5, .ref h6, .int isr, .int wh, .int sh])), (h5, .inr (6, [.int 1048576, .int rf, .int ra, .int rx, .int ry])), (h6, .inr (6, [.int 16384, .int kf, .int ka, .int kx, .int ky])), (h8, .inr (0, [.int qs, .int qt, .int ql, .int qb, .int qr])), (m0, .inr (8, [.int cd, .int (nI items.flatten.length), .ref m1, .int md, .ref m2, .int ch, .int qs, .int qt, .int ql, .int qb, .int qr])), (m1, .inl (cB, 1000, .inl f2)), (m2, .inl (cC, 1000, .inl g2)), (ho, .inl (cL, 1, .inr (.inl go)))] H := hP
  have hD : va_D A [(h0, .inr (7, [.ref h1, .int (fX9_place (nI items.flatten.length) f a1 a2 a3 a4).2.1, .ref h8, .ref h4])), (h1, .inl (cA, 1000, .inl (fX9_place (nI items.flatten.length) f a1 a2 a3 a4).2.2)), (h4, .inr (5, [.ref h5, .ref h6, .int isr, .int wh, .int sh])), (h5, .inr (6, [.int 1048576, .int rf, .int ra, .int rx, .int ry])), (h6, .inr (6, [.int 16384, .int kf, .int ka, .int kx, .int ky])), (h8, .inr (0, [.int qs, .int qt, .int ql, .int qb, .int qr])), (m0, .inr (8, [.int cd, .int (nI items.flatten.length), .ref m1, .int md, .ref m2, .int ch, .int qs, .int qt, .int ql, .int qb, .int qr])), (m1, .inl (cB, 1000, .inl f2)), (m2, .inl (cC, 1000, .inl g2)), (ho, .inl (cL, 1, .inr (.inl go)))] := hD
  refine W.widen (k := cl + 0) (n := sl + 0) (by omega) (by omega) ?_
  refine lv_aload_n hx hb dL_law_164 rfl (lv_at hl 2 rfl) ?_
  refine lv_aload_n hx hb dL_law_165 rfl (lv_at hl 0 rfl) ?_
  refine lv_iload hx hb dL_law_166 (lv_at hl 4 rfl) ?_
  refine lv_iconst (v := 1) hx hb dL_law_168 (by decide) ?_
  refine lv_iadd hx hb dL_law_169 ?_
  refine va_sld hx hb hX hbl hbA hS v1 dL_law_170 ?_
  rw [← ea1]
  refine lv_aload_n hx hb dL_law_171 rfl (lv_at hl 0 rfl) ?_
  refine lv_iload hx hb dL_law_172 (lv_at hl 4 rfl) ?_
  refine lv_iconst (v := 2) hx hb dL_law_174 (by decide) ?_
  refine lv_iadd hx hb dL_law_175 ?_
  refine va_sld hx hb hX hbl hbA hS v2 dL_law_176 ?_
  rw [← ea2]
  refine lv_aload_n hx hb dL_law_177 rfl (lv_at hl 0 rfl) ?_
  refine lv_iload hx hb dL_law_178 (lv_at hl 4 rfl) ?_
  refine lv_iconst (v := 3) hx hb dL_law_180 (by decide) ?_
  refine lv_iadd hx hb dL_law_181 ?_
  refine va_sld hx hb hX hbl hbA hS v3 dL_law_182 ?_
  rw [← ea3]
  refine lv_aload_n hx hb dL_law_183 rfl (lv_at hl 0 rfl) ?_
  refine lv_iload hx hb dL_law_184 (lv_at hl 4 rfl) ?_
  refine lv_iconst (v := 4) hx hb dL_law_186 (by decide) ?_
  refine lv_iadd hx hb dL_law_187 ?_
  refine va_sld hx hb hX hbl hbA hS v4 dL_law_188 ?_
  rw [← ea4]
  have hPc := hP.sub (ws' := [(m0, .inr (8, [.int cd, .int (nI items.flatten.length), .ref m1, .int md, .ref m2, .int ch, .int qs, .int qt, .int ql, .int qb, .int qr])), (m1, .inl (cB, 1000, .inl f2)), (m2, .inl (cC, 1000, .inl g2))]) [6, 7, 8] rfl
  have hDc := hD.sub (ws' := [(m0, .inr (8, [.int cd, .int (nI items.flatten.length), .ref m1, .int md, .ref m2, .int ch, .int qs, .int qt, .int ql, .int qb, .int qr])), (m1, .inl (cB, 1000, .inl f2)), (m2, .inl (cC, 1000, .inl g2))]) [6, 7, 8] (by decide) rfl
  have hKc := hK.sub (tys' := [(cB, .int), (cC, .int)]) [1, 2] rfl
  refine wk_i (β := Unit) (ok := fun _ => True) (wc := [(m0, .inr (8, [.int cd, .int (nI items.flatten.length), .ref m1, .int md, .ref m2, .int ch, .int qs, .int qt, .int ql, .int qb, .int qr])), (m1, .inl (cB, 1000, .inl f2)), (m2, .inl (cC, 1000, .inl g2))]) (wr := [(h0, .inr (7, [.ref h1, .int (fX9_place (nI items.flatten.length) f a1 a2 a3 a4).2.1, .ref h8, .ref h4])), (h1, .inl (cA, 1000, .inl (fX9_place (nI items.flatten.length) f a1 a2 a3 a4).2.2)), (h4, .inr (5, [.ref h5, .ref h6, .int isr, .int wh, .int sh])), (h5, .inr (6, [.int 1048576, .int rf, .int ra, .int rx, .int ry])), (h6, .inr (6, [.int 16384, .int kf, .int ka, .int kx, .int ky])), (h8, .inr (0, [.int qs, .int qt, .int ql, .int qb, .int qr])), (ho, .inl (cL, 1, .inr (.inl go)))]) (w1 := fun _ => [(m0, .inr (8, [.int (fX10_place (nI items.flatten.length) f2 a1 a2 a3 a4).2.1, .int (fX10_place (nI items.flatten.length) f2 a1 a2 a3 a4).2.2.1, .ref m1, .int md, .ref m2, .int ch, .int qs, .int qt, .int ql, .int qb, .int qr])), (m1, .inl (cB, 1000, .inl (fX10_place (nI items.flatten.length) f2 a1 a2 a3 a4).2.2.2)), (m2, .inl (cC, 1000, .inl g2))]) (ws2 := fun _ => [(h0, .inr (7, [.ref h1, .int (fX9_place (nI items.flatten.length) f a1 a2 a3 a4).2.1, .ref h8, .ref h4])), (h1, .inl (cA, 1000, .inl (fX9_place (nI items.flatten.length) f a1 a2 a3 a4).2.2)), (h4, .inr (5, [.ref h5, .ref h6, .int isr, .int wh, .int sh])), (h5, .inr (6, [.int 1048576, .int rf, .int ra, .int rx, .int ry])), (h6, .inr (6, [.int 16384, .int kf, .int ka, .int kx, .int ky])), (h8, .inr (0, [.int qs, .int qt, .int ql, .int qb, .int qr])), (m0, .inr (8, [.int (fX10_place (nI items.flatten.length) f2 a1 a2 a3 a4).2.1, .int (fX10_place (nI items.flatten.length) f2 a1 a2 a3 a4).2.2.1, .ref m1, .int md, .ref m2, .int ch, .int qs, .int qt, .int ql, .int qb, .int qr])), (m1, .inl (cB, 1000, .inl (fX10_place (nI items.flatten.length) f2 a1 a2 a3 a4).2.2.2)), (m2, .inl (cC, 1000, .inl g2)), (ho, .inl (cL, 1, .inr (.inl go)))]) (r1 := fun _ => (fX10_place (nI items.flatten.length) f2 a1 a2 a3 a4).1) (va_runV (As := [.int a1, .int a2, .int a3, .int a4]) (rest := [.int (fX9_place (nI items.flatten.length) f a1 a2 a3 a4).1]) ⟨hx, hb, hml, hown, hts⟩ (kX10_place l D H.size m0 m1 m2 cB cC cd (nI items.flatten.length) md ch qs qt ql qb qr f2 g2 a1 a2 a3 a4 hn1) (cwV 4 hts gL_law_X10_place rfl rfl rfl (by decide +kernel) ⟨Nat.le_of_ble_eq_true rfl, Nat.le_of_ble_eq_true rfl⟩) ⟨Pw_blind, (va_recv hKc hPc (ci := 8) (q0 := 0) rfl rfl), fun U hU hW => Pw_at hKc hPc hDc hN hU hW⟩ rfl rfl hl.1 rfl (lv_room (Nat.le_of_ble_eq_true rfl)) dL_law_189 ⟨by show cl + 0 ≤ 651793; omega, by show sl + 0 ≤ 7140724; omega⟩) hP hD hS hA [6, 7, 8] [0, 1, 2, 3, 4, 5, 9] [0, 1, 2, 3, 4, 5, 7, 8, 9, 6] rfl rfl (by decide) (by decide) (fun _ => rfl) (by decide) (fun _ _ H locs hP hD hS => ?_)
  have hP : va_P D vwCl [(h0, .inr (7, [.ref h1, .int (fX9_place (nI items.flatten.length) f a1 a2 a3 a4).2.1, .ref h8, .ref h4])), (h1, .inl (cA, 1000, .inl (fX9_place (nI items.flatten.length) f a1 a2 a3 a4).2.2)), (h4, .inr (5, [.ref h5, .ref h6, .int isr, .int wh, .int sh])), (h5, .inr (6, [.int 1048576, .int rf, .int ra, .int rx, .int ry])), (h6, .inr (6, [.int 16384, .int kf, .int ka, .int kx, .int ky])), (h8, .inr (0, [.int qs, .int qt, .int ql, .int qb, .int qr])), (m0, .inr (8, [.int (fX10_place (nI items.flatten.length) f2 a1 a2 a3 a4).2.1, .int (fX10_place (nI items.flatten.length) f2 a1 a2 a3 a4).2.2.1, .ref m1, .int md, .ref m2, .int ch, .int qs, .int qt, .int ql, .int qb, .int qr])), (m1, .inl (cB, 1000, .inl (fX10_place (nI items.flatten.length) f2 a1 a2 a3 a4).2.2.2)), (m2, .inl (cC, 1000, .inl g2)), (ho, .inl (cL, 1, .inr (.inl go)))] H := hP
  have hD : va_D A [(h0, .inr (7, [.ref h1, .int (fX9_place (nI items.flatten.length) f a1 a2 a3 a4).2.1, .ref h8, .ref h4])), (h1, .inl (cA, 1000, .inl (fX9_place (nI items.flatten.length) f a1 a2 a3 a4).2.2)), (h4, .inr (5, [.ref h5, .ref h6, .int isr, .int wh, .int sh])), (h5, .inr (6, [.int 1048576, .int rf, .int ra, .int rx, .int ry])), (h6, .inr (6, [.int 16384, .int kf, .int ka, .int kx, .int ky])), (h8, .inr (0, [.int qs, .int qt, .int ql, .int qb, .int qr])), (m0, .inr (8, [.int (fX10_place (nI items.flatten.length) f2 a1 a2 a3 a4).2.1, .int (fX10_place (nI items.flatten.length) f2 a1 a2 a3 a4).2.2.1, .ref m1, .int md, .ref m2, .int ch, .int qs, .int qt, .int ql, .int qb, .int qr])), (m1, .inl (cB, 1000, .inl (fX10_place (nI items.flatten.length) f2 a1 a2 a3 a4).2.2.2)), (m2, .inl (cC, 1000, .inl g2)), (ho, .inl (cL, 1, .inr (.inl go)))] := hD
  refine W.widen (k := cl + 0) (n := sl + 0) (by omega) (by omega) ?_
  refine lv_icmp_eq (tgt := 807) hx hb dL_law_192 (by decide) (fun _ => ?_) (fun c9 => absurd (place_rows hB0 a1 a2 a3 a4).1 c9)
  obtain ⟨items', hB'⟩ := (place_rows hB0 a1 a2 a3 a4).2
  refine W.widen (k := cl + 2) (n := sl + 11) (by omega) (by omega) ?_
  subst ex4
  exact KN items' _ _ _ _ _ _ _ _ _ _ _ _ _ _ _ _ _ _ _ _ _ _ _ _ _ _ H locs ls hB' hR hP hD hS (lv_sub hl [0, 1, 2, 3, 4] rfl)

set_option maxHeartbeats 4000000 in
set_option maxRecDepth 100000 in
theorem lc_3 {p : Program} {l : Launch} {e : Env} {s : State} {m : MethodId} {below : List Frame} {meth : Method} {c : Code} {D : va_G} {A : Nat → Prop} {b h0 h1 h4 h5 h6 m0 m1 m2 ho : Nat} {cA cB cC cL : ClassId} {L : Nat} {xs : Nat → Int32} (C : Lc p l e s m below meth c D A b h0 h1 h4 h5 h6 m0 m1 m2 ho cA cB cC cL L xs) {cl sl i : Nat} (hcl : cl + 2 ≤ 651793) (hsl : sl + 11 ≤ 7140724) (hi : i + 7 ≤ L) (hL : L ≤ 3584) (KN : Lw p l e s m below meth c D A b h0 h1 h4 h5 h6 m0 m1 m2 ho cA cB cC cL 807 (cl + 2) (sl + 11) (nI i)) : Lw p l e s m below meth c D A b h0 h1 h4 h5 h6 m0 m1 m2 ho cA cB cC cL 197 cl sl (nI i) := by
  obtain ⟨hst, ⟨hx, hb, hr, hml, hown, hts0, hX, hbl, hlocks, hgv⟩, hN, hT, z1, z2, hK, hA, hbA⟩ := C
  have hts : ∀ w ∈ wsL_law, w.before #[Value.ref b] s = true := fun w h => hts0 w (wsL_law_in w h)
  have hown : s.vm.findClass RL = some m.cls := hown
  intro items nn1 nn2 f f2 g2 go h8 cd md ch qs qt ql qb qr isr wh sh rf ra rx ry kf ka kx ky H locs ls hB hR hP hD hS hl
  have hB0 := hB
  obtain ⟨hok, hlen, rfl, rfl, hseg, hseg2⟩ := hB
  have hn1 : vp_in (nI items.flatten.length) 1001 := vp_in_nI (by omega) (by omega)
  obtain ⟨x4, ex4⟩ : ∃ y, y = nI i := ⟨_, rfl⟩
  rw [← ex4] at hl
  have v1 : vp_in (x4 + 1) L := by rw [ex4, n1]; exact vp_in_nI (by omega) (by omega)
  obtain ⟨a1, ea1⟩ : ∃ y, y = xs (x4 + 1).toNatClampNeg := ⟨_, rfl⟩
  have v2 : vp_in (x4 + 2) L := by rw [ex4, n2]; exact vp_in_nI (by omega) (by omega)
  obtain ⟨a2, ea2⟩ : ∃ y, y = xs (x4 + 2).toNatClampNeg := ⟨_, rfl⟩
  have v3 : vp_in (x4 + 3) L := by rw [ex4, n3]; exact vp_in_nI (by omega) (by omega)
  obtain ⟨a3, ea3⟩ : ∃ y, y = xs (x4 + 3).toNatClampNeg := ⟨_, rfl⟩
  have v4 : vp_in (x4 + 4) L := by rw [ex4, n4]; exact vp_in_nI (by omega) (by omega)
  obtain ⟨a4, ea4⟩ : ∃ y, y = xs (x4 + 4).toNatClampNeg := ⟨_, rfl⟩
  have v5 : vp_in (x4 + 5) L := by rw [ex4, n5]; exact vp_in_nI (by omega) (by omega)
  obtain ⟨a5, ea5⟩ : ∃ y, y = xs (x4 + 5).toNatClampNeg := ⟨_, rfl⟩
  have v6 : vp_in (x4 + 6) L := by rw [ex4, n6]; exact vp_in_nI (by omega) (by omega)
  obtain ⟨a6, ea6⟩ : ∃ y, y = xs (x4 + 6).toNatClampNeg := ⟨_, rfl⟩
  refine lv_aload_n hx hb dL_law_197 rfl (lv_at hl 1 rfl) ?_
  refine lv_aload_n hx hb dL_law_198 rfl (lv_at hl 0 rfl) ?_
  refine lv_iload hx hb dL_law_199 (lv_at hl 4 rfl) ?_
  refine lv_iconst (v := 1) hx hb dL_law_201 (by decide) ?_
  refine lv_iadd hx hb dL_law_202 ?_
  refine va_sld hx hb hX hbl hbA hS v1 dL_law_203 ?_
  rw [← ea1]
  refine lv_aload_n hx hb dL_law_204 rfl (lv_at hl 0 rfl) ?_
  refine lv_iload hx hb dL_law_205 (lv_at hl 4 rfl) ?_
  refine lv_iconst (v := 2) hx hb dL_law_207 (by decide) ?_
  refine lv_iadd hx hb dL_law_208 ?_
  refine va_sld hx hb hX hbl hbA hS v2 dL_law_209 ?_
  rw [← ea2]
  refine lv_aload_n hx hb dL_law_210 rfl (lv_at hl 0 rfl) ?_
  refine lv_iload hx hb dL_law_211 (lv_at hl 4 rfl) ?_
  refine lv_iconst (v := 3) hx hb dL_law_213 (by decide) ?_
  refine lv_iadd hx hb dL_law_214 ?_
  refine va_sld hx hb hX hbl hbA hS v3 dL_law_215 ?_
  rw [← ea3]
  refine lv_aload_n hx hb dL_law_216 rfl (lv_at hl 0 rfl) ?_
  refine lv_iload hx hb dL_law_217 (lv_at hl 4 rfl) ?_
  refine lv_iconst (v := 4) hx hb dL_law_219 (by decide) ?_
  refine lv_iadd hx hb dL_law_220 ?_
  refine va_sld hx hb hX hbl hbA hS v4 dL_law_221 ?_
  rw [← ea4]
  refine lv_aload_n hx hb dL_law_222 rfl (lv_at hl 0 rfl) ?_
  refine lv_iload hx hb dL_law_223 (lv_at hl 4 rfl) ?_
  refine lv_iconst (v := 5) hx hb dL_law_225 (by decide) ?_
  refine lv_iadd hx hb dL_law_226 ?_
  refine va_sld hx hb hX hbl hbA hS v5 dL_law_227 ?_
  rw [← ea5]
  refine lv_aload_n hx hb dL_law_228 rfl (lv_at hl 0 rfl) ?_
  refine lv_iload hx hb dL_law_229 (lv_at hl 4 rfl) ?_
  refine lv_bipush (v := 6) hx hb dL_law_231 (by decide) ?_
  refine lv_iadd hx hb dL_law_233 ?_
  refine va_sld hx hb hX hbl hbA hS v6 dL_law_234 ?_
  rw [← ea6]
  have hPc := hP.sub (ws' := [(h0, .inr (7, [.ref h1, .int (nI items.flatten.length), .ref h8, .ref h4])), (h1, .inl (cA, 1000, .inl f))]) [0, 1] rfl
  have hDc := hD.sub (ws' := [(h0, .inr (7, [.ref h1, .int (nI items.flatten.length), .ref h8, .ref h4])), (h1, .inl (cA, 1000, .inl f))]) [0, 1] (by decide) rfl
  have hKc := hK.sub (tys' := [(cA, .int)]) [0] rfl
  refine wk_i (β := Unit) (ok := fun _ => True) (wc := [(h0, .inr (7, [.ref h1, .int (nI items.flatten.length), .ref h8, .ref h4])), (h1, .inl (cA, 1000, .inl f))]) (wr := [(h4, .inr (5, [.ref h5, .ref h6, .int isr, .int wh, .int sh])), (h5, .inr (6, [.int 1048576, .int rf, .int ra, .int rx, .int ry])), (h6, .inr (6, [.int 16384, .int kf, .int ka, .int kx, .int ky])), (h8, .inr (0, [.int qs, .int qt, .int ql, .int qb, .int qr])), (m0, .inr (8, [.int cd, .int (nI items.flatten.length), .ref m1, .int md, .ref m2, .int ch, .int qs, .int qt, .int ql, .int qb, .int qr])), (m1, .inl (cB, 1000, .inl f2)), (m2, .inl (cC, 1000, .inl g2)), (ho, .inl (cL, 1, .inr (.inl go)))]) (w1 := fun _ => [(h0, .inr (7, [.ref h1, .int (fX9_range (nI items.flatten.length) f a1 a2 a3 a4 a5 a6).2.1, .ref h8, .ref h4])), (h1, .inl (cA, 1000, .inl (fX9_range (nI items.flatten.length) f a1 a2 a3 a4 a5 a6).2.2))]) (ws2 := fun _ => [(h0, .inr (7, [.ref h1, .int (fX9_range (nI items.flatten.length) f a1 a2 a3 a4 a5 a6).2.1, .ref h8, .ref h4])), (h1, .inl (cA, 1000, .inl (fX9_range (nI items.flatten.length) f a1 a2 a3 a4 a5 a6).2.2)), (h4, .inr (5, [.ref h5, .ref h6, .int isr, .int wh, .int sh])), (h5, .inr (6, [.int 1048576, .int rf, .int ra, .int rx, .int ry])), (h6, .inr (6, [.int 16384, .int kf, .int ka, .int kx, .int ky])), (h8, .inr (0, [.int qs, .int qt, .int ql, .int qb, .int qr])), (m0, .inr (8, [.int cd, .int (nI items.flatten.length), .ref m1, .int md, .ref m2, .int ch, .int qs, .int qt, .int ql, .int qb, .int qr])), (m1, .inl (cB, 1000, .inl f2)), (m2, .inl (cC, 1000, .inl g2)), (ho, .inl (cL, 1, .inr (.inl go)))]) (r1 := fun _ => (fX9_range (nI items.flatten.length) f a1 a2 a3 a4 a5 a6).1) (va_runV (As := [.int a1, .int a2, .int a3, .int a4, .int a5, .int a6]) (rest := []) ⟨hx, hb, hml, hown, hts⟩ (kX9_range l D H.size h0 h1 cA (.ref h8) (.ref h4) (nI items.flatten.length) f a1 a2 a3 a4 a5 a6 ) (cwV 6 hts gL_law_X9_range rfl rfl rfl (by decide +kernel) ⟨Nat.le_of_ble_eq_true rfl, Nat.le_of_ble_eq_true rfl⟩) ⟨Pw_blind, (va_recv hKc hPc (ci := 7) (q0 := 0) rfl rfl), fun U hU hW => Pw_at hKc hPc hDc hN hU hW⟩ rfl rfl hl.1 rfl (lv_room (Nat.le_of_ble_eq_true rfl)) dL_law_235 ⟨by show cl + 0 ≤ 651793; omega, by show sl + 0 ≤ 7140724; omega⟩) hP hD hS hA [0, 1] [2, 3, 4, 5, 6, 7, 8, 9] [8, 9, 0, 1, 2, 3, 4, 5, 6, 7] rfl rfl (by decide) (by decide) (fun _ => rfl) (by decide) (fun _ _ H locs hP hD hS => ?_)
  have hP : va_P D vwCl [(h0, .inr (7, [.ref h1, .int (fX9_range (nI items.flatten.length) f a1 a2 a3 a4 a5 a6).2.1, .ref h8, .ref h4])), (h1, .inl (cA, 1000, .inl (fX9_range (nI items.flatten.length) f a1 a2 a3 a4 a5 a6).2.2)), (h4, .inr (5, [.ref h5, .ref h6, .int isr, .int wh, .int sh])), (h5, .inr (6, [.int 1048576, .int rf, .int ra, .int rx, .int ry])), (h6, .inr (6, [.int 16384, .int kf, .int ka, .int kx, .int ky])), (h8, .inr (0, [.int qs, .int qt, .int ql, .int qb, .int qr])), (m0, .inr (8, [.int cd, .int (nI items.flatten.length), .ref m1, .int md, .ref m2, .int ch, .int qs, .int qt, .int ql, .int qb, .int qr])), (m1, .inl (cB, 1000, .inl f2)), (m2, .inl (cC, 1000, .inl g2)), (ho, .inl (cL, 1, .inr (.inl go)))] H := hP
  have hD : va_D A [(h0, .inr (7, [.ref h1, .int (fX9_range (nI items.flatten.length) f a1 a2 a3 a4 a5 a6).2.1, .ref h8, .ref h4])), (h1, .inl (cA, 1000, .inl (fX9_range (nI items.flatten.length) f a1 a2 a3 a4 a5 a6).2.2)), (h4, .inr (5, [.ref h5, .ref h6, .int isr, .int wh, .int sh])), (h5, .inr (6, [.int 1048576, .int rf, .int ra, .int rx, .int ry])), (h6, .inr (6, [.int 16384, .int kf, .int ka, .int kx, .int ky])), (h8, .inr (0, [.int qs, .int qt, .int ql, .int qb, .int qr])), (m0, .inr (8, [.int cd, .int (nI items.flatten.length), .ref m1, .int md, .ref m2, .int ch, .int qs, .int qt, .int ql, .int qb, .int qr])), (m1, .inl (cB, 1000, .inl f2)), (m2, .inl (cC, 1000, .inl g2)), (ho, .inl (cL, 1, .inr (.inl go)))] := hD
  refine W.widen (k := cl + 0) (n := sl + 0) (by omega) (by omega) ?_
  refine lv_aload_n hx hb dL_law_238 rfl (lv_at hl 2 rfl) ?_
  refine lv_aload_n hx hb dL_law_239 rfl (lv_at hl 0 rfl) ?_
  refine lv_iload hx hb dL_law_240 (lv_at hl 4 rfl) ?_
  refine lv_iconst (v := 1) hx hb dL_law_242 (by decide) ?_
  refine lv_iadd hx hb dL_law_243 ?_
  refine va_sld hx hb hX hbl hbA hS v1 dL_law_244 ?_
  rw [← ea1]
  refine lv_aload_n hx hb dL_law_245 rfl (lv_at hl 0 rfl) ?_
  refine lv_iload hx hb dL_law_246 (lv_at hl 4 rfl) ?_
  refine lv_iconst (v := 2) hx hb dL_law_248 (by decide) ?_
  refine lv_iadd hx hb dL_law_249 ?_
  refine va_sld hx hb hX hbl hbA hS v2 dL_law_250 ?_
  rw [← ea2]
  refine lv_aload_n hx hb dL_law_251 rfl (lv_at hl 0 rfl) ?_
  refine lv_iload hx hb dL_law_252 (lv_at hl 4 rfl) ?_
  refine lv_iconst (v := 3) hx hb dL_law_254 (by decide) ?_
  refine lv_iadd hx hb dL_law_255 ?_
  refine va_sld hx hb hX hbl hbA hS v3 dL_law_256 ?_
  rw [← ea3]
  refine lv_aload_n hx hb dL_law_257 rfl (lv_at hl 0 rfl) ?_
  refine lv_iload hx hb dL_law_258 (lv_at hl 4 rfl) ?_
  refine lv_iconst (v := 4) hx hb dL_law_260 (by decide) ?_
  refine lv_iadd hx hb dL_law_261 ?_
  refine va_sld hx hb hX hbl hbA hS v4 dL_law_262 ?_
  rw [← ea4]
  refine lv_aload_n hx hb dL_law_263 rfl (lv_at hl 0 rfl) ?_
  refine lv_iload hx hb dL_law_264 (lv_at hl 4 rfl) ?_
  refine lv_iconst (v := 5) hx hb dL_law_266 (by decide) ?_
  refine lv_iadd hx hb dL_law_267 ?_
  refine va_sld hx hb hX hbl hbA hS v5 dL_law_268 ?_
  rw [← ea5]
  refine lv_aload_n hx hb dL_law_269 rfl (lv_at hl 0 rfl) ?_
  refine lv_iload hx hb dL_law_270 (lv_at hl 4 rfl) ?_
  refine lv_bipush (v := 6) hx hb dL_law_272 (by decide) ?_
  refine lv_iadd hx hb dL_law_274 ?_
  refine va_sld hx hb hX hbl hbA hS v6 dL_law_275 ?_
  rw [← ea6]
  have hPc := hP.sub (ws' := [(m0, .inr (8, [.int cd, .int (nI items.flatten.length), .ref m1, .int md, .ref m2, .int ch, .int qs, .int qt, .int ql, .int qb, .int qr])), (m1, .inl (cB, 1000, .inl f2)), (m2, .inl (cC, 1000, .inl g2))]) [6, 7, 8] rfl
  have hDc := hD.sub (ws' := [(m0, .inr (8, [.int cd, .int (nI items.flatten.length), .ref m1, .int md, .ref m2, .int ch, .int qs, .int qt, .int ql, .int qb, .int qr])), (m1, .inl (cB, 1000, .inl f2)), (m2, .inl (cC, 1000, .inl g2))]) [6, 7, 8] (by decide) rfl
  have hKc := hK.sub (tys' := [(cB, .int), (cC, .int)]) [1, 2] rfl
  refine wk_i (β := Unit) (ok := fun _ => True) (wc := [(m0, .inr (8, [.int cd, .int (nI items.flatten.length), .ref m1, .int md, .ref m2, .int ch, .int qs, .int qt, .int ql, .int qb, .int qr])), (m1, .inl (cB, 1000, .inl f2)), (m2, .inl (cC, 1000, .inl g2))]) (wr := [(h0, .inr (7, [.ref h1, .int (fX9_range (nI items.flatten.length) f a1 a2 a3 a4 a5 a6).2.1, .ref h8, .ref h4])), (h1, .inl (cA, 1000, .inl (fX9_range (nI items.flatten.length) f a1 a2 a3 a4 a5 a6).2.2)), (h4, .inr (5, [.ref h5, .ref h6, .int isr, .int wh, .int sh])), (h5, .inr (6, [.int 1048576, .int rf, .int ra, .int rx, .int ry])), (h6, .inr (6, [.int 16384, .int kf, .int ka, .int kx, .int ky])), (h8, .inr (0, [.int qs, .int qt, .int ql, .int qb, .int qr])), (ho, .inl (cL, 1, .inr (.inl go)))]) (w1 := fun _ => [(m0, .inr (8, [.int (fX10_range (nI items.flatten.length) f2 a1 a2 a3 a4 a5 a6).2.1, .int (fX10_range (nI items.flatten.length) f2 a1 a2 a3 a4 a5 a6).2.2.1, .ref m1, .int md, .ref m2, .int ch, .int qs, .int qt, .int ql, .int qb, .int qr])), (m1, .inl (cB, 1000, .inl (fX10_range (nI items.flatten.length) f2 a1 a2 a3 a4 a5 a6).2.2.2)), (m2, .inl (cC, 1000, .inl g2))]) (ws2 := fun _ => [(h0, .inr (7, [.ref h1, .int (fX9_range (nI items.flatten.length) f a1 a2 a3 a4 a5 a6).2.1, .ref h8, .ref h4])), (h1, .inl (cA, 1000, .inl (fX9_range (nI items.flatten.length) f a1 a2 a3 a4 a5 a6).2.2)), (h4, .inr (5, [.ref h5, .ref h6, .int isr, .int wh, .int sh])), (h5, .inr (6, [.int 1048576, .int rf, .int ra, .int rx, .int ry])), (h6, .inr (6, [.int 16384, .int kf, .int ka, .int kx, .int ky])), (h8, .inr (0, [.int qs, .int qt, .int ql, .int qb, .int qr])), (m0, .inr (8, [.int (fX10_range (nI items.flatten.length) f2 a1 a2 a3 a4 a5 a6).2.1, .int (fX10_range (nI items.flatten.length) f2 a1 a2 a3 a4 a5 a6).2.2.1, .ref m1, .int md, .ref m2, .int ch, .int qs, .int qt, .int ql, .int qb, .int qr])), (m1, .inl (cB, 1000, .inl (fX10_range (nI items.flatten.length) f2 a1 a2 a3 a4 a5 a6).2.2.2)), (m2, .inl (cC, 1000, .inl g2)), (ho, .inl (cL, 1, .inr (.inl go)))]) (r1 := fun _ => (fX10_range (nI items.flatten.length) f2 a1 a2 a3 a4 a5 a6).1) (va_runV (As := [.int a1, .int a2, .int a3, .int a4, .int a5, .int a6]) (rest := [.int (fX9_range (nI items.flatten.length) f a1 a2 a3 a4 a5 a6).1]) ⟨hx, hb, hml, hown, hts⟩ (kX10_range l D H.size m0 m1 m2 cB cC cd (nI items.flatten.length) md ch qs qt ql qb qr f2 g2 a1 a2 a3 a4 a5 a6 hn1) (cwV 6 hts gL_law_X10_range rfl rfl rfl (by decide +kernel) ⟨Nat.le_of_ble_eq_true rfl, Nat.le_of_ble_eq_true rfl⟩) ⟨Pw_blind, (va_recv hKc hPc (ci := 8) (q0 := 0) rfl rfl), fun U hU hW => Pw_at hKc hPc hDc hN hU hW⟩ rfl rfl hl.1 rfl (lv_room (Nat.le_of_ble_eq_true rfl)) dL_law_276 ⟨by show cl + 0 ≤ 651793; omega, by show sl + 0 ≤ 7140724; omega⟩) hP hD hS hA [6, 7, 8] [0, 1, 2, 3, 4, 5, 9] [0, 1, 2, 3, 4, 5, 7, 8, 9, 6] rfl rfl (by decide) (by decide) (fun _ => rfl) (by decide) (fun _ _ H locs hP hD hS => ?_)
  have hP : va_P D vwCl [(h0, .inr (7, [.ref h1, .int (fX9_range (nI items.flatten.length) f a1 a2 a3 a4 a5 a6).2.1, .ref h8, .ref h4])), (h1, .inl (cA, 1000, .inl (fX9_range (nI items.flatten.length) f a1 a2 a3 a4 a5 a6).2.2)), (h4, .inr (5, [.ref h5, .ref h6, .int isr, .int wh, .int sh])), (h5, .inr (6, [.int 1048576, .int rf, .int ra, .int rx, .int ry])), (h6, .inr (6, [.int 16384, .int kf, .int ka, .int kx, .int ky])), (h8, .inr (0, [.int qs, .int qt, .int ql, .int qb, .int qr])), (m0, .inr (8, [.int (fX10_range (nI items.flatten.length) f2 a1 a2 a3 a4 a5 a6).2.1, .int (fX10_range (nI items.flatten.length) f2 a1 a2 a3 a4 a5 a6).2.2.1, .ref m1, .int md, .ref m2, .int ch, .int qs, .int qt, .int ql, .int qb, .int qr])), (m1, .inl (cB, 1000, .inl (fX10_range (nI items.flatten.length) f2 a1 a2 a3 a4 a5 a6).2.2.2)), (m2, .inl (cC, 1000, .inl g2)), (ho, .inl (cL, 1, .inr (.inl go)))] H := hP
  have hD : va_D A [(h0, .inr (7, [.ref h1, .int (fX9_range (nI items.flatten.length) f a1 a2 a3 a4 a5 a6).2.1, .ref h8, .ref h4])), (h1, .inl (cA, 1000, .inl (fX9_range (nI items.flatten.length) f a1 a2 a3 a4 a5 a6).2.2)), (h4, .inr (5, [.ref h5, .ref h6, .int isr, .int wh, .int sh])), (h5, .inr (6, [.int 1048576, .int rf, .int ra, .int rx, .int ry])), (h6, .inr (6, [.int 16384, .int kf, .int ka, .int kx, .int ky])), (h8, .inr (0, [.int qs, .int qt, .int ql, .int qb, .int qr])), (m0, .inr (8, [.int (fX10_range (nI items.flatten.length) f2 a1 a2 a3 a4 a5 a6).2.1, .int (fX10_range (nI items.flatten.length) f2 a1 a2 a3 a4 a5 a6).2.2.1, .ref m1, .int md, .ref m2, .int ch, .int qs, .int qt, .int ql, .int qb, .int qr])), (m1, .inl (cB, 1000, .inl (fX10_range (nI items.flatten.length) f2 a1 a2 a3 a4 a5 a6).2.2.2)), (m2, .inl (cC, 1000, .inl g2)), (ho, .inl (cL, 1, .inr (.inl go)))] := hD
  refine W.widen (k := cl + 0) (n := sl + 0) (by omega) (by omega) ?_
  refine lv_icmp_eq (tgt := 807) hx hb dL_law_279 (by decide) (fun _ => ?_) (fun c9 => absurd (range_rows hB0 a1 a2 a3 a4 a5 a6).1 c9)
  obtain ⟨items', hB'⟩ := (range_rows hB0 a1 a2 a3 a4 a5 a6).2
  refine W.widen (k := cl + 2) (n := sl + 11) (by omega) (by omega) ?_
  subst ex4
  exact KN items' _ _ _ _ _ _ _ _ _ _ _ _ _ _ _ _ _ _ _ _ _ _ _ _ _ _ H locs ls hB' hR hP hD hS (lv_sub hl [0, 1, 2, 3, 4] rfl)

set_option maxHeartbeats 4000000 in
set_option maxRecDepth 100000 in
theorem lc_9 {p : Program} {l : Launch} {e : Env} {s : State} {m : MethodId} {below : List Frame} {meth : Method} {c : Code} {D : va_G} {A : Nat → Prop} {b h0 h1 h4 h5 h6 m0 m1 m2 ho : Nat} {cA cB cC cL : ClassId} {L : Nat} {xs : Nat → Int32} (C : Lc p l e s m below meth c D A b h0 h1 h4 h5 h6 m0 m1 m2 ho cA cB cC cL L xs) {cl sl i : Nat} (hcl : cl + 2 ≤ 651793) (hsl : sl + 11 ≤ 7140724) (hi : i + 7 ≤ L) (hL : L ≤ 3584) (KN : Lw p l e s m below meth c D A b h0 h1 h4 h5 h6 m0 m1 m2 ho cA cB cC cL 807 (cl + 2) (sl + 11) (nI i)) : Lw p l e s m below meth c D A b h0 h1 h4 h5 h6 m0 m1 m2 ho cA cB cC cL 630 cl sl (nI i) := by
  obtain ⟨hst, ⟨hx, hb, hr, hml, hown, hts0, hX, hbl, hlocks, hgv⟩, hN, hT, z1, z2, hK, hA, hbA⟩ := C
  have hts : ∀ w ∈ wsL_law, w.before #[Value.ref b] s = true := fun w h => hts0 w (wsL_law_in w h)
  have hown : s.vm.findClass RL = some m.cls := hown
  intro items nn1 nn2 f f2 g2 go h8 cd md ch qs qt ql qb qr isr wh sh rf ra rx ry kf ka kx ky H locs ls hB hR hP hD hS hl
  have hB0 := hB
  obtain ⟨hok, hlen, rfl, rfl, hseg, hseg2⟩ := hB
  have hn1 : vp_in (nI items.flatten.length) 1001 := vp_in_nI (by omega) (by omega)
  obtain ⟨x4, ex4⟩ : ∃ y, y = nI i := ⟨_, rfl⟩
  rw [← ex4] at hl
  have v1 : vp_in (x4 + 1) L := by rw [ex4, n1]; exact vp_in_nI (by omega) (by omega)
  obtain ⟨a1, ea1⟩ : ∃ y, y = xs (x4 + 1).toNatClampNeg := ⟨_, rfl⟩
  have v2 : vp_in (x4 + 2) L := by rw [ex4, n2]; exact vp_in_nI (by omega) (by omega)
  obtain ⟨a2, ea2⟩ : ∃ y, y = xs (x4 + 2).toNatClampNeg := ⟨_, rfl⟩
  have v3 : vp_in (x4 + 3) L := by rw [ex4, n3]; exact vp_in_nI (by omega) (by omega)
  obtain ⟨a3, ea3⟩ : ∃ y, y = xs (x4 + 3).toNatClampNeg := ⟨_, rfl⟩
  have v4 : vp_in (x4 + 4) L := by rw [ex4, n4]; exact vp_in_nI (by omega) (by omega)
  obtain ⟨a4, ea4⟩ : ∃ y, y = xs (x4 + 4).toNatClampNeg := ⟨_, rfl⟩
  have v5 : vp_in (x4 + 5) L := by rw [ex4, n5]; exact vp_in_nI (by omega) (by omega)
  obtain ⟨a5, ea5⟩ : ∃ y, y = xs (x4 + 5).toNatClampNeg := ⟨_, rfl⟩
  refine lv_aload_n hx hb dL_law_630 rfl (lv_at hl 1 rfl) ?_
  refine lv_aload_n hx hb dL_law_631 rfl (lv_at hl 0 rfl) ?_
  refine lv_iload hx hb dL_law_632 (lv_at hl 4 rfl) ?_
  refine lv_iconst (v := 1) hx hb dL_law_634 (by decide) ?_
  refine lv_iadd hx hb dL_law_635 ?_
  refine va_sld hx hb hX hbl hbA hS v1 dL_law_636 ?_
  rw [← ea1]
  refine lv_aload_n hx hb dL_law_637 rfl (lv_at hl 0 rfl) ?_
  refine lv_iload hx hb dL_law_638 (lv_at hl 4 rfl) ?_
  refine lv_iconst (v := 2) hx hb dL_law_640 (by decide) ?_
  refine lv_iadd hx hb dL_law_641 ?_
  refine va_sld hx hb hX hbl hbA hS v2 dL_law_642 ?_
  rw [← ea2]
  refine lv_aload_n hx hb dL_law_643 rfl (lv_at hl 0 rfl) ?_
  refine lv_iload hx hb dL_law_644 (lv_at hl 4 rfl) ?_
  refine lv_iconst (v := 3) hx hb dL_law_646 (by decide) ?_
  refine lv_iadd hx hb dL_law_647 ?_
  refine va_sld hx hb hX hbl hbA hS v3 dL_law_648 ?_
  rw [← ea3]
  refine lv_aload_n hx hb dL_law_649 rfl (lv_at hl 0 rfl) ?_
  refine lv_iload hx hb dL_law_650 (lv_at hl 4 rfl) ?_
  refine lv_iconst (v := 4) hx hb dL_law_652 (by decide) ?_
  refine lv_iadd hx hb dL_law_653 ?_
  refine va_sld hx hb hX hbl hbA hS v4 dL_law_654 ?_
  rw [← ea4]
  refine lv_aload_n hx hb dL_law_655 rfl (lv_at hl 0 rfl) ?_
  refine lv_iload hx hb dL_law_656 (lv_at hl 4 rfl) ?_
  refine lv_iconst (v := 5) hx hb dL_law_658 (by decide) ?_
  refine lv_iadd hx hb dL_law_659 ?_
  refine va_sld hx hb hX hbl hbA hS v5 dL_law_660 ?_
  rw [← ea5]
  have hPc := hP.sub (ws' := [(h0, .inr (7, [.ref h1, .int (nI items.flatten.length), .ref h8, .ref h4])), (h8, .inr (0, [.int qs, .int qt, .int ql, .int qb, .int qr]))]) [0, 5] rfl
  have hDc := hD.sub (ws' := [(h0, .inr (7, [.ref h1, .int (nI items.flatten.length), .ref h8, .ref h4])), (h8, .inr (0, [.int qs, .int qt, .int ql, .int qb, .int qr]))]) [0, 5] (by decide) rfl
  have hKc := hK.sub (tys' := []) [] rfl
  refine wk_i (β := Nat) (ok := fun _ => True) (wc := [(h0, .inr (7, [.ref h1, .int (nI items.flatten.length), .ref h8, .ref h4])), (h8, .inr (0, [.int qs, .int qt, .int ql, .int qb, .int qr]))]) (wr := [(h1, .inl (cA, 1000, .inl f)), (h4, .inr (5, [.ref h5, .ref h6, .int isr, .int wh, .int sh])), (h5, .inr (6, [.int 1048576, .int rf, .int ra, .int rx, .int ry])), (h6, .inr (6, [.int 16384, .int kf, .int ka, .int kx, .int ky])), (m0, .inr (8, [.int cd, .int (nI items.flatten.length), .ref m1, .int md, .ref m2, .int ch, .int qs, .int qt, .int ql, .int qb, .int qr])), (m1, .inl (cB, 1000, .inl f2)), (m2, .inl (cC, 1000, .inl g2)), (ho, .inl (cL, 1, .inr (.inl go)))]) (w1 := fun x => [(h0, .inr (7, [.ref h1, .int (nI items.flatten.length), .ref x, .ref h4])), (x, .inr (0, [.int (fX9_rectangle qs qt ql qb qr a1 a2 a3 a4 a5).2.1, .int (fX9_rectangle qs qt ql qb qr a1 a2 a3 a4 a5).2.2.1, .int (fX9_rectangle qs qt ql qb qr a1 a2 a3 a4 a5).2.2.2.1, .int (fX9_rectangle qs qt ql qb qr a1 a2 a3 a4 a5).2.2.2.2.1, .int (fX9_rectangle qs qt ql qb qr a1 a2 a3 a4 a5).2.2.2.2.2]))]) (ws2 := fun x => [(h0, .inr (7, [.ref h1, .int (nI items.flatten.length), .ref x, .ref h4])), (h1, .inl (cA, 1000, .inl f)), (h4, .inr (5, [.ref h5, .ref h6, .int isr, .int wh, .int sh])), (h5, .inr (6, [.int 1048576, .int rf, .int ra, .int rx, .int ry])), (h6, .inr (6, [.int 16384, .int kf, .int ka, .int kx, .int ky])), (x, .inr (0, [.int (fX9_rectangle qs qt ql qb qr a1 a2 a3 a4 a5).2.1, .int (fX9_rectangle qs qt ql qb qr a1 a2 a3 a4 a5).2.2.1, .int (fX9_rectangle qs qt ql qb qr a1 a2 a3 a4 a5).2.2.2.1, .int (fX9_rectangle qs qt ql qb qr a1 a2 a3 a4 a5).2.2.2.2.1, .int (fX9_rectangle qs qt ql qb qr a1 a2 a3 a4 a5).2.2.2.2.2])), (m0, .inr (8, [.int cd, .int (nI items.flatten.length), .ref m1, .int md, .ref m2, .int ch, .int qs, .int qt, .int ql, .int qb, .int qr])), (m1, .inl (cB, 1000, .inl f2)), (m2, .inl (cC, 1000, .inl g2)), (ho, .inl (cL, 1, .inr (.inl go)))]) (r1 := fun _ => (fX9_rectangle qs qt ql qb qr a1 a2 a3 a4 a5).1) (va_runV (As := [.int a1, .int a2, .int a3, .int a4, .int a5]) (rest := []) ⟨hx, hb, hml, hown, hts⟩ (kX9_rectangle l D H.size h0 h8 (.ref h1) (.ref h4) (nI items.flatten.length) qs qt ql qb qr a1 a2 a3 a4 a5) (cwV 5 hts gL_law_X9_rectangle rfl rfl rfl (by decide +kernel) ⟨Nat.le_of_ble_eq_true rfl, Nat.le_of_ble_eq_true rfl⟩) ⟨Pw_blind, va_recv hKc hPc (ci := 7) (q0 := 0) rfl rfl, fun U hU hW => Pw_at hKc hPc hDc hN hU hW⟩ rfl rfl hl.1 rfl (lv_room (Nat.le_of_ble_eq_true rfl)) dL_law_661 ⟨by show cl + 1 ≤ 651793; omega, by show sl + 5 ≤ 7140724; omega⟩) hP hD hS hA [0, 5] [1, 2, 3, 4, 6, 7, 8, 9] [8, 0, 1, 2, 3, 9, 4, 5, 6, 7] rfl rfl (by decide) (by decide) (fun _ => rfl) (by decide) (fun x9 _ H locs hP hD hS => ?_)
  have hP : va_P D vwCl [(h0, .inr (7, [.ref h1, .int (nI items.flatten.length), .ref x9, .ref h4])), (h1, .inl (cA, 1000, .inl f)), (h4, .inr (5, [.ref h5, .ref h6, .int isr, .int wh, .int sh])), (h5, .inr (6, [.int 1048576, .int rf, .int ra, .int rx, .int ry])), (h6, .inr (6, [.int 16384, .int kf, .int ka, .int kx, .int ky])), (x9, .inr (0, [.int (fX9_rectangle qs qt ql qb qr a1 a2 a3 a4 a5).2.1, .int (fX9_rectangle qs qt ql qb qr a1 a2 a3 a4 a5).2.2.1, .int (fX9_rectangle qs qt ql qb qr a1 a2 a3 a4 a5).2.2.2.1, .int (fX9_rectangle qs qt ql qb qr a1 a2 a3 a4 a5).2.2.2.2.1, .int (fX9_rectangle qs qt ql qb qr a1 a2 a3 a4 a5).2.2.2.2.2])), (m0, .inr (8, [.int cd, .int (nI items.flatten.length), .ref m1, .int md, .ref m2, .int ch, .int qs, .int qt, .int ql, .int qb, .int qr])), (m1, .inl (cB, 1000, .inl f2)), (m2, .inl (cC, 1000, .inl g2)), (ho, .inl (cL, 1, .inr (.inl go)))] H := hP
  have hD : va_D A [(h0, .inr (7, [.ref h1, .int (nI items.flatten.length), .ref x9, .ref h4])), (h1, .inl (cA, 1000, .inl f)), (h4, .inr (5, [.ref h5, .ref h6, .int isr, .int wh, .int sh])), (h5, .inr (6, [.int 1048576, .int rf, .int ra, .int rx, .int ry])), (h6, .inr (6, [.int 16384, .int kf, .int ka, .int kx, .int ky])), (x9, .inr (0, [.int (fX9_rectangle qs qt ql qb qr a1 a2 a3 a4 a5).2.1, .int (fX9_rectangle qs qt ql qb qr a1 a2 a3 a4 a5).2.2.1, .int (fX9_rectangle qs qt ql qb qr a1 a2 a3 a4 a5).2.2.2.1, .int (fX9_rectangle qs qt ql qb qr a1 a2 a3 a4 a5).2.2.2.2.1, .int (fX9_rectangle qs qt ql qb qr a1 a2 a3 a4 a5).2.2.2.2.2])), (m0, .inr (8, [.int cd, .int (nI items.flatten.length), .ref m1, .int md, .ref m2, .int ch, .int qs, .int qt, .int ql, .int qb, .int qr])), (m1, .inl (cB, 1000, .inl f2)), (m2, .inl (cC, 1000, .inl g2)), (ho, .inl (cL, 1, .inr (.inl go)))] := hD
  refine W.widen (k := cl + 1) (n := sl + 5) (by omega) (by omega) ?_
  refine lv_aload_n hx hb dL_law_664 rfl (lv_at hl 2 rfl) ?_
  refine lv_aload_n hx hb dL_law_665 rfl (lv_at hl 0 rfl) ?_
  refine lv_iload hx hb dL_law_666 (lv_at hl 4 rfl) ?_
  refine lv_iconst (v := 1) hx hb dL_law_668 (by decide) ?_
  refine lv_iadd hx hb dL_law_669 ?_
  refine va_sld hx hb hX hbl hbA hS v1 dL_law_670 ?_
  rw [← ea1]
  refine lv_aload_n hx hb dL_law_671 rfl (lv_at hl 0 rfl) ?_
  refine lv_iload hx hb dL_law_672 (lv_at hl 4 rfl) ?_
  refine lv_iconst (v := 2) hx hb dL_law_674 (by decide) ?_
  refine lv_iadd hx hb dL_law_675 ?_
  refine va_sld hx hb hX hbl hbA hS v2 dL_law_676 ?_
  rw [← ea2]
  refine lv_aload_n hx hb dL_law_677 rfl (lv_at hl 0 rfl) ?_
  refine lv_iload hx hb dL_law_678 (lv_at hl 4 rfl) ?_
  refine lv_iconst (v := 3) hx hb dL_law_680 (by decide) ?_
  refine lv_iadd hx hb dL_law_681 ?_
  refine va_sld hx hb hX hbl hbA hS v3 dL_law_682 ?_
  rw [← ea3]
  refine lv_aload_n hx hb dL_law_683 rfl (lv_at hl 0 rfl) ?_
  refine lv_iload hx hb dL_law_684 (lv_at hl 4 rfl) ?_
  refine lv_iconst (v := 4) hx hb dL_law_686 (by decide) ?_
  refine lv_iadd hx hb dL_law_687 ?_
  refine va_sld hx hb hX hbl hbA hS v4 dL_law_688 ?_
  rw [← ea4]
  refine lv_aload_n hx hb dL_law_689 rfl (lv_at hl 0 rfl) ?_
  refine lv_iload hx hb dL_law_690 (lv_at hl 4 rfl) ?_
  refine lv_iconst (v := 5) hx hb dL_law_692 (by decide) ?_
  refine lv_iadd hx hb dL_law_693 ?_
  refine va_sld hx hb hX hbl hbA hS v5 dL_law_694 ?_
  rw [← ea5]
  have hPc := hP.sub (ws' := [(m0, .inr (8, [.int cd, .int (nI items.flatten.length), .ref m1, .int md, .ref m2, .int ch, .int qs, .int qt, .int ql, .int qb, .int qr])), (m1, .inl (cB, 1000, .inl f2)), (m2, .inl (cC, 1000, .inl g2))]) [6, 7, 8] rfl
  have hDc := hD.sub (ws' := [(m0, .inr (8, [.int cd, .int (nI items.flatten.length), .ref m1, .int md, .ref m2, .int ch, .int qs, .int qt, .int ql, .int qb, .int qr])), (m1, .inl (cB, 1000, .inl f2)), (m2, .inl (cC, 1000, .inl g2))]) [6, 7, 8] (by decide) rfl
  have hKc := hK.sub (tys' := [(cB, .int), (cC, .int)]) [1, 2] rfl
  refine wk_i (β := Unit) (ok := fun _ => True) (wc := [(m0, .inr (8, [.int cd, .int (nI items.flatten.length), .ref m1, .int md, .ref m2, .int ch, .int qs, .int qt, .int ql, .int qb, .int qr])), (m1, .inl (cB, 1000, .inl f2)), (m2, .inl (cC, 1000, .inl g2))]) (wr := [(h0, .inr (7, [.ref h1, .int (nI items.flatten.length), .ref x9, .ref h4])), (h1, .inl (cA, 1000, .inl f)), (h4, .inr (5, [.ref h5, .ref h6, .int isr, .int wh, .int sh])), (h5, .inr (6, [.int 1048576, .int rf, .int ra, .int rx, .int ry])), (h6, .inr (6, [.int 16384, .int kf, .int ka, .int kx, .int ky])), (x9, .inr (0, [.int (fX9_rectangle qs qt ql qb qr a1 a2 a3 a4 a5).2.1, .int (fX9_rectangle qs qt ql qb qr a1 a2 a3 a4 a5).2.2.1, .int (fX9_rectangle qs qt ql qb qr a1 a2 a3 a4 a5).2.2.2.1, .int (fX9_rectangle qs qt ql qb qr a1 a2 a3 a4 a5).2.2.2.2.1, .int (fX9_rectangle qs qt ql qb qr a1 a2 a3 a4 a5).2.2.2.2.2])), (ho, .inl (cL, 1, .inr (.inl go)))]) (w1 := fun _ => [(m0, .inr (8, [.int (fX10_rectangle qs qt ql qb qr a1 a2 a3 a4 a5).2.1, .int (nI items.flatten.length), .ref m1, .int md, .ref m2, .int ch, .int (fX10_rectangle qs qt ql qb qr a1 a2 a3 a4 a5).2.2.1, .int (fX10_rectangle qs qt ql qb qr a1 a2 a3 a4 a5).2.2.2.1, .int (fX10_rectangle qs qt ql qb qr a1 a2 a3 a4 a5).2.2.2.2.1, .int (fX10_rectangle qs qt ql qb qr a1 a2 a3 a4 a5).2.2.2.2.2.1, .int (fX10_rectangle qs qt ql qb qr a1 a2 a3 a4 a5).2.2.2.2.2.2])), (m1, .inl (cB, 1000, .inl f2)), (m2, .inl (cC, 1000, .inl g2))]) (ws2 := fun _ => [(h0, .inr (7, [.ref h1, .int (nI items.flatten.length), .ref x9, .ref h4])), (h1, .inl (cA, 1000, .inl f)), (h4, .inr (5, [.ref h5, .ref h6, .int isr, .int wh, .int sh])), (h5, .inr (6, [.int 1048576, .int rf, .int ra, .int rx, .int ry])), (h6, .inr (6, [.int 16384, .int kf, .int ka, .int kx, .int ky])), (x9, .inr (0, [.int (fX9_rectangle qs qt ql qb qr a1 a2 a3 a4 a5).2.1, .int (fX9_rectangle qs qt ql qb qr a1 a2 a3 a4 a5).2.2.1, .int (fX9_rectangle qs qt ql qb qr a1 a2 a3 a4 a5).2.2.2.1, .int (fX9_rectangle qs qt ql qb qr a1 a2 a3 a4 a5).2.2.2.2.1, .int (fX9_rectangle qs qt ql qb qr a1 a2 a3 a4 a5).2.2.2.2.2])), (m0, .inr (8, [.int (fX10_rectangle qs qt ql qb qr a1 a2 a3 a4 a5).2.1, .int (nI items.flatten.length), .ref m1, .int md, .ref m2, .int ch, .int (fX10_rectangle qs qt ql qb qr a1 a2 a3 a4 a5).2.2.1, .int (fX10_rectangle qs qt ql qb qr a1 a2 a3 a4 a5).2.2.2.1, .int (fX10_rectangle qs qt ql qb qr a1 a2 a3 a4 a5).2.2.2.2.1, .int (fX10_rectangle qs qt ql qb qr a1 a2 a3 a4 a5).2.2.2.2.2.1, .int (fX10_rectangle qs qt ql qb qr a1 a2 a3 a4 a5).2.2.2.2.2.2])), (m1, .inl (cB, 1000, .inl f2)), (m2, .inl (cC, 1000, .inl g2)), (ho, .inl (cL, 1, .inr (.inl go)))]) (r1 := fun _ => (fX10_rectangle qs qt ql qb qr a1 a2 a3 a4 a5).1) (va_runV (As := [.int a1, .int a2, .int a3, .int a4, .int a5]) (rest := [.int (fX9_rectangle qs qt ql qb qr a1 a2 a3 a4 a5).1]) ⟨hx, hb, hml, hown, hts⟩ (kX10_rectangle l D H.size m0 m1 m2 cB cC cd (nI items.flatten.length) md ch qs qt ql qb qr f2 g2 a1 a2 a3 a4 a5 ) (cwV 5 hts gL_law_X10_rectangle rfl rfl rfl (by decide +kernel) ⟨Nat.le_of_ble_eq_true rfl, Nat.le_of_ble_eq_true rfl⟩) ⟨Pw_blind, (va_recv hKc hPc (ci := 8) (q0 := 0) rfl rfl), fun U hU hW => Pw_at hKc hPc hDc hN hU hW⟩ rfl rfl hl.1 rfl (lv_room (Nat.le_of_ble_eq_true rfl)) dL_law_695 ⟨by show cl + 1 ≤ 651793; omega, by show sl + 5 ≤ 7140724; omega⟩) hP hD hS hA [6, 7, 8] [0, 1, 2, 3, 4, 5, 9] [0, 1, 2, 3, 4, 5, 7, 8, 9, 6] rfl rfl (by decide) (by decide) (fun _ => rfl) (by decide) (fun _ _ H locs hP hD hS => ?_)
  have hP : va_P D vwCl [(h0, .inr (7, [.ref h1, .int (nI items.flatten.length), .ref x9, .ref h4])), (h1, .inl (cA, 1000, .inl f)), (h4, .inr (5, [.ref h5, .ref h6, .int isr, .int wh, .int sh])), (h5, .inr (6, [.int 1048576, .int rf, .int ra, .int rx, .int ry])), (h6, .inr (6, [.int 16384, .int kf, .int ka, .int kx, .int ky])), (x9, .inr (0, [.int (fX9_rectangle qs qt ql qb qr a1 a2 a3 a4 a5).2.1, .int (fX9_rectangle qs qt ql qb qr a1 a2 a3 a4 a5).2.2.1, .int (fX9_rectangle qs qt ql qb qr a1 a2 a3 a4 a5).2.2.2.1, .int (fX9_rectangle qs qt ql qb qr a1 a2 a3 a4 a5).2.2.2.2.1, .int (fX9_rectangle qs qt ql qb qr a1 a2 a3 a4 a5).2.2.2.2.2])), (m0, .inr (8, [.int (fX10_rectangle qs qt ql qb qr a1 a2 a3 a4 a5).2.1, .int (nI items.flatten.length), .ref m1, .int md, .ref m2, .int ch, .int (fX10_rectangle qs qt ql qb qr a1 a2 a3 a4 a5).2.2.1, .int (fX10_rectangle qs qt ql qb qr a1 a2 a3 a4 a5).2.2.2.1, .int (fX10_rectangle qs qt ql qb qr a1 a2 a3 a4 a5).2.2.2.2.1, .int (fX10_rectangle qs qt ql qb qr a1 a2 a3 a4 a5).2.2.2.2.2.1, .int (fX10_rectangle qs qt ql qb qr a1 a2 a3 a4 a5).2.2.2.2.2.2])), (m1, .inl (cB, 1000, .inl f2)), (m2, .inl (cC, 1000, .inl g2)), (ho, .inl (cL, 1, .inr (.inl go)))] H := hP
  have hD : va_D A [(h0, .inr (7, [.ref h1, .int (nI items.flatten.length), .ref x9, .ref h4])), (h1, .inl (cA, 1000, .inl f)), (h4, .inr (5, [.ref h5, .ref h6, .int isr, .int wh, .int sh])), (h5, .inr (6, [.int 1048576, .int rf, .int ra, .int rx, .int ry])), (h6, .inr (6, [.int 16384, .int kf, .int ka, .int kx, .int ky])), (x9, .inr (0, [.int (fX9_rectangle qs qt ql qb qr a1 a2 a3 a4 a5).2.1, .int (fX9_rectangle qs qt ql qb qr a1 a2 a3 a4 a5).2.2.1, .int (fX9_rectangle qs qt ql qb qr a1 a2 a3 a4 a5).2.2.2.1, .int (fX9_rectangle qs qt ql qb qr a1 a2 a3 a4 a5).2.2.2.2.1, .int (fX9_rectangle qs qt ql qb qr a1 a2 a3 a4 a5).2.2.2.2.2])), (m0, .inr (8, [.int (fX10_rectangle qs qt ql qb qr a1 a2 a3 a4 a5).2.1, .int (nI items.flatten.length), .ref m1, .int md, .ref m2, .int ch, .int (fX10_rectangle qs qt ql qb qr a1 a2 a3 a4 a5).2.2.1, .int (fX10_rectangle qs qt ql qb qr a1 a2 a3 a4 a5).2.2.2.1, .int (fX10_rectangle qs qt ql qb qr a1 a2 a3 a4 a5).2.2.2.2.1, .int (fX10_rectangle qs qt ql qb qr a1 a2 a3 a4 a5).2.2.2.2.2.1, .int (fX10_rectangle qs qt ql qb qr a1 a2 a3 a4 a5).2.2.2.2.2.2])), (m1, .inl (cB, 1000, .inl f2)), (m2, .inl (cC, 1000, .inl g2)), (ho, .inl (cL, 1, .inr (.inl go)))] := hD
  refine W.widen (k := cl + 1) (n := sl + 5) (by omega) (by omega) ?_
  have e9 := (rect_rows qs qt ql qb qr a1 a2 a3 a4 a5 hR).2.1
  have hR9 := (rect_rows qs qt ql qb qr a1 a2 a3 a4 a5 hR).2.2
  refine lv_icmp_eq (tgt := 807) hx hb dL_law_698 (by decide) (fun _ => ?_) (fun c9 => absurd (rect_rows qs qt ql qb qr a1 a2 a3 a4 a5 hR).1 c9)
  rw [e9] at hP hD hR9
  refine W.widen (k := cl + 2) (n := sl + 11) (by omega) (by omega) ?_
  subst ex4
  exact KN items _ _ _ _ _ _ _ _ _ _ _ _ _ _ _ _ _ _ _ _ _ _ _ _ _ _ H locs ls hB0 hR9 hP hD hS (lv_sub hl [0, 1, 2, 3, 4] rfl)
