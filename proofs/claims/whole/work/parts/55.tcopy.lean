theorem ckl_eq (a b z u v : Int32) : fX9_checkLines a b z u v = fX10_isLine a b z u v := by
  unfold fX9_checkLines fX10_isLine
  have e1 : ∀ x, fX9_isSheet x = fX10_within x 0 7 := fun _ => rfl
  have e2 : fX9_isLine u (if z = 0 then 1048576 else 16384) = fX10_within u 1 (fX10_lines z) := rfl
  have e3 : (if v < 1 then (0 : Int32) else (if v ≤ 16384 then 1 else 0)) = if fX10_within v 1 16384 = 0 then 0 else 1 := by
    unfold fX10_within
    by_cases h1 : v < 1
    · rw [if_pos h1, if_pos h1, if_pos rfl]
    · rw [if_neg h1, if_neg h1]
      by_cases h2 : v ≤ 16384
      · rw [if_pos h2, if_neg (Int32.not_lt.mpr h2), if_neg (by decide)]
      · rw [if_neg h2, if_pos (Int32.not_le.mp h2), if_pos rfl]
  dsimp only
  rw [e1, e1, e2, e3]
theorem ckl {a b z u v : Int32} (h : fX9_checkLines a b z u v = 1) : 1 ≤ u ∧ u ≤ fX10_lines z ∧ 1 ≤ v ∧ v ≤ 16384 := by
  rw [ckl_eq] at h
  unfold fX10_isLine at h
  by_cases h1 : fX10_within a 0 7 = 0
  · rw [if_pos h1] at h; exact absurd h (by decide)
  rw [if_neg h1] at h
  by_cases h2 : fX10_within b 0 7 = 0
  · rw [if_pos h2] at h; exact absurd h (by decide)
  rw [if_neg h2] at h
  by_cases h3 : fX10_within u 1 (fX10_lines z) = 0
  · rw [if_pos h3] at h; exact absurd h (by decide)
  rw [if_neg h3] at h
  by_cases h4 : fX10_within v 1 16384 = 0
  · rw [if_pos h4] at h; exact absurd h (by decide)
  exact ⟨(wI h3).1, (wI h3).2, (wI h4).1, (wI h4).2⟩

def fX9_copy (dn : Int32) (al : Int32) : Int32 := if dn ≤ (-1048576) then 0 else (if dn < 1048576 then (if al ≤ (-16384) then 0 else (if al < 16384 then 1 else 0)) else 0)
abbrev rmX9_copy : Room := { frames := 6, cells := 1, slots := 6, locals := 134 }
abbrev qX9_copy (D : va_G) (sz : Nat) (h0 : Nat) (h1 : Nat) (h4 : Nat) (h5 : Nat) (h6 : Nat) (cA : ClassId) (x2 : Value) (f : Nat → Int32) (isr : Int32) (wh : Int32) (sh : Int32) (rf : Int32) (ra : Int32) (rx : Int32) (ry : Int32) (kf : Int32) (ka : Int32) (kx : Int32) (ky : Int32) (dn : Int32) (al : Int32) (items : List (List Int32)) : Array Value → State → Outcome → State → Prop := va_Qi (fun r_9 w_9 => ∃ x_9 : Int32 × Int32 × Int32 × Int32 × Int32 × Int32 × Int32 × Int32 × Int32 × Int32 × Int32, fX9_copy dn al = 1 ∧ r_9 = cnt (Tcp dn al) items ∧ w_9 = [(h0, .inr (7, [.ref h1, .int (nI (outs (Tcp dn al) items).length), x2, .ref h4])), (h1, .inl (cA, 1000, .inl (wr f 0 (outs (Tcp dn al) items)))), (h4, .inr (5, [.ref h5, .ref h6, .int x_9.1, .int x_9.2.1, .int x_9.2.2.1])), (h5, .inr (6, [.int 1048576, .int x_9.2.2.2.1, .int x_9.2.2.2.2.1, .int x_9.2.2.2.2.2.1, .int x_9.2.2.2.2.2.2.1])), (h6, .inr (6, [.int 16384, .int x_9.2.2.2.2.2.2.2.1, .int x_9.2.2.2.2.2.2.2.2.1, .int x_9.2.2.2.2.2.2.2.2.2.1, .int x_9.2.2.2.2.2.2.2.2.2.2]))]) (Bq D (va_A [(h0, .inr (7, [.ref h1, .int (nI items.flatten.length), x2, .ref h4])), (h1, .inl (cA, 1000, .inl f)), (h4, .inr (5, [.ref h5, .ref h6, .int isr, .int wh, .int sh])), (h5, .inr (6, [.int 1048576, .int rf, .int ra, .int rx, .int ry])), (h6, .inr (6, [.int 16384, .int kf, .int ka, .int kx, .int ky]))] sz)) (va_A [(h0, .inr (7, [.ref h1, .int (nI items.flatten.length), x2, .ref h4])), (h1, .inl (cA, 1000, .inl f)), (h4, .inr (5, [.ref h5, .ref h6, .int isr, .int wh, .int sh])), (h5, .inr (6, [.int 1048576, .int rf, .int ra, .int rx, .int ry])), (h6, .inr (6, [.int 16384, .int kf, .int ka, .int kx, .int ky]))] sz)
set_option maxHeartbeats 4000000 in
set_option maxRecDepth 100000 in
theorem kX9_copy (l : Launch) (hst : l.stackTraces = false) (D : va_G) (sz : Nat) (h0 : Nat) (h1 : Nat) (h4 : Nat) (h5 : Nat) (h6 : Nat) (cA : ClassId) (x2 : Value) (f : Nat → Int32) (isr : Int32) (wh : Int32) (sh : Int32) (rf : Int32) (ra : Int32) (rx : Int32) (ry : Int32) (kf : Int32) (ka : Int32) (kx : Int32) (ky : Int32) (dn : Int32) (al : Int32) (items : List (List Int32)) (hok : ∀ it ∈ items, okI it) (hlen : items.flatten.length ≤ 1000) (hseg : Seg f 0 items.flatten) : vx_Met l yX9_copy wsX9_copy rmX9_copy (va_Pc [.ref h0, .int dn, .int al] (Pt D [(cA, .int)] [(h0, .inr (7, [.ref h1, .int (nI items.flatten.length), x2, .ref h4])), (h1, .inl (cA, 1000, .inl f)), (h4, .inr (5, [.ref h5, .ref h6, .int isr, .int wh, .int sh])), (h5, .inr (6, [.int 1048576, .int rf, .int ra, .int rx, .int ry])), (h6, .inr (6, [.int 16384, .int kf, .int ka, .int kx, .int ky]))] sz)) (qX9_copy D sz h0 h1 h4 h5 h6 cA x2 f isr wh sh rf ra rx ry kf ka kx ky dn al items) (Xw D (va_A [(h0, .inr (7, [.ref h1, .int (nI items.flatten.length), x2, .ref h4])), (h1, .inl (cA, 1000, .inl f)), (h4, .inr (5, [.ref h5, .ref h6, .int isr, .int wh, .int sh])), (h5, .inr (6, [.int 1048576, .int rf, .int ra, .int rx, .int ry])), (h6, .inr (6, [.int 16384, .int kf, .int ka, .int kx, .int ky]))] sz) [(h0, .inr (7, [.ref h1, .int (nI items.flatten.length), x2, .ref h4])), (h1, .inl (cA, 1000, .inl f)), (h4, .inr (5, [.ref h5, .ref h6, .int isr, .int wh, .int sh])), (h5, .inr (6, [.int 1048576, .int rf, .int ra, .int rx, .int ry])), (h6, .inr (6, [.int 16384, .int kf, .int ka, .int kx, .int ky]))] ((fX9_copy dn al) = 0)) 1 6 (va_A [(h0, .inr (7, [.ref h1, .int (nI items.flatten.length), x2, .ref h4])), (h1, .inl (cA, 1000, .inl f)), (h4, .inr (5, [.ref h5, .ref h6, .int isr, .int wh, .int sh])), (h5, .inr (6, [.int 1048576, .int rf, .int ra, .int rx, .int ry])), (h6, .inr (6, [.int 16384, .int kf, .int ka, .int kx, .int ky]))] sz) := by
  refine vx_ofW (cc := cX9_copy) (maxL := 3) (ret := (some .int)) (by decide) rfl ?_
  intro p e s m args below meth c s₁ B hml hout hv
  obtain ⟨hargs, ⟨hsz, hP, hK, hD0, hN⟩, hT, z1, z2⟩ := hv
  have hx := B.exec
  have hb := B.bytes
  have hr := B.returns
  have hts := atoms_spec (ws := wsX9_copy) B.pre
  have hflt : ∀ w ∈ (vx_atS RX9 67 IAE thN).filter goodWord, w.before args s = true := fun w h => hts w (List.mem_cons_of_mem _ (List.mem_append_right _ h))
  have hown : s.vm.findClass RX9 = some m.cls := findClass_of_methodNamed B.named
  have hlocks := B.notSynchronized
  subst hsz
  obtain ⟨A, hAe⟩ : ∃ A, A = va_A [(h0, .inr (7, [.ref h1, .int (nI items.flatten.length), x2, .ref h4])), (h1, .inl (cA, 1000, .inl f)), (h4, .inr (5, [.ref h5, .ref h6, .int isr, .int wh, .int sh])), (h5, .inr (6, [.int 1048576, .int rf, .int ra, .int rx, .int ry])), (h6, .inr (6, [.int 16384, .int kf, .int ka, .int kx, .int ky]))] s.heap.size := ⟨_, rfl⟩
  have hD : va_D A [(h0, .inr (7, [.ref h1, .int (nI items.flatten.length), x2, .ref h4])), (h1, .inl (cA, 1000, .inl f)), (h4, .inr (5, [.ref h5, .ref h6, .int isr, .int wh, .int sh])), (h5, .inr (6, [.int 1048576, .int rf, .int ra, .int rx, .int ry])), (h6, .inr (6, [.int 16384, .int kf, .int ka, .int kx, .int ky]))] := by rw [hAe]; exact hD0.self
  have hA : ∀ q : Nat, s.heap.size ≤ q → A q := by rw [hAe]; exact mo_A
  have z1 : ZU A s s.heap := by rw [hAe]; exact z1
  have z2 : ZN A s s.heap := by rw [hAe]; exact z2
  have hfr : ∀ q, A q → (va_A [(h0, .inr (7, [.ref h1, .int (nI items.flatten.length), x2, .ref h4])), (h1, .inl (cA, 1000, .inl f)), (h4, .inr (5, [.ref h5, .ref h6, .int isr, .int wh, .int sh])), (h5, .inr (6, [.int 1048576, .int rf, .int ra, .int rx, .int ry])), (h6, .inr (6, [.int 16384, .int kf, .int ka, .int kx, .int ky]))] s.heap.size) q := fun q h => hAe ▸ h
  obtain ⟨Q, hQe⟩ : ∃ Q, Q = vx_MQ below (qX9_copy D s.heap.size h0 h1 h4 h5 h6 cA x2 f isr wh sh rf ra rx ry kf ka kx ky dn al items) (Xw D A [(h0, .inr (7, [.ref h1, .int (nI items.flatten.length), x2, .ref h4])), (h1, .inl (cA, 1000, .inl f)), (h4, .inr (5, [.ref h5, .ref h6, .int isr, .int wh, .int sh])), (h5, .inr (6, [.int 1048576, .int rf, .int ra, .int rx, .int ry])), (h6, .inr (6, [.int 16384, .int kf, .int ka, .int kx, .int ky]))] ((fX9_copy dn al) = 0)) args s 1 6 (va_A [(h0, .inr (7, [.ref h1, .int (nI items.flatten.length), x2, .ref h4])), (h1, .inl (cA, 1000, .inl f)), (h4, .inr (5, [.ref h5, .ref h6, .int isr, .int wh, .int sh])), (h5, .inr (6, [.int 1048576, .int rf, .int ra, .int rx, .int ry])), (h6, .inr (6, [.int 16384, .int kf, .int ka, .int kx, .int ky]))] s.heap.size) := ⟨_, rfl⟩
  have hQ2 : vx_MQ below (qX9_copy D s.heap.size h0 h1 h4 h5 h6 cA x2 f isr wh sh rf ra rx ry kf ka kx ky dn al items) (Xw D (va_A [(h0, .inr (7, [.ref h1, .int (nI items.flatten.length), x2, .ref h4])), (h1, .inl (cA, 1000, .inl f)), (h4, .inr (5, [.ref h5, .ref h6, .int isr, .int wh, .int sh])), (h5, .inr (6, [.int 1048576, .int rf, .int ra, .int rx, .int ry])), (h6, .inr (6, [.int 16384, .int kf, .int ka, .int kx, .int ky]))] s.heap.size) [(h0, .inr (7, [.ref h1, .int (nI items.flatten.length), x2, .ref h4])), (h1, .inl (cA, 1000, .inl f)), (h4, .inr (5, [.ref h5, .ref h6, .int isr, .int wh, .int sh])), (h5, .inr (6, [.int 1048576, .int rf, .int ra, .int rx, .int ry])), (h6, .inr (6, [.int 16384, .int kf, .int ka, .int kx, .int ky]))] ((fX9_copy dn al) = 0)) args s 1 6 (va_A [(h0, .inr (7, [.ref h1, .int (nI items.flatten.length), x2, .ref h4])), (h1, .inl (cA, 1000, .inl f)), (h4, .inr (5, [.ref h5, .ref h6, .int isr, .int wh, .int sh])), (h5, .inr (6, [.int 1048576, .int rf, .int ra, .int rx, .int ry])), (h6, .inr (6, [.int 16384, .int kf, .int ka, .int kx, .int ky]))] s.heap.size) = Q := by rw [hQe, hAe]
  rw [hQ2]
  have hS : va_S A s.heap s.heap [] := va_S.rf
  obtain ⟨H, hHe⟩ : ∃ H, H = s.heap := ⟨_, rfl⟩
  obtain ⟨locs, hLe⟩ : ∃ L : List Loc, L = [] := ⟨_, rfl⟩
  have hP : va_P D vwCl [(h0, .inr (7, [.ref h1, .int (nI items.flatten.length), x2, .ref h4])), (h1, .inl (cA, 1000, .inl f)), (h4, .inr (5, [.ref h5, .ref h6, .int isr, .int wh, .int sh])), (h5, .inr (6, [.int 1048576, .int rf, .int ra, .int rx, .int ry])), (h6, .inr (6, [.int 16384, .int kf, .int ka, .int kx, .int ky]))] H := by rw [hHe]; exact hP
  have hS : va_S A s.heap H locs := by rw [hHe, hLe]; exact hS
  have hl := lv_entry ([.ref h0, .int dn, .int al]) (n := 3) (Nat.le_of_ble_eq_true rfl)
  rw [show entryFrame m args 3 = entryFrame m (([.ref h0, .int dn, .int al] : List Value).toArray) 3 by rw [hargs], lg_entry_eq]
  generalize (lg_sl ([.ref h0, .int dn, .int al]) ++ List.replicate (3 - (lg_sl ([.ref h0, .int dn, .int al])).length) Slot.unset).toArray = ls at hl ⊢
  have hl : lv_has ls 3 [(0, .ref h0), (1, .int dn), (2, .int al)] := hl
  refine hStart hHe hLe ?_
  clear hHe hLe hQ2
  have k_62 := hts (.constant RX9 62 (-1048576)) (by decide +kernel)
  have k_48 := hts (.constant RX9 48 (1048576)) (by decide +kernel)
  have w_X2 : ∀ w ∈ wsX20, w ∈ wsX9_copy := by decide +kernel
  have cl_72 := hts (.classLink RX9 72 RX2) (by decide +kernel)
  have is_X2 := hts (.instantiable RX2 2) (by decide +kernel)
  have in_RX2 := hts (.initialized RX2) (by decide +kernel)
  have ml_74 := hts (.methodLink RX9 74 yX2_init) (by decide +kernel)
  have im_yX2_init := hts (.instanceMethod yX2_init) (by decide +kernel)
  refine lv_iload_n hx hb dX9_copy_0 rfl (lv_at hl 1 rfl) ?_
  refine lv_ldc (v := (-1048576)) hx hb hown k_62 dX9_copy_1 ?_
  refine lv_icmp_le (tgt := 12) hx hb dX9_copy_3 (by decide) (fun c3 => ?_) (fun c3 => ?_)
  · have hF : (fX9_copy dn al) = 0 := by exact (if_pos c3)
    obtain ⟨sa, hsa⟩ := hT.2.2.2.2.1
    subst hQe
    exact vx_throwS (names := thN) (cls := IAE) hx hb hst hown (by decide) (by decide) (hts (.classLink RX9 63 IAE) (by decide +kernel)) (hts (.initialized IAE) (by decide +kernel)) hsa (thr_hat hflt hT) thr_good z1 z2 hS (by rw [hml]; exact hl.1) dX9_copy_12 dX9_copy_15 dX9_copy_16 dX9_copy_18 dX9_copy_21 (fun x h => (hout x h).elim) (Nat.le_of_ble_eq_true rfl) (Nat.le_of_ble_eq_true rfl) (show 1 ≤ 1 by decide) (show 6 ≤ 6 by decide) hlocks (Xw_throw hF hP hD hS) (fun z h => hfr _ (hS.2.2 z h)) (by decide) (by decide)
  · refine lv_iload_n hx hb dX9_copy_6 rfl (lv_at hl 1 rfl) ?_
    refine lv_ldc (v := 1048576) hx hb hown k_48 dX9_copy_7 ?_
    refine lv_icmp_lt (tgt := 22) hx hb dX9_copy_9 (by decide) (fun c9 => ?_) (fun c9 => ?_)
    · refine lv_iload_n hx hb dX9_copy_22 rfl (lv_at hl 2 rfl) ?_
      refine lv_sipush (v := (-16384)) hx hb dX9_copy_23 (by decide) ?_
      refine lv_icmp_le (tgt := 36) hx hb dX9_copy_26 (by decide) (fun c26 => ?_) (fun c26 => ?_)
      · have hF : (fX9_copy dn al) = 0 := by exact ((if_neg c3).trans ((if_pos c9).trans (if_pos c26)))
        obtain ⟨sa, hsa⟩ := hT.2.2.2.2.2.1
        subst hQe
        exact vx_throwS (names := thN) (cls := IAE) hx hb hst hown (by decide) (by decide) (hts (.classLink RX9 63 IAE) (by decide +kernel)) (hts (.initialized IAE) (by decide +kernel)) hsa (thr_hat hflt hT) thr_good z1 z2 hS (by rw [hml]; exact hl.1) dX9_copy_36 dX9_copy_39 dX9_copy_40 dX9_copy_42 dX9_copy_45 (fun x h => (hout x h).elim) (Nat.le_of_ble_eq_true rfl) (Nat.le_of_ble_eq_true rfl) (show 1 ≤ 1 by decide) (show 6 ≤ 6 by decide) hlocks (Xw_throw hF hP hD hS) (fun z h => hfr _ (hS.2.2 z h)) (by decide) (by decide)
      · refine lv_iload_n hx hb dX9_copy_29 rfl (lv_at hl 2 rfl) ?_
        refine lv_sipush (v := 16384) hx hb dX9_copy_30 (by decide) ?_
        refine lv_icmp_lt (tgt := 46) hx hb dX9_copy_33 (by decide) (fun c33 => ?_) (fun c33 => ?_)
        · refine lv_aload_n hx hb dX9_copy_46 rfl (lv_at hl 0 rfl) ?_
          refine va_new (ci := 1) (fs := [.int 0, .int 0]) (C := RX2) (T := TX2) (N := 2) hx hb hts w_X2 tyX2 tyX2_ok hown cl_72 is_X2 in_RX2 hK hP hD hS hA rfl (fun j hj => by rcases (show j = 0 ∨ j = 1 by omega) with rfl | rfl <;> rfl) (show 1 ≤ 1 by decide) (show 2 ≤ 6 by decide) dX9_copy_47 (fun q47 H hP hD hS => ?_)
          have hP : va_P D vwCl [(h0, .inr (7, [.ref h1, .int (nI items.flatten.length), x2, .ref h4])), (h1, .inl (cA, 1000, .inl f)), (h4, .inr (5, [.ref h5, .ref h6, .int isr, .int wh, .int sh])), (h5, .inr (6, [.int 1048576, .int rf, .int ra, .int rx, .int ry])), (h6, .inr (6, [.int 16384, .int kf, .int ka, .int kx, .int ky])), (q47, .inr (1, [.int 0, .int 0]))] H := hP
          have hD : va_D A [(h0, .inr (7, [.ref h1, .int (nI items.flatten.length), x2, .ref h4])), (h1, .inl (cA, 1000, .inl f)), (h4, .inr (5, [.ref h5, .ref h6, .int isr, .int wh, .int sh])), (h5, .inr (6, [.int 1048576, .int rf, .int ra, .int rx, .int ry])), (h6, .inr (6, [.int 16384, .int kf, .int ka, .int kx, .int ky])), (q47, .inr (1, [.int 0, .int 0]))] := hD
          refine W.widen (k := 1) (n := 2) (by omega) (by omega) ?_
          refine lv_dup hx hb dX9_copy_50 rfl ?_
          refine lv_iload_n hx hb dX9_copy_51 rfl (lv_at hl 1 rfl) ?_
          refine lv_iload_n hx hb dX9_copy_52 rfl (lv_at hl 2 rfl) ?_
          have hPc := hP.sub (ws' := [(q47, .inr (1, [.int 0, .int 0]))]) [5] rfl
          have hDc := hD.sub (ws' := [(q47, .inr (1, [.int 0, .int 0]))]) [5] (by decide) rfl
          have hKc := hK.sub (tys' := []) [] rfl
          refine wk_v (β := Unit) (ok := fun _ => True) (wc := [(q47, .inr (1, [.int 0, .int 0]))]) (wr := [(h0, .inr (7, [.ref h1, .int (nI items.flatten.length), x2, .ref h4])), (h1, .inl (cA, 1000, .inl f)), (h4, .inr (5, [.ref h5, .ref h6, .int isr, .int wh, .int sh])), (h5, .inr (6, [.int 1048576, .int rf, .int ra, .int rx, .int ry])), (h6, .inr (6, [.int 16384, .int kf, .int ka, .int kx, .int ky]))]) (w1 := fun _ => [(q47, .inr (1, [.int dn, .int al]))]) (ws2 := fun _ => [(h0, .inr (7, [.ref h1, .int (nI items.flatten.length), x2, .ref h4])), (h1, .inl (cA, 1000, .inl f)), (h4, .inr (5, [.ref h5, .ref h6, .int isr, .int wh, .int sh])), (h5, .inr (6, [.int 1048576, .int rf, .int ra, .int rx, .int ry])), (h6, .inr (6, [.int 16384, .int kf, .int ka, .int kx, .int ky])), (q47, .inr (1, [.int dn, .int al]))]) (va_runI (As := [.int dn, .int al]) (rest := [.ref q47, .ref h0]) ⟨hx, hb, hml, hown, hts⟩ (kX2_init l D H.size q47 0 0 dn al ) (cwI 2 hts gX9_copy_X2_init rfl rfl rfl in_RX2 ml_74 im_yX2_init rfl (by decide +kernel) ⟨Nat.le_of_ble_eq_true rfl, Nat.le_of_ble_eq_true rfl⟩) ⟨Pw_blind, fun U hU hW => Pw_at hKc hPc hDc hN hU hW⟩ rfl rfl hl.1 rfl (lv_room (Nat.le_of_ble_eq_true rfl)) dX9_copy_53 ⟨show 1 ≤ 1 by decide, show 2 ≤ 6 by decide⟩) hP hD hS hA [5] [0, 1, 2, 3, 4] [0, 1, 2, 3, 4, 5] rfl rfl (by decide) (by decide) (fun _ => rfl) (by decide) (fun _ _ H locs hP hD hS => ?_)
          have hP : va_P D vwCl [(h0, .inr (7, [.ref h1, .int (nI items.flatten.length), x2, .ref h4])), (h1, .inl (cA, 1000, .inl f)), (h4, .inr (5, [.ref h5, .ref h6, .int isr, .int wh, .int sh])), (h5, .inr (6, [.int 1048576, .int rf, .int ra, .int rx, .int ry])), (h6, .inr (6, [.int 16384, .int kf, .int ka, .int kx, .int ky])), (q47, .inr (1, [.int dn, .int al]))] H := hP
          have hD : va_D A [(h0, .inr (7, [.ref h1, .int (nI items.flatten.length), x2, .ref h4])), (h1, .inl (cA, 1000, .inl f)), (h4, .inr (5, [.ref h5, .ref h6, .int isr, .int wh, .int sh])), (h5, .inr (6, [.int 1048576, .int rf, .int ra, .int rx, .int ry])), (h6, .inr (6, [.int 16384, .int kf, .int ka, .int kx, .int ky])), (q47, .inr (1, [.int dn, .int al]))] := hD
          refine W.widen (k := 1) (n := 2) (by omega) (by omega) ?_
          have hPc := hP.sub (ws' := [(h0, .inr (7, [.ref h1, .int (nI items.flatten.length), x2, .ref h4])), (h1, .inl (cA, 1000, .inl f)), (h4, .inr (5, [.ref h5, .ref h6, .int isr, .int wh, .int sh])), (h5, .inr (6, [.int 1048576, .int rf, .int ra, .int rx, .int ry])), (h6, .inr (6, [.int 16384, .int kf, .int ka, .int kx, .int ky])), (q47, .inr (1, [.int dn, .int al]))]) [0, 1, 2, 3, 4, 5] rfl
          have hDc := hD.sub (ws' := [(h0, .inr (7, [.ref h1, .int (nI items.flatten.length), x2, .ref h4])), (h1, .inl (cA, 1000, .inl f)), (h4, .inr (5, [.ref h5, .ref h6, .int isr, .int wh, .int sh])), (h5, .inr (6, [.int 1048576, .int rf, .int ra, .int rx, .int ry])), (h6, .inr (6, [.int 16384, .int kf, .int ka, .int kx, .int ky])), (q47, .inr (1, [.int dn, .int al]))]) [0, 1, 2, 3, 4, 5] (by decide) rfl
          have hKc := hK.sub (tys' := [(cA, .int)]) [0] rfl
          refine wk_i (β := Int32 × Int32 × Int32 × Int32 × Int32 × Int32 × Int32 × Int32 × Int32 × Int32 × Int32) (ok := fun _ => True) (wc := [(h0, .inr (7, [.ref h1, .int (nI items.flatten.length), x2, .ref h4])), (h1, .inl (cA, 1000, .inl f)), (h4, .inr (5, [.ref h5, .ref h6, .int isr, .int wh, .int sh])), (h5, .inr (6, [.int 1048576, .int rf, .int ra, .int rx, .int ry])), (h6, .inr (6, [.int 16384, .int kf, .int ka, .int kx, .int ky])), (q47, .inr (1, [.int dn, .int al]))]) (wr := []) (w1 := fun x => [(h0, .inr (7, [.ref h1, .int (nI (outs (Tcp dn al) items).length), x2, .ref h4])), (h1, .inl (cA, 1000, .inl (wr f 0 (outs (Tcp dn al) items)))), (h4, .inr (5, [.ref h5, .ref h6, .int x.1, .int x.2.1, .int x.2.2.1])), (h5, .inr (6, [.int 1048576, .int x.2.2.2.1, .int x.2.2.2.2.1, .int x.2.2.2.2.2.1, .int x.2.2.2.2.2.2.1])), (h6, .inr (6, [.int 16384, .int x.2.2.2.2.2.2.2.1, .int x.2.2.2.2.2.2.2.2.1, .int x.2.2.2.2.2.2.2.2.2.1, .int x.2.2.2.2.2.2.2.2.2.2])), (q47, .inr (1, [.int dn, .int al]))]) (ws2 := fun x => [(h0, .inr (7, [.ref h1, .int (nI (outs (Tcp dn al) items).length), x2, .ref h4])), (h1, .inl (cA, 1000, .inl (wr f 0 (outs (Tcp dn al) items)))), (h4, .inr (5, [.ref h5, .ref h6, .int x.1, .int x.2.1, .int x.2.2.1])), (h5, .inr (6, [.int 1048576, .int x.2.2.2.1, .int x.2.2.2.2.1, .int x.2.2.2.2.2.1, .int x.2.2.2.2.2.2.1])), (h6, .inr (6, [.int 16384, .int x.2.2.2.2.2.2.2.1, .int x.2.2.2.2.2.2.2.2.1, .int x.2.2.2.2.2.2.2.2.2.1, .int x.2.2.2.2.2.2.2.2.2.2])), (q47, .inr (1, [.int dn, .int al]))]) (r1 := fun _ => (cnt (Tcp dn al) items)) (va_runV (As := [.ref q47]) (rest := []) ⟨hx, hb, hml, hown, hts⟩ (kX9_changeReferences_cp l D H.size h0 h1 h4 h5 h6 cA x2 f isr wh sh rf ra rx ry kf ka kx ky q47 dn al items (by assumption) (by assumption) (by assumption) (fun it h => ⟨hok it h, (Tcp_ok (hok it h)).2⟩)) (cwV 1 hts gX9_copy_X9_changeReferences rfl rfl rfl (by decide +kernel) ⟨Nat.le_of_ble_eq_true rfl, Nat.le_of_ble_eq_true rfl⟩) ⟨Pw_blind, (va_recv hKc hPc (ci := 7) (q0 := 0) rfl rfl), fun U hU hW => Pw_at hKc hPc hDc hN hU hW⟩ rfl rfl hl.1 rfl (lv_room (Nat.le_of_ble_eq_true rfl)) dX9_copy_56 ⟨show 1 ≤ 1 by decide, show 2 ≤ 6 by decide⟩) hP hD hS hA [0, 1, 2, 3, 4, 5] [] [0, 1, 2, 3, 4, 5] rfl rfl (by decide) (by decide) (fun _ => rfl) (by decide) (fun x _ H locs hP hD hS => ?_)
          obtain ⟨y56_0, y56_1, y56_2, y56_3, y56_4, y56_5, y56_6, y56_7, y56_8, y56_9, y56_10⟩ := x
          have hP : va_P D vwCl [(h0, .inr (7, [.ref h1, .int (nI (outs (Tcp dn al) items).length), x2, .ref h4])), (h1, .inl (cA, 1000, .inl (wr f 0 (outs (Tcp dn al) items)))), (h4, .inr (5, [.ref h5, .ref h6, .int y56_0, .int y56_1, .int y56_2])), (h5, .inr (6, [.int 1048576, .int y56_3, .int y56_4, .int y56_5, .int y56_6])), (h6, .inr (6, [.int 16384, .int y56_7, .int y56_8, .int y56_9, .int y56_10])), (q47, .inr (1, [.int dn, .int al]))] H := hP
          have hD : va_D A [(h0, .inr (7, [.ref h1, .int (nI (outs (Tcp dn al) items).length), x2, .ref h4])), (h1, .inl (cA, 1000, .inl (wr f 0 (outs (Tcp dn al) items)))), (h4, .inr (5, [.ref h5, .ref h6, .int y56_0, .int y56_1, .int y56_2])), (h5, .inr (6, [.int 1048576, .int y56_3, .int y56_4, .int y56_5, .int y56_6])), (h6, .inr (6, [.int 16384, .int y56_7, .int y56_8, .int y56_9, .int y56_10])), (q47, .inr (1, [.int dn, .int al]))] := hD
          refine W.widen (k := 1) (n := 2) (by omega) (by omega) ?_
          have hF : (fX9_copy dn al) = 1 := by exact ((if_neg c3).trans ((if_pos c9).trans ((if_neg c26).trans (if_pos c33))))
          subst hAe
          subst hQe
          have hP := hP.sub (ws' := [(h0, .inr (7, [.ref h1, .int (nI (outs (Tcp dn al) items).length), x2, .ref h4])), (h1, .inl (cA, 1000, .inl (wr f 0 (outs (Tcp dn al) items)))), (h4, .inr (5, [.ref h5, .ref h6, .int y56_0, .int y56_1, .int y56_2])), (h5, .inr (6, [.int 1048576, .int y56_3, .int y56_4, .int y56_5, .int y56_6])), (h6, .inr (6, [.int 16384, .int y56_7, .int y56_8, .int y56_9, .int y56_10]))]) [0, 1, 2, 3, 4] rfl
          have hD := hD.sub (ws' := [(h0, .inr (7, [.ref h1, .int (nI (outs (Tcp dn al) items).length), x2, .ref h4])), (h1, .inl (cA, 1000, .inl (wr f 0 (outs (Tcp dn al) items)))), (h4, .inr (5, [.ref h5, .ref h6, .int y56_0, .int y56_1, .int y56_2])), (h5, .inr (6, [.int 1048576, .int y56_3, .int y56_4, .int y56_5, .int y56_6])), (h6, .inr (6, [.int 16384, .int y56_7, .int y56_8, .int y56_9, .int y56_10]))]) [0, 1, 2, 3, 4] (by decide) rfl
          refine W.widen (k := 1) (n := 6) (by decide) (by decide) ?_
          exact vx_ret (W.iret (v := (cnt (Tcp dn al) items)) hx hb hr (fun t ht hW => ⟨⟨_, _, rfl, ⟨(y56_0, y56_1, y56_2, y56_3, y56_4, y56_5, y56_6, y56_7, y56_8, y56_9, y56_10), hF, rfl, rfl⟩, by rw [ht]; exact hP, hD⟩, hS.F ht⟩) hS.2.2 dX9_copy_59)
        · have hF : (fX9_copy dn al) = 0 := by exact ((if_neg c3).trans ((if_pos c9).trans ((if_neg c26).trans (if_neg c33))))
          obtain ⟨sa, hsa⟩ := hT.2.2.2.2.2.1
          subst hQe
          exact vx_throwS (names := thN) (cls := IAE) hx hb hst hown (by decide) (by decide) (hts (.classLink RX9 63 IAE) (by decide +kernel)) (hts (.initialized IAE) (by decide +kernel)) hsa (thr_hat hflt hT) thr_good z1 z2 hS (by rw [hml]; exact hl.1) dX9_copy_36 dX9_copy_39 dX9_copy_40 dX9_copy_42 dX9_copy_45 (fun x h => (hout x h).elim) (Nat.le_of_ble_eq_true rfl) (Nat.le_of_ble_eq_true rfl) (show 1 ≤ 1 by decide) (show 6 ≤ 6 by decide) hlocks (Xw_throw hF hP hD hS) (fun z h => hfr _ (hS.2.2 z h)) (by decide) (by decide)
    · have hF : (fX9_copy dn al) = 0 := by exact ((if_neg c3).trans (if_neg c9))
      obtain ⟨sa, hsa⟩ := hT.2.2.2.2.1
      subst hQe
      exact vx_throwS (names := thN) (cls := IAE) hx hb hst hown (by decide) (by decide) (hts (.classLink RX9 63 IAE) (by decide +kernel)) (hts (.initialized IAE) (by decide +kernel)) hsa (thr_hat hflt hT) thr_good z1 z2 hS (by rw [hml]; exact hl.1) dX9_copy_12 dX9_copy_15 dX9_copy_16 dX9_copy_18 dX9_copy_21 (fun x h => (hout x h).elim) (Nat.le_of_ble_eq_true rfl) (Nat.le_of_ble_eq_true rfl) (show 1 ≤ 1 by decide) (show 6 ≤ 6 by decide) hlocks (Xw_throw hF hP hD hS) (fun z h => hfr _ (hS.2.2 z h)) (by decide) (by decide)
