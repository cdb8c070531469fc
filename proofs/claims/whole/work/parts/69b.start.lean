set_option maxHeartbeats 4000000 in
set_option maxRecDepth 100000 in
/-- from the entry, for every script of at most 3584 ints, the law comes to its end with true -/
theorem whole_start {p : Program} {e : Env} {s : State} {m : MethodId} {below : List Frame} {meth : Method} {c : Code} (l : Launch) (hst : l.stackTraces = false) {b L : Nat} {xs : Nat → Int32} (hL : L ≤ 3584) (C0 : lw_At p s m meth c b L xs) : W p l e room_1 s m #[Value.ref b] below meth c s.heap [] 0 0 (lw_Z below #[Value.ref b] s) (entryFrame m ([Value.ref b] : List Value).toArray 7) := by
  obtain ⟨hx, hb, hr, hml, hown, hts0, hX, hbl, hlocks, hgv⟩ := id C0
  have hts : ∀ w ∈ wsL_law, w.before #[Value.ref b] s = true := fun w h => hts0 w (wsL_law_in w h)
  have hown : s.vm.findClass RL = some m.cls := hown
  obtain ⟨D, hKn⟩ := st_known hts0
  have hN := st_nest hts0
  have hT := st_thr hts0
  obtain ⟨A, hAe⟩ : ∃ A : Nat → Prop, A = fun q : Nat => s.heap.size ≤ q := ⟨_, rfl⟩
  have hA : ∀ q : Nat, s.heap.size ≤ q → A q := by rw [hAe]; exact fun _ h => h
  have hAc : ∀ q : Nat, A q → s.heap.size ≤ q := by rw [hAe]; exact fun _ h => h
  have hbA : ¬ A b := fun h => Nat.not_le.mpr hbl (hAc _ h)
  have z1 : ZU A s s.heap := st_ZU hts0 hgv (fun a h q => Nat.not_le.mpr h (hAc _ q))
  have z2 : ZN A s s.heap := st_ZN hts0 hgv (fun a h q => Nat.not_le.mpr h (hAc _ q))
  have hS : va_S A s.heap s.heap [] := va_S.rf
  have hK : va_K D vwCl [] s := ⟨hKn, fun k q h => by simp at h⟩
  have hP : va_P D vwCl [] s.heap := fun k q h => by simp at h
  have hD : va_D A [] := ⟨fun i j p q h => by simp at h, fun k q h => by simp at h⟩
  have hl := lv_entry ([.ref b]) (n := 7) (Nat.le_of_ble_eq_true rfl)
  rw [lg_entry_eq]
  generalize (lg_sl ([.ref b]) ++ List.replicate (7 - (lg_sl ([.ref b])).length) Slot.unset).toArray = ls at hl ⊢
  have hl : lv_has ls 7 [(0, .ref b)] := hl
  refine va_new (ci := 7) (fs := [.null, .int 0, .null, .null]) (C := RX9) (T := TX9) (N := 4) hx hb hts0 inX9 tyX9 tyX9_ok hown (tb_at hts0 39 (by decide +kernel)) (tb_at hts0 40 (by decide +kernel)) (tb_at hts0 23 (by decide +kernel)) hK hP hD hS hA rfl (fun j hj => by rcases (show j = 0 ∨ j = 1 ∨ j = 2 ∨ j = 3 by omega) with rfl | rfl | rfl | rfl <;> rfl) (show 1 ≤ 651793 by decide) (show 4 ≤ 7140724 by decide) dL_law_0 (fun h0 H hP hD hS => ?_)
  have hP : va_P D vwCl [(h0, .inr (7, [.null, .int 0, .null, .null]))] H := hP
  have hD : va_D A [(h0, .inr (7, [.null, .int 0, .null, .null]))] := hD
  refine W.widen (k := 1) (n := 4) (by omega) (by omega) ?_
  refine lv_dup hx hb dL_law_3 rfl ?_
  have hPc := hP.sub (ws' := [(h0, .inr (7, [.null, .int 0, .null, .null]))]) [0] rfl
  have hDc := hD.sub (ws' := [(h0, .inr (7, [.null, .int 0, .null, .null]))]) [0] (by decide) rfl
  have hKc := hK.sub (tys' := []) [] rfl
  have hFc := va_free (wc := [(h0, .inr (7, [.null, .int 0, .null, .null]))]) hD hS hA [0] rfl
  refine va_callv (va_runI (As := []) (rest := [.ref h0]) ⟨hx, hb, hml, hown, hts⟩ (kX9_init l D H.size h0) (cwI 0 hts gL_law_X9_init rfl rfl rfl (tb_at hts0 23 (by decide +kernel)) (tb_at hts0 41 (by decide +kernel)) (tb_at hts0 42 (by decide +kernel)) rfl (by decide +kernel) ⟨Nat.le_of_ble_eq_true rfl, Nat.le_of_ble_eq_true rfl⟩) ⟨Pw_blind, fun U hU hW => Pw_at hKc hPc hDc hN hU hW⟩ rfl rfl hl.1 rfl (lv_room (Nat.le_of_ble_eq_true rfl)) dL_law_4 ⟨show 6 ≤ 651793 by decide, show 1024 ≤ 7140724 by decide⟩) hS (fun q _ h => hFc q h) hFc (fun u t H1 locs ht hvm hw hB hz1 hk1 hS => ?_)
  obtain ⟨cA, h1, h8, h4, h5, h6⟩ := u
  obtain ⟨hP1, hK1, hD1⟩ := hB
  rw [ht] at hP1
  have hK1 := va_K.moved hvm.symm hK1
  obtain ⟨hP, hD⟩ := va_join (wr := []) (w1 := [(h0, .inr (7, [.ref h1, .int 0, .ref h8, .ref h4])), (h1, .inl (cA, 1000, .inl (fun _ => 0))), (h8, .inr (0, [.int 0, .int 1, .int 1, .int 1, .int 1])), (h4, .inr (5, [.ref h5, .ref h6, .int 0, .int 0, .int 0])), (h5, .inr (6, [.int 1048576, .int 0, .int 0, .int 0, .int 0])), (h6, .inr (6, [.int 16384, .int 0, .int 0, .int 0, .int 0]))]) hP hD [0] [] rfl rfl (by decide) (by decide) hk1 hFc hP1 hD1
  have hK := (hK.sub (tys' := []) [] rfl).app hK1
  generalize H1 = H at hP hS ⊢
  have hP : va_P D vwCl [(h0, .inr (7, [.ref h1, .int 0, .ref h8, .ref h4])), (h1, .inl (cA, 1000, .inl (fun _ => 0))), (h8, .inr (0, [.int 0, .int 1, .int 1, .int 1, .int 1])), (h4, .inr (5, [.ref h5, .ref h6, .int 0, .int 0, .int 0])), (h5, .inr (6, [.int 1048576, .int 0, .int 0, .int 0, .int 0])), (h6, .inr (6, [.int 16384, .int 0, .int 0, .int 0, .int 0]))] H := hP
  have hD : va_D A [(h0, .inr (7, [.ref h1, .int 0, .ref h8, .ref h4])), (h1, .inl (cA, 1000, .inl (fun _ => 0))), (h8, .inr (0, [.int 0, .int 1, .int 1, .int 1, .int 1])), (h4, .inr (5, [.ref h5, .ref h6, .int 0, .int 0, .int 0])), (h5, .inr (6, [.int 1048576, .int 0, .int 0, .int 0, .int 0])), (h6, .inr (6, [.int 16384, .int 0, .int 0, .int 0, .int 0]))] := hD
  have hK : va_K D vwCl [(cA, .int)] s := hK
  refine W.widen (k := 6) (n := 1024) (by omega) (by omega) ?_
  refine lv_astore_n (lv' := [(1, .ref h0), (0, .ref b)]) hx hb dL_law_7 rfl hl (by decide) rfl (fun ls hl => ?_)
  refine va_new (ci := 8) (fs := [.int 0, .int 0, .null, .int 0, .null, .int 0, .int 0, .int 0, .int 0, .int 0, .int 0]) (C := RX10) (T := TX10) (N := 11) hx hb hts0 inX10 tyX10 tyX10_ok hown (tb_at hts0 504 (by decide +kernel)) (tb_at hts0 505 (by decide +kernel)) (tb_at hts0 27 (by decide +kernel)) hK hP hD hS hA rfl (fun j hj => by rcases (show j = 0 ∨ j = 1 ∨ j = 2 ∨ j = 3 ∨ j = 4 ∨ j = 5 ∨ j = 6 ∨ j = 7 ∨ j = 8 ∨ j = 9 ∨ j = 10 by omega) with rfl | rfl | rfl | rfl | rfl | rfl | rfl | rfl | rfl | rfl | rfl <;> rfl) (show 7 ≤ 651793 by decide) (show 1035 ≤ 7140724 by decide) dL_law_8 (fun m0 H hP hD hS => ?_)
  have hP : va_P D vwCl [(h0, .inr (7, [.ref h1, .int 0, .ref h8, .ref h4])), (h1, .inl (cA, 1000, .inl (fun _ => 0))), (h8, .inr (0, [.int 0, .int 1, .int 1, .int 1, .int 1])), (h4, .inr (5, [.ref h5, .ref h6, .int 0, .int 0, .int 0])), (h5, .inr (6, [.int 1048576, .int 0, .int 0, .int 0, .int 0])), (h6, .inr (6, [.int 16384, .int 0, .int 0, .int 0, .int 0])), (m0, .inr (8, [.int 0, .int 0, .null, .int 0, .null, .int 0, .int 0, .int 0, .int 0, .int 0, .int 0]))] H := hP
  have hD : va_D A [(h0, .inr (7, [.ref h1, .int 0, .ref h8, .ref h4])), (h1, .inl (cA, 1000, .inl (fun _ => 0))), (h8, .inr (0, [.int 0, .int 1, .int 1, .int 1, .int 1])), (h4, .inr (5, [.ref h5, .ref h6, .int 0, .int 0, .int 0])), (h5, .inr (6, [.int 1048576, .int 0, .int 0, .int 0, .int 0])), (h6, .inr (6, [.int 16384, .int 0, .int 0, .int 0, .int 0])), (m0, .inr (8, [.int 0, .int 0, .null, .int 0, .null, .int 0, .int 0, .int 0, .int 0, .int 0, .int 0]))] := hD
  refine W.widen (k := 7) (n := 1035) (by omega) (by omega) ?_
  refine lv_dup hx hb dL_law_11 rfl ?_
  have hPc := hP.sub (ws' := [(m0, .inr (8, [.int 0, .int 0, .null, .int 0, .null, .int 0, .int 0, .int 0, .int 0, .int 0, .int 0]))]) [6] rfl
  have hDc := hD.sub (ws' := [(m0, .inr (8, [.int 0, .int 0, .null, .int 0, .null, .int 0, .int 0, .int 0, .int 0, .int 0, .int 0]))]) [6] (by decide) rfl
  have hKc := hK.sub (tys' := []) [] rfl
  have hFc := va_free (wc := [(m0, .inr (8, [.int 0, .int 0, .null, .int 0, .null, .int 0, .int 0, .int 0, .int 0, .int 0, .int 0]))]) hD hS hA [6] rfl
  refine va_callv (va_runI (As := []) (rest := [.ref m0]) ⟨hx, hb, hml, hown, hts⟩ (kX10_init l D H.size m0) (cwI 0 hts gL_law_X10_init rfl rfl rfl (tb_at hts0 27 (by decide +kernel)) (tb_at hts0 506 (by decide +kernel)) (tb_at hts0 507 (by decide +kernel)) rfl (by decide +kernel) ⟨Nat.le_of_ble_eq_true rfl, Nat.le_of_ble_eq_true rfl⟩) ⟨Pw_blind, fun U hU hW => Pw_at hKc hPc hDc hN hU hW⟩ rfl rfl hl.1 rfl (lv_room (Nat.le_of_ble_eq_true rfl)) dL_law_12 ⟨show 9 ≤ 651793 by decide, show 3035 ≤ 7140724 by decide⟩) hS (fun q _ h => hFc q h) hFc (fun u t H1 locs ht hvm hw hB hz1 hk1 hS => ?_)
  obtain ⟨cB, cC, m1, m2⟩ := u
  obtain ⟨hP1, hK1, hD1⟩ := hB
  rw [ht] at hP1
  have hK1 := va_K.moved hvm.symm hK1
  obtain ⟨hP, hD⟩ := va_join (wr := [(h0, .inr (7, [.ref h1, .int 0, .ref h8, .ref h4])), (h1, .inl (cA, 1000, .inl (fun _ => 0))), (h8, .inr (0, [.int 0, .int 1, .int 1, .int 1, .int 1])), (h4, .inr (5, [.ref h5, .ref h6, .int 0, .int 0, .int 0])), (h5, .inr (6, [.int 1048576, .int 0, .int 0, .int 0, .int 0])), (h6, .inr (6, [.int 16384, .int 0, .int 0, .int 0, .int 0]))]) (w1 := [(m0, .inr (8, [.int 0, .int 0, .ref m1, .int 0, .ref m2, .int 0, .int 0, .int 1, .int 1, .int 1, .int 1])), (m1, .inl (cB, 1000, .inl (fun _ => 0))), (m2, .inl (cC, 1000, .inl (fun _ => 0)))]) hP hD [6] [0, 1, 2, 3, 4, 5] rfl rfl (by decide) (by decide) hk1 hFc hP1 hD1
  have hK := (hK.sub (tys' := [(cA, .int)]) [0] rfl).app hK1
  generalize H1 = H at hP hS ⊢
  have hP : va_P D vwCl [(h0, .inr (7, [.ref h1, .int 0, .ref h8, .ref h4])), (h1, .inl (cA, 1000, .inl (fun _ => 0))), (h8, .inr (0, [.int 0, .int 1, .int 1, .int 1, .int 1])), (h4, .inr (5, [.ref h5, .ref h6, .int 0, .int 0, .int 0])), (h5, .inr (6, [.int 1048576, .int 0, .int 0, .int 0, .int 0])), (h6, .inr (6, [.int 16384, .int 0, .int 0, .int 0, .int 0])), (m0, .inr (8, [.int 0, .int 0, .ref m1, .int 0, .ref m2, .int 0, .int 0, .int 1, .int 1, .int 1, .int 1])), (m1, .inl (cB, 1000, .inl (fun _ => 0))), (m2, .inl (cC, 1000, .inl (fun _ => 0)))] H := hP
  have hD : va_D A [(h0, .inr (7, [.ref h1, .int 0, .ref h8, .ref h4])), (h1, .inl (cA, 1000, .inl (fun _ => 0))), (h8, .inr (0, [.int 0, .int 1, .int 1, .int 1, .int 1])), (h4, .inr (5, [.ref h5, .ref h6, .int 0, .int 0, .int 0])), (h5, .inr (6, [.int 1048576, .int 0, .int 0, .int 0, .int 0])), (h6, .inr (6, [.int 16384, .int 0, .int 0, .int 0, .int 0])), (m0, .inr (8, [.int 0, .int 0, .ref m1, .int 0, .ref m2, .int 0, .int 0, .int 1, .int 1, .int 1, .int 1])), (m1, .inl (cB, 1000, .inl (fun _ => 0))), (m2, .inl (cC, 1000, .inl (fun _ => 0)))] := hD
  have hK : va_K D vwCl [(cA, .int), (cB, .int), (cC, .int)] s := hK
  refine W.widen (k := 9) (n := 3035) (by omega) (by omega) ?_
  refine lv_astore_n (lv' := [(2, .ref m0), (1, .ref h0), (0, .ref b)]) hx hb dL_law_15 rfl hl (by decide) rfl (fun ls hl => ?_)
  refine lv_iconst (v := 1) hx hb dL_law_16 (by decide) ?_
  refine va_newa (atype := .long) (ty := .long) (n := 1) (N' := 1) (a0 := (1, .inr (.inl (fun _ => 0)))) hx hb (tb_at hts0 667 (by decide +kernel)) rfl hK hP hD hS hA (fun cA9 => vp_cell_l cA9 1 (fun _ => 0)) (by decide) (nI_clamp (n := 1) (by omega)) (by decide) (show 10 ≤ 651793 by decide) (show 3036 ≤ 7140724 by decide) dL_law_17 (fun ho cL H hK hP hD hS => ?_)
  have hK : va_K D vwCl [(cA, .int), (cB, .int), (cC, .int), (cL, .long)] s := hK
  have hP : va_P D vwCl [(h0, .inr (7, [.ref h1, .int 0, .ref h8, .ref h4])), (h1, .inl (cA, 1000, .inl (fun _ => 0))), (h8, .inr (0, [.int 0, .int 1, .int 1, .int 1, .int 1])), (h4, .inr (5, [.ref h5, .ref h6, .int 0, .int 0, .int 0])), (h5, .inr (6, [.int 1048576, .int 0, .int 0, .int 0, .int 0])), (h6, .inr (6, [.int 16384, .int 0, .int 0, .int 0, .int 0])), (m0, .inr (8, [.int 0, .int 0, .ref m1, .int 0, .ref m2, .int 0, .int 0, .int 1, .int 1, .int 1, .int 1])), (m1, .inl (cB, 1000, .inl (fun _ => 0))), (m2, .inl (cC, 1000, .inl (fun _ => 0))), (ho, .inl (cL, 1, .inr (.inl (fun _ => 0))))] H := hP
  have hD : va_D A [(h0, .inr (7, [.ref h1, .int 0, .ref h8, .ref h4])), (h1, .inl (cA, 1000, .inl (fun _ => 0))), (h8, .inr (0, [.int 0, .int 1, .int 1, .int 1, .int 1])), (h4, .inr (5, [.ref h5, .ref h6, .int 0, .int 0, .int 0])), (h5, .inr (6, [.int 1048576, .int 0, .int 0, .int 0, .int 0])), (h6, .inr (6, [.int 16384, .int 0, .int 0, .int 0, .int 0])), (m0, .inr (8, [.int 0, .int 0, .ref m1, .int 0, .ref m2, .int 0, .int 0, .int 1, .int 1, .int 1, .int 1])), (m1, .inl (cB, 1000, .inl (fun _ => 0))), (m2, .inl (cC, 1000, .inl (fun _ => 0))), (ho, .inl (cL, 1, .inr (.inl (fun _ => 0))))] := hD
  refine W.widen (k := 10) (n := 3036) (by omega) (by omega) ?_
  refine lv_astore_n (lv' := [(3, .ref ho), (2, .ref m0), (1, .ref h0), (0, .ref b)]) hx hb dL_law_19 rfl hl (by decide) rfl (fun ls hl => ?_)
  refine lv_iconst (v := 0) hx hb dL_law_20 (by decide) ?_
  refine lv_istore (lv' := [(4, .int 0), (3, .ref ho), (2, .ref m0), (1, .ref h0), (0, .ref b)]) hx hb dL_law_21 hl (by decide) rfl (fun ls hl => ?_)
  have C : Lc p l e s m below meth c D A b h0 h1 h4 h5 h6 m0 m1 m2 ho cA cB cC cL L xs := ⟨hst, C0, hN, hT, z1, z2, hK, hA, hbA⟩
  exact lp_go C hAc hL 513 0 10 3036 (Nat.zero_le L) (by omega) (by omega) (by omega) [] 0 0 (fun _ => 0) (fun _ => 0) (fun _ => 0) (fun _ => 0) h8 0 0 0 0 1 1 1 1 0 0 0 0 0 0 0 0 0 0 0 H locs ls (Both.nil _ _) ⟨by decide, by decide, by decide, by decide, by decide, by decide⟩ (hP.sub [0, 1, 3, 4, 5, 2, 6, 7, 8, 9] rfl) (hD.sub [0, 1, 3, 4, 5, 2, 6, 7, 8, 9] (by decide) rfl) hS (lv_sub hl [4, 3, 2, 1, 0] rfl)
