set_option maxHeartbeats 4000000 in
theorem lpC_cp {p : Program} {l : Launch} {e : Env} {s : State} {m : MethodId} {below : List Frame} {meth : Method} {c : Code} {args : Array Value} {A : Nat → Prop} {D : va_G} {Q : State → Prop} (h0 h1 h4 h5 h6 h7 : Nat) (cA : ClassId) (x2 : Value) (dn al : Int32) (N : Nat) (hN : N ≤ 1000) (C : Cx p s m meth c args D [(cA, .int)] A cX9_changeReferences wsX9_changeReferences RX9 (some .int) 6) (PW : Int32 → Int32 → Int32 → (Nat → Int32) → Prop)
    (hPW : PW = fun cg w k f => ∀ (isr wh sh rf ra rx ry kf ka kx ky : Int32) (H : Heap) (locs : List Loc) (ls : Array Slot), va_P D vwCl [(h0, .inr (7, [.ref h1, .int (nI N), x2, .ref h4])), (h1, .inl (cA, 1000, .inl f)), (h4, .inr (5, [.ref h5, .ref h6, .int isr, .int wh, .int sh])), (h5, .inr (6, [.int 1048576, .int rf, .int ra, .int rx, .int ry])), (h6, .inr (6, [.int 16384, .int kf, .int ka, .int kx, .int ky])), (h7, .inr (1, [.int dn, .int al]))] H → va_D A [(h0, .inr (7, [.ref h1, .int (nI N), x2, .ref h4])), (h1, .inl (cA, 1000, .inl f)), (h4, .inr (5, [.ref h5, .ref h6, .int isr, .int wh, .int sh])), (h5, .inr (6, [.int 1048576, .int rf, .int ra, .int rx, .int ry])), (h6, .inr (6, [.int 16384, .int kf, .int ka, .int kx, .int ky])), (h7, .inr (1, [.int dn, .int al]))] → va_S A s.heap H locs → lv_has ls 6 [(0, .ref h0), (1, .ref h7), (2, .int cg), (3, .int w), (5, .int k)] → W p l e (headSpec wsX9_changeReferences rmX9_changeReferences).room s m args below meth c H locs 0 0 Q (F0 m 10 ls [])) :
    ∀ (it : List Int32) (K Wd : Nat) (cg : Int32) (f : Nat → Int32), okI it → Seg f K it → K + it.length ≤ N → Wd ≤ K → PW (cg + dT it ((Tcp dn al) it)) (nI (Wd + ((Tcp dn al) it).length)) (nI (K + it.length)) (wr f Wd ((Tcp dn al) it)) → PW cg (nI Wd) (nI K) f := by
  subst hPW
  intro it K Wd cg f hok hs hK hW hnext
  rcases hok with ⟨x9, hx9, rfl⟩ | ⟨m9, s9, r9, c9, hm9, g1, g2, g3, rfl⟩ | ⟨m9, s9, t9, l9, b9, r9, hm9, g1, g2, g3, g4, g5, g6, g7, g8, g9, rfl⟩
  · have hK : K + 1 ≤ N := hK
    have e0 := seg1 hs
    intro isr wh sh rf ra rx ry kf ka kx ky H locs ls hP hD hS hl
    refine ksc_cp_1 h0 h1 h4 h5 h6 cA x2 (nI N) f isr wh sh 1048576 rf ra rx ry 16384 kf ka kx ky h7 dn al cg (nI Wd) (nI K) C (nI_ge (by omega) (by omega)) (by rw [word_in f (by omega) hN, e0]; exact hx9) ?_ H locs ls hP hD hS hl
    intro H locs ls hP hD hS hl
    rw [show cg + dT [x9] ((Tcp dn al) [x9]) = cg by rw [show (Tcp dn al) [x9] = [x9] from rfl, dT_self, Int32.add_zero]] at hnext
    rw [word_in f (by omega) hN, e0, put_in _ _ (by omega)] at hP hD
    rw [n1, n1] at hl
    exact hnext _ _ _ _ _ _ _ _ _ _ _ H locs ls hP hD hS hl
  · have hK : K + 4 ≤ N := hK
    obtain ⟨e0, -, -, -⟩ := seg4 hs
    intro isr wh sh rf ra rx ry kf ka kx ky H locs ls hP hD hS hl
    refine ksc_cp_4 h0 h1 h4 h5 h6 cA x2 (nI N) f isr wh sh 1048576 rf ra rx ry 16384 kf ka kx ky h7 dn al cg (nI Wd) (nI K) C (nI_ge (by omega) (by omega)) (by rw [word_in f (by omega) hN, e0]; exact (hd4 m9 hm9).2.1) ?_ H locs ls hP hD hS hl
    intro H locs ls hP hD hS hl
    rw [sC_cp4 hm9 g1 g2 g3 hs hK hN hW] at hP hD hl
    rw [n4] at hl
    exact hnext _ _ _ _ _ _ _ _ _ _ _ H locs ls hP hD hS hl
  · have hK : K + 6 ≤ N := hK
    obtain ⟨e0, -, -, -, -, -⟩ := seg6 hs
    intro isr wh sh rf ra rx ry kf ka kx ky H locs ls hP hD hS hl
    refine ksc_cp_6 h0 h1 h4 h5 h6 cA x2 (nI N) f isr wh sh 1048576 rf ra rx ry 16384 kf ka kx ky h7 dn al cg (nI Wd) (nI K) C (nI_ge (by omega) (by omega)) (by rw [word_in f (by omega) hN, e0]; exact (hd5 m9 hm9).2.1) ?_ H locs ls hP hD hS hl
    intro H locs ls hP hD hS hl
    rw [sC_cp6 hm9 g1 g2 g3 g4 g5 g6 g7 hs hK hN hW] at hP hD hl
    rw [n6] at hl
    exact hnext _ _ _ _ _ _ _ _ _ _ _ H locs ls hP hD hS hl

abbrev qX9_changeReferences_cp (D : va_G) (sz : Nat) (h0 : Nat) (h1 : Nat) (h4 : Nat) (h5 : Nat) (h6 : Nat) (cA : ClassId) (x2 : Value) (f : Nat → Int32) (isr : Int32) (wh : Int32) (sh : Int32) (rf : Int32) (ra : Int32) (rx : Int32) (ry : Int32) (kf : Int32) (ka : Int32) (kx : Int32) (ky : Int32) (h7 : Nat) (dn : Int32) (al : Int32) (items : List (List Int32)) : Array Value → State → Outcome → State → Prop := va_Qi (fun r_9 w_9 => ∃ x_9 : Int32 × Int32 × Int32 × Int32 × Int32 × Int32 × Int32 × Int32 × Int32 × Int32 × Int32, True ∧ r_9 = cnt (Tcp dn al) items ∧ w_9 = [(h0, .inr (7, [.ref h1, .int (nI (outs (Tcp dn al) items).length), x2, .ref h4])), (h1, .inl (cA, 1000, .inl (wr f 0 (outs (Tcp dn al) items)))), (h4, .inr (5, [.ref h5, .ref h6, .int x_9.1, .int x_9.2.1, .int x_9.2.2.1])), (h5, .inr (6, [.int 1048576, .int x_9.2.2.2.1, .int x_9.2.2.2.2.1, .int x_9.2.2.2.2.2.1, .int x_9.2.2.2.2.2.2.1])), (h6, .inr (6, [.int 16384, .int x_9.2.2.2.2.2.2.2.1, .int x_9.2.2.2.2.2.2.2.2.1, .int x_9.2.2.2.2.2.2.2.2.2.1, .int x_9.2.2.2.2.2.2.2.2.2.2])), (h7, .inr (1, [.int dn, .int al]))]) (Bq D (va_A [(h0, .inr (7, [.ref h1, .int (nI items.flatten.length), x2, .ref h4])), (h1, .inl (cA, 1000, .inl f)), (h4, .inr (5, [.ref h5, .ref h6, .int isr, .int wh, .int sh])), (h5, .inr (6, [.int 1048576, .int rf, .int ra, .int rx, .int ry])), (h6, .inr (6, [.int 16384, .int kf, .int ka, .int kx, .int ky])), (h7, .inr (1, [.int dn, .int al]))] sz)) (va_A [(h0, .inr (7, [.ref h1, .int (nI items.flatten.length), x2, .ref h4])), (h1, .inl (cA, 1000, .inl f)), (h4, .inr (5, [.ref h5, .ref h6, .int isr, .int wh, .int sh])), (h5, .inr (6, [.int 1048576, .int rf, .int ra, .int rx, .int ry])), (h6, .inr (6, [.int 16384, .int kf, .int ka, .int kx, .int ky])), (h7, .inr (1, [.int dn, .int al]))] sz)
set_option maxHeartbeats 4000000 in
set_option maxRecDepth 100000 in
theorem kX9_changeReferences_cp (l : Launch) (D : va_G) (sz : Nat) (h0 : Nat) (h1 : Nat) (h4 : Nat) (h5 : Nat) (h6 : Nat) (cA : ClassId) (x2 : Value) (f : Nat → Int32) (isr : Int32) (wh : Int32) (sh : Int32) (rf : Int32) (ra : Int32) (rx : Int32) (ry : Int32) (kf : Int32) (ka : Int32) (kx : Int32) (ky : Int32) (h7 : Nat) (dn : Int32) (al : Int32) (items : List (List Int32)) (hok : ∀ it ∈ items, okI it) (hlen : items.flatten.length ≤ 1000) (hseg : Seg f 0 items.flatten) (hT : ∀ it ∈ items, okI it ∧ ((Tcp dn al) it).length ≤ it.length) : Met l yX9_changeReferences wsX9_changeReferences rmX9_changeReferences (va_Pc [.ref h0, .ref h7] (Pw D [(cA, .int)] [(h0, .inr (7, [.ref h1, .int (nI items.flatten.length), x2, .ref h4])), (h1, .inl (cA, 1000, .inl f)), (h4, .inr (5, [.ref h5, .ref h6, .int isr, .int wh, .int sh])), (h5, .inr (6, [.int 1048576, .int rf, .int ra, .int rx, .int ry])), (h6, .inr (6, [.int 16384, .int kf, .int ka, .int kx, .int ky])), (h7, .inr (1, [.int dn, .int al]))] sz)) (qX9_changeReferences_cp D sz h0 h1 h4 h5 h6 cA x2 f isr wh sh rf ra rx ry kf ka kx ky h7 dn al items) 0 0 (va_A [(h0, .inr (7, [.ref h1, .int (nI items.flatten.length), x2, .ref h4])), (h1, .inl (cA, 1000, .inl f)), (h4, .inr (5, [.ref h5, .ref h6, .int isr, .int wh, .int sh])), (h5, .inr (6, [.int 1048576, .int rf, .int ra, .int rx, .int ry])), (h6, .inr (6, [.int 16384, .int kf, .int ka, .int kx, .int ky])), (h7, .inr (1, [.int dn, .int al]))] sz) := by
  refine Met.ofW (cc := cX9_changeReferences) (maxL := 6) (ret := (some .int)) (by decide) rfl ?_
  intro p e s m args below meth c s₁ B hml hv
  obtain ⟨hargs, hsz, hP, hK, hD0, hN⟩ := hv
  have hx := B.exec
  have hb := B.bytes
  have hr := B.returns
  have hts := atoms_spec (ws := wsX9_changeReferences) B.pre
  have hown : s.vm.findClass RX9 = some m.cls := findClass_of_methodNamed B.named
  have hlocks := B.notSynchronized
  subst hsz
  obtain ⟨A, hAe⟩ : ∃ A, A = va_A [(h0, .inr (7, [.ref h1, .int (nI items.flatten.length), x2, .ref h4])), (h1, .inl (cA, 1000, .inl f)), (h4, .inr (5, [.ref h5, .ref h6, .int isr, .int wh, .int sh])), (h5, .inr (6, [.int 1048576, .int rf, .int ra, .int rx, .int ry])), (h6, .inr (6, [.int 16384, .int kf, .int ka, .int kx, .int ky])), (h7, .inr (1, [.int dn, .int al]))] s.heap.size := ⟨_, rfl⟩
  have hD : va_D A [(h0, .inr (7, [.ref h1, .int (nI items.flatten.length), x2, .ref h4])), (h1, .inl (cA, 1000, .inl f)), (h4, .inr (5, [.ref h5, .ref h6, .int isr, .int wh, .int sh])), (h5, .inr (6, [.int 1048576, .int rf, .int ra, .int rx, .int ry])), (h6, .inr (6, [.int 16384, .int kf, .int ka, .int kx, .int ky])), (h7, .inr (1, [.int dn, .int al]))] := by rw [hAe]; exact hD0.self
  have hA : ∀ q : Nat, s.heap.size ≤ q → A q := by rw [hAe]; exact mo_A
  have hS : va_S A s.heap s.heap [] := va_S.rf
  have hfr : ∀ q, A q → (va_A [(h0, .inr (7, [.ref h1, .int (nI items.flatten.length), x2, .ref h4])), (h1, .inl (cA, 1000, .inl f)), (h4, .inr (5, [.ref h5, .ref h6, .int isr, .int wh, .int sh])), (h5, .inr (6, [.int 1048576, .int rf, .int ra, .int rx, .int ry])), (h6, .inr (6, [.int 16384, .int kf, .int ka, .int kx, .int ky])), (h7, .inr (1, [.int dn, .int al]))] s.heap.size) q := fun q h => hAe ▸ h
  have hl := lv_entry ([.ref h0, .ref h7]) (n := 6) (Nat.le_of_ble_eq_true rfl)
  rw [show entryFrame m args 6 = entryFrame m (([.ref h0, .ref h7] : List Value).toArray) 6 by rw [hargs], lg_entry_eq]
  generalize (lg_sl ([.ref h0, .ref h7]) ++ List.replicate (6 - (lg_sl ([.ref h0, .ref h7])).length) Slot.unset).toArray = ls at hl ⊢
  have hl : lv_has ls 6 [(0, .ref h0), (1, .ref h7)] := hl
  have C : Cx p s m meth c args D [(cA, .int)] A cX9_changeReferences wsX9_changeReferences RX9 (some .int) 6 := ⟨hx, hb, hr, hml, hown, hts, hlocks, hK, hN, hA⟩
  have hle := outs_le hT
  refine ksc_cp_0 h0 h1 h4 h5 h6 cA x2 (nI items.flatten.length) f isr wh sh 1048576 rf ra rx ry 16384 kf ka kx ky h7 dn al C ?_ s.heap [] ls hP hD hS hl
  intro H locs ls hP hD hS hl
  refine loopC _ (Tcp dn al) items.flatten.length (lpC_cp h0 h1 h4 h5 h6 h7 cA x2 dn al items.flatten.length hlen C _ rfl) items 0 0 0 f hT hseg (by omega) (Nat.le_refl 0) ?_ isr wh sh rf ra rx ry kf ka kx ky H locs ls hP hD hS hl
  rw [Nat.zero_add, Int32.zero_add]
  intro isr wh sh rf ra rx ry kf ka kx ky H locs ls hP hD hS hl
  refine ksc_cp_x hfr h0 h1 h4 h5 h6 cA x2 (nI items.flatten.length) (wr f 0 (outs (Tcp dn al) items)) isr wh sh 1048576 rf ra rx ry 16384 kf ka kx ky h7 dn al (cnt (Tcp dn al) items) (nI (outs (Tcp dn al) items).length) (nI items.flatten.length) C (nI_le (Nat.le_refl _) (by omega)) ?_ H locs ls hP hD hS hl
  intro H locs hP hD hS t ht hW
  exact ⟨⟨_, _, rfl, ⟨(isr, wh, sh, rf, ra, rx, ry, kf, ka, kx, ky), trivial, rfl, rfl⟩, by rw [ht]; exact hP, by rw [← hAe]; exact hD⟩, by rw [← hAe]; exact hS.F ht⟩

set_option maxHeartbeats 4000000 in
theorem lpC_pi {p : Program} {l : Launch} {e : Env} {s : State} {m : MethodId} {below : List Frame} {meth : Method} {c : Code} {args : Array Value} {A : Nat → Prop} {D : va_G} {Q : State → Prop} (h0 h1 h4 h5 h6 h7 : Nat) (cA : ClassId) (x2 : Value) (hom si co at_ nn : Int32) (N : Nat) (hN : N ≤ 1000) (j3 : 1 ≤ at_) (j4 : at_ ≤ fX10_lines co) (j5 : 1 ≤ nn) (j6 : nn ≤ 16384) (C : Cx p s m meth c args D [(cA, .int)] A cX9_changeReferences wsX9_changeReferences RX9 (some .int) 6) (PW : Int32 → Int32 → Int32 → (Nat → Int32) → Prop)
    (hPW : PW = fun cg w k f => ∀ (isr wh sh rf ra rx ry kf ka kx ky : Int32) (H : Heap) (locs : List Loc) (ls : Array Slot), va_P D vwCl [(h0, .inr (7, [.ref h1, .int (nI N), x2, .ref h4])), (h1, .inl (cA, 1000, .inl f)), (h4, .inr (5, [.ref h5, .ref h6, .int isr, .int wh, .int sh])), (h5, .inr (6, [.int 1048576, .int rf, .int ra, .int rx, .int ry])), (h6, .inr (6, [.int 16384, .int kf, .int ka, .int kx, .int ky])), (h7, .inr (2, [.int hom, .int si, .int co, .int at_, .int nn]))] H → va_D A [(h0, .inr (7, [.ref h1, .int (nI N), x2, .ref h4])), (h1, .inl (cA, 1000, .inl f)), (h4, .inr (5, [.ref h5, .ref h6, .int isr, .int wh, .int sh])), (h5, .inr (6, [.int 1048576, .int rf, .int ra, .int rx, .int ry])), (h6, .inr (6, [.int 16384, .int kf, .int ka, .int kx, .int ky])), (h7, .inr (2, [.int hom, .int si, .int co, .int at_, .int nn]))] → va_S A s.heap H locs → lv_has ls 6 [(0, .ref h0), (1, .ref h7), (2, .int cg), (3, .int w), (5, .int k)] → W p l e (headSpec wsX9_changeReferences rmX9_changeReferences).room s m args below meth c H locs 0 0 Q (F0 m 10 ls [])) :
    ∀ (it : List Int32) (K Wd : Nat) (cg : Int32) (f : Nat → Int32), okI it → Seg f K it → K + it.length ≤ N → Wd ≤ K → PW (cg + dT it ((Tsh hom si co at_ nn) it)) (nI (Wd + ((Tsh hom si co at_ nn) it).length)) (nI (K + it.length)) (wr f Wd ((Tsh hom si co at_ nn) it)) → PW cg (nI Wd) (nI K) f := by
  subst hPW
  intro it K Wd cg f hok hs hK hW hnext
  rcases hok with ⟨x9, hx9, rfl⟩ | ⟨m9, s9, r9, c9, hm9, g1, g2, g3, rfl⟩ | ⟨m9, s9, t9, l9, b9, r9, hm9, g1, g2, g3, g4, g5, g6, g7, g8, g9, rfl⟩
  · have hK : K + 1 ≤ N := hK
    have e0 := seg1 hs
    intro isr wh sh rf ra rx ry kf ka kx ky H locs ls hP hD hS hl
    refine ksc_pi_1 h0 h1 h4 h5 h6 cA x2 (nI N) f isr wh sh 1048576 rf ra rx ry 16384 kf ka kx ky h7 hom si co at_ nn cg (nI Wd) (nI K) C (nI_ge (by omega) (by omega)) (by rw [word_in f (by omega) hN, e0]; exact hx9) ?_ H locs ls hP hD hS hl
    intro H locs ls hP hD hS hl
    rw [show cg + dT [x9] ((Tsh hom si co at_ nn) [x9]) = cg by rw [show (Tsh hom si co at_ nn) [x9] = [x9] from rfl, dT_self, Int32.add_zero]] at hnext
    rw [word_in f (by omega) hN, e0, put_in _ _ (by omega)] at hP hD
    rw [n1, n1] at hl
    exact hnext _ _ _ _ _ _ _ _ _ _ _ H locs ls hP hD hS hl
  · have hK : K + 4 ≤ N := hK
    obtain ⟨e0, -, -, -⟩ := seg4 hs
    intro isr wh sh rf ra rx ry kf ka kx ky H locs ls hP hD hS hl
    refine ksc_pi_4 h0 h1 h4 h5 h6 cA x2 (nI N) f isr wh sh 1048576 rf ra rx ry 16384 kf ka kx ky h7 hom si co at_ nn cg (nI Wd) (nI K) C (nI_ge (by omega) (by omega)) (by rw [word_in f (by omega) hN, e0]; exact (hd4 m9 hm9).2.1) ?_ H locs ls hP hD hS hl
    intro H locs ls hP hD hS hl
    rw [sC_pi4 hm9 g1 g2 g3 j3 j4 j5 j6 hs hK hN hW] at hP hD hl
    rw [n4] at hl
    exact hnext _ _ _ _ _ _ _ _ _ _ _ H locs ls hP hD hS hl
  · have hK : K + 6 ≤ N := hK
    obtain ⟨e0, -, -, -, -, -⟩ := seg6 hs
    intro isr wh sh rf ra rx ry kf ka kx ky H locs ls hP hD hS hl
    refine ksc_pi_6 h0 h1 h4 h5 h6 cA x2 (nI N) f isr wh sh 1048576 rf ra rx ry 16384 kf ka kx ky h7 hom si co at_ nn cg (nI Wd) (nI K) C (nI_ge (by omega) (by omega)) (by rw [word_in f (by omega) hN, e0]; exact (hd5 m9 hm9).2.1) ?_ H locs ls hP hD hS hl
    intro H locs ls hP hD hS hl
    rw [sC_pi6 hm9 g1 g2 g3 g4 g5 g6 g7 j3 j4 j5 j6 hs hK hN hW] at hP hD hl
    rw [n6] at hl
    exact hnext _ _ _ _ _ _ _ _ _ _ _ H locs ls hP hD hS hl

abbrev qX9_changeReferences_pi (D : va_G) (sz : Nat) (h0 : Nat) (h1 : Nat) (h4 : Nat) (h5 : Nat) (h6 : Nat) (cA : ClassId) (x2 : Value) (f : Nat → Int32) (isr : Int32) (wh : Int32) (sh : Int32) (rf : Int32) (ra : Int32) (rx : Int32) (ry : Int32) (kf : Int32) (ka : Int32) (kx : Int32) (ky : Int32) (h7 : Nat) (hom : Int32) (si : Int32) (co : Int32) (at_ : Int32) (nn : Int32) (items : List (List Int32)) : Array Value → State → Outcome → State → Prop := va_Qi (fun r_9 w_9 => ∃ x_9 : Int32 × Int32 × Int32 × Int32 × Int32 × Int32 × Int32 × Int32 × Int32 × Int32 × Int32, True ∧ r_9 = cnt (Tsh hom si co at_ nn) items ∧ w_9 = [(h0, .inr (7, [.ref h1, .int (nI (outs (Tsh hom si co at_ nn) items).length), x2, .ref h4])), (h1, .inl (cA, 1000, .inl (wr f 0 (outs (Tsh hom si co at_ nn) items)))), (h4, .inr (5, [.ref h5, .ref h6, .int x_9.1, .int x_9.2.1, .int x_9.2.2.1])), (h5, .inr (6, [.int 1048576, .int x_9.2.2.2.1, .int x_9.2.2.2.2.1, .int x_9.2.2.2.2.2.1, .int x_9.2.2.2.2.2.2.1])), (h6, .inr (6, [.int 16384, .int x_9.2.2.2.2.2.2.2.1, .int x_9.2.2.2.2.2.2.2.2.1, .int x_9.2.2.2.2.2.2.2.2.2.1, .int x_9.2.2.2.2.2.2.2.2.2.2])), (h7, .inr (2, [.int hom, .int si, .int co, .int at_, .int nn]))]) (Bq D (va_A [(h0, .inr (7, [.ref h1, .int (nI items.flatten.length), x2, .ref h4])), (h1, .inl (cA, 1000, .inl f)), (h4, .inr (5, [.ref h5, .ref h6, .int isr, .int wh, .int sh])), (h5, .inr (6, [.int 1048576, .int rf, .int ra, .int rx, .int ry])), (h6, .inr (6, [.int 16384, .int kf, .int ka, .int kx, .int ky])), (h7, .inr (2, [.int hom, .int si, .int co, .int at_, .int nn]))] sz)) (va_A [(h0, .inr (7, [.ref h1, .int (nI items.flatten.length), x2, .ref h4])), (h1, .inl (cA, 1000, .inl f)), (h4, .inr (5, [.ref h5, .ref h6, .int isr, .int wh, .int sh])), (h5, .inr (6, [.int 1048576, .int rf, .int ra, .int rx, .int ry])), (h6, .inr (6, [.int 16384, .int kf, .int ka, .int kx, .int ky])), (h7, .inr (2, [.int hom, .int si, .int co, .int at_, .int nn]))] sz)
set_option maxHeartbeats 4000000 in
set_option maxRecDepth 100000 in
theorem kX9_changeReferences_pi (l : Launch) (D : va_G) (sz : Nat) (h0 : Nat) (h1 : Nat) (h4 : Nat) (h5 : Nat) (h6 : Nat) (cA : ClassId) (x2 : Value) (f : Nat → Int32) (isr : Int32) (wh : Int32) (sh : Int32) (rf : Int32) (ra : Int32) (rx : Int32) (ry : Int32) (kf : Int32) (ka : Int32) (kx : Int32) (ky : Int32) (h7 : Nat) (hom : Int32) (si : Int32) (co : Int32) (at_ : Int32) (nn : Int32) (items : List (List Int32)) (hok : ∀ it ∈ items, okI it) (hlen : items.flatten.length ≤ 1000) (hseg : Seg f 0 items.flatten) (j3 : 1 ≤ at_) (j4 : at_ ≤ fX10_lines co) (j5 : 1 ≤ nn) (j6 : nn ≤ 16384) (hT : ∀ it ∈ items, okI it ∧ ((Tsh hom si co at_ nn) it).length ≤ it.length) : Met l yX9_changeReferences wsX9_changeReferences rmX9_changeReferences (va_Pc [.ref h0, .ref h7] (Pw D [(cA, .int)] [(h0, .inr (7, [.ref h1, .int (nI items.flatten.length), x2, .ref h4])), (h1, .inl (cA, 1000, .inl f)), (h4, .inr (5, [.ref h5, .ref h6, .int isr, .int wh, .int sh])), (h5, .inr (6, [.int 1048576, .int rf, .int ra, .int rx, .int ry])), (h6, .inr (6, [.int 16384, .int kf, .int ka, .int kx, .int ky])), (h7, .inr (2, [.int hom, .int si, .int co, .int at_, .int nn]))] sz)) (qX9_changeReferences_pi D sz h0 h1 h4 h5 h6 cA x2 f isr wh sh rf ra rx ry kf ka kx ky h7 hom si co at_ nn items) 0 0 (va_A [(h0, .inr (7, [.ref h1, .int (nI items.flatten.length), x2, .ref h4])), (h1, .inl (cA, 1000, .inl f)), (h4, .inr (5, [.ref h5, .ref h6, .int isr, .int wh, .int sh])), (h5, .inr (6, [.int 1048576, .int rf, .int ra, .int rx, .int ry])), (h6, .inr (6, [.int 16384, .int kf, .int ka, .int kx, .int ky])), (h7, .inr (2, [.int hom, .int si, .int co, .int at_, .int nn]))] sz) := by
  refine Met.ofW (cc := cX9_changeReferences) (maxL := 6) (ret := (some .int)) (by decide) rfl ?_
  intro p e s m args below meth c s₁ B hml hv
  obtain ⟨hargs, hsz, hP, hK, hD0, hN⟩ := hv
  have hx := B.exec
  have hb := B.bytes
  have hr := B.returns
  have hts := atoms_spec (ws := wsX9_changeReferences) B.pre
  have hown : s.vm.findClass RX9 = some m.cls := findClass_of_methodNamed B.named
  have hlocks := B.notSynchronized
  subst hsz
  obtain ⟨A, hAe⟩ : ∃ A, A = va_A [(h0, .inr (7, [.ref h1, .int (nI items.flatten.length), x2, .ref h4])), (h1, .inl (cA, 1000, .inl f)), (h4, .inr (5, [.ref h5, .ref h6, .int isr, .int wh, .int sh])), (h5, .inr (6, [.int 1048576, .int rf, .int ra, .int rx, .int ry])), (h6, .inr (6, [.int 16384, .int kf, .int ka, .int kx, .int ky])), (h7, .inr (2, [.int hom, .int si, .int co, .int at_, .int nn]))] s.heap.size := ⟨_, rfl⟩
  have hD : va_D A [(h0, .inr (7, [.ref h1, .int (nI items.flatten.length), x2, .ref h4])), (h1, .inl (cA, 1000, .inl f)), (h4, .inr (5, [.ref h5, .ref h6, .int isr, .int wh, .int sh])), (h5, .inr (6, [.int 1048576, .int rf, .int ra, .int rx, .int ry])), (h6, .inr (6, [.int 16384, .int kf, .int ka, .int kx, .int ky])), (h7, .inr (2, [.int hom, .int si, .int co, .int at_, .int nn]))] := by rw [hAe]; exact hD0.self
  have hA : ∀ q : Nat, s.heap.size ≤ q → A q := by rw [hAe]; exact mo_A
  have hS : va_S A s.heap s.heap [] := va_S.rf
  have hfr : ∀ q, A q → (va_A [(h0, .inr (7, [.ref h1, .int (nI items.flatten.length), x2, .ref h4])), (h1, .inl (cA, 1000, .inl f)), (h4, .inr (5, [.ref h5, .ref h6, .int isr, .int wh, .int sh])), (h5, .inr (6, [.int 1048576, .int rf, .int ra, .int rx, .int ry])), (h6, .inr (6, [.int 16384, .int kf, .int ka, .int kx, .int ky])), (h7, .inr (2, [.int hom, .int si, .int co, .int at_, .int nn]))] s.heap.size) q := fun q h => hAe ▸ h
  have hl := lv_entry ([.ref h0, .ref h7]) (n := 6) (Nat.le_of_ble_eq_true rfl)
  rw [show entryFrame m args 6 = entryFrame m (([.ref h0, .ref h7] : List Value).toArray) 6 by rw [hargs], lg_entry_eq]
  generalize (lg_sl ([.ref h0, .ref h7]) ++ List.replicate (6 - (lg_sl ([.ref h0, .ref h7])).length) Slot.unset).toArray = ls at hl ⊢
  have hl : lv_has ls 6 [(0, .ref h0), (1, .ref h7)] := hl
  have C : Cx p s m meth c args D [(cA, .int)] A cX9_changeReferences wsX9_changeReferences RX9 (some .int) 6 := ⟨hx, hb, hr, hml, hown, hts, hlocks, hK, hN, hA⟩
  have hle := outs_le hT
  refine ksc_pi_0 h0 h1 h4 h5 h6 cA x2 (nI items.flatten.length) f isr wh sh 1048576 rf ra rx ry 16384 kf ka kx ky h7 hom si co at_ nn C ?_ s.heap [] ls hP hD hS hl
  intro H locs ls hP hD hS hl
  refine loopC _ (Tsh hom si co at_ nn) items.flatten.length (lpC_pi h0 h1 h4 h5 h6 h7 cA x2 hom si co at_ nn items.flatten.length hlen j3 j4 j5 j6 C _ rfl) items 0 0 0 f hT hseg (by omega) (Nat.le_refl 0) ?_ isr wh sh rf ra rx ry kf ka kx ky H locs ls hP hD hS hl
  rw [Nat.zero_add, Int32.zero_add]
  intro isr wh sh rf ra rx ry kf ka kx ky H locs ls hP hD hS hl
  refine ksc_pi_x hfr h0 h1 h4 h5 h6 cA x2 (nI items.flatten.length) (wr f 0 (outs (Tsh hom si co at_ nn) items)) isr wh sh 1048576 rf ra rx ry 16384 kf ka kx ky h7 hom si co at_ nn (cnt (Tsh hom si co at_ nn) items) (nI (outs (Tsh hom si co at_ nn) items).length) (nI items.flatten.length) C (nI_le (Nat.le_refl _) (by omega)) ?_ H locs ls hP hD hS hl
  intro H locs hP hD hS t ht hW
  exact ⟨⟨_, _, rfl, ⟨(isr, wh, sh, rf, ra, rx, ry, kf, ka, kx, ky), trivial, rfl, rfl⟩, by rw [ht]; exact hP, by rw [← hAe]; exact hD⟩, by rw [← hAe]; exact hS.F ht⟩

set_option maxHeartbeats 4000000 in
theorem lpC_to {p : Program} {l : Launch} {e : Env} {s : State} {m : MethodId} {below : List Frame} {meth : Method} {c : Code} {args : Array Value} {A : Nat → Prop} {D : va_G} {Q : State → Prop} (h0 h1 h4 h5 h6 h7 : Nat) (cA : ClassId) (x2 : Value) (hom si co at_ nn : Int32) (N : Nat) (hN : N ≤ 1000) (j3 : 1 ≤ at_) (j4 : at_ ≤ fX10_lines co) (j5 : 1 ≤ nn) (j6 : nn ≤ 16384) (C : Cx p s m meth c args D [(cA, .int)] A cX9_changeReferences wsX9_changeReferences RX9 (some .int) 6) (PW : Int32 → Int32 → Int32 → (Nat → Int32) → Prop)
    (hPW : PW = fun cg w k f => ∀ (isr wh sh rf ra rx ry kf ka kx ky : Int32) (H : Heap) (locs : List Loc) (ls : Array Slot), va_P D vwCl [(h0, .inr (7, [.ref h1, .int (nI N), x2, .ref h4])), (h1, .inl (cA, 1000, .inl f)), (h4, .inr (5, [.ref h5, .ref h6, .int isr, .int wh, .int sh])), (h5, .inr (6, [.int 1048576, .int rf, .int ra, .int rx, .int ry])), (h6, .inr (6, [.int 16384, .int kf, .int ka, .int kx, .int ky])), (h7, .inr (3, [.int hom, .int si, .int co, .int at_, .int nn]))] H → va_D A [(h0, .inr (7, [.ref h1, .int (nI N), x2, .ref h4])), (h1, .inl (cA, 1000, .inl f)), (h4, .inr (5, [.ref h5, .ref h6, .int isr, .int wh, .int sh])), (h5, .inr (6, [.int 1048576, .int rf, .int ra, .int rx, .int ry])), (h6, .inr (6, [.int 16384, .int kf, .int ka, .int kx, .int ky])), (h7, .inr (3, [.int hom, .int si, .int co, .int at_, .int nn]))] → va_S A s.heap H locs → lv_has ls 6 [(0, .ref h0), (1, .ref h7), (2, .int cg), (3, .int w), (5, .int k)] → W p l e (headSpec wsX9_changeReferences rmX9_changeReferences).room s m args below meth c H locs 0 0 Q (F0 m 10 ls [])) :
    ∀ (it : List Int32) (K Wd : Nat) (cg : Int32) (f : Nat → Int32), okI it → Seg f K it → K + it.length ≤ N → Wd ≤ K → PW (cg + dT it ((Tsh hom si co at_ (-nn)) it)) (nI (Wd + ((Tsh hom si co at_ (-nn)) it).length)) (nI (K + it.length)) (wr f Wd ((Tsh hom si co at_ (-nn)) it)) → PW cg (nI Wd) (nI K) f := by
  subst hPW
  intro it K Wd cg f hok hs hK hW hnext
  rcases hok with ⟨x9, hx9, rfl⟩ | ⟨m9, s9, r9, c9, hm9, g1, g2, g3, rfl⟩ | ⟨m9, s9, t9, l9, b9, r9, hm9, g1, g2, g3, g4, g5, g6, g7, g8, g9, rfl⟩
  · have hK : K + 1 ≤ N := hK
    have e0 := seg1 hs
    intro isr wh sh rf ra rx ry kf ka kx ky H locs ls hP hD hS hl
    refine ksc_to_1 h0 h1 h4 h5 h6 cA x2 (nI N) f isr wh sh 1048576 rf ra rx ry 16384 kf ka kx ky h7 hom si co at_ nn cg (nI Wd) (nI K) C (nI_ge (by omega) (by omega)) (by rw [word_in f (by omega) hN, e0]; exact hx9) ?_ H locs ls hP hD hS hl
    intro H locs ls hP hD hS hl
    rw [show cg + dT [x9] ((Tsh hom si co at_ (-nn)) [x9]) = cg by rw [show (Tsh hom si co at_ (-nn)) [x9] = [x9] from rfl, dT_self, Int32.add_zero]] at hnext
    rw [word_in f (by omega) hN, e0, put_in _ _ (by omega)] at hP hD
    rw [n1, n1] at hl
    exact hnext _ _ _ _ _ _ _ _ _ _ _ H locs ls hP hD hS hl
  · have hK : K + 4 ≤ N := hK
    obtain ⟨e0, -, -, -⟩ := seg4 hs
    intro isr wh sh rf ra rx ry kf ka kx ky H locs ls hP hD hS hl
    refine ksc_to_4 h0 h1 h4 h5 h6 cA x2 (nI N) f isr wh sh 1048576 rf ra rx ry 16384 kf ka kx ky h7 hom si co at_ nn cg (nI Wd) (nI K) C (nI_ge (by omega) (by omega)) (by rw [word_in f (by omega) hN, e0]; exact (hd4 m9 hm9).2.1) ?_ H locs ls hP hD hS hl
    intro H locs ls hP hD hS hl
    rw [sC_to4 hm9 g1 g2 g3 j3 j4 j5 j6 hs hK hN hW] at hP hD hl
    rw [n4] at hl
    exact hnext _ _ _ _ _ _ _ _ _ _ _ H locs ls hP hD hS hl
  · have hK : K + 6 ≤ N := hK
    obtain ⟨e0, -, -, -, -, -⟩ := seg6 hs
    intro isr wh sh rf ra rx ry kf ka kx ky H locs ls hP hD hS hl
    refine ksc_to_6 h0 h1 h4 h5 h6 cA x2 (nI N) f isr wh sh 1048576 rf ra rx ry 16384 kf ka kx ky h7 hom si co at_ nn cg (nI Wd) (nI K) C (nI_ge (by omega) (by omega)) (by rw [word_in f (by omega) hN, e0]; exact (hd5 m9 hm9).2.1) ?_ H locs ls hP hD hS hl
    intro H locs ls hP hD hS hl
    rw [sC_to6 hm9 g1 g2 g3 g4 g5 g6 g7 j3 j4 j5 j6 hs hK hN hW] at hP hD hl
    rw [n6] at hl
    exact hnext _ _ _ _ _ _ _ _ _ _ _ H locs ls hP hD hS hl

abbrev qX9_changeReferences_to (D : va_G) (sz : Nat) (h0 : Nat) (h1 : Nat) (h4 : Nat) (h5 : Nat) (h6 : Nat) (cA : ClassId) (x2 : Value) (f : Nat → Int32) (isr : Int32) (wh : Int32) (sh : Int32) (rf : Int32) (ra : Int32) (rx : Int32) (ry : Int32) (kf : Int32) (ka : Int32) (kx : Int32) (ky : Int32) (h7 : Nat) (hom : Int32) (si : Int32) (co : Int32) (at_ : Int32) (nn : Int32) (items : List (List Int32)) : Array Value → State → Outcome → State → Prop := va_Qi (fun r_9 w_9 => ∃ x_9 : Int32 × Int32 × Int32 × Int32 × Int32 × Int32 × Int32 × Int32 × Int32 × Int32 × Int32, True ∧ r_9 = cnt (Tsh hom si co at_ (-nn)) items ∧ w_9 = [(h0, .inr (7, [.ref h1, .int (nI (outs (Tsh hom si co at_ (-nn)) items).length), x2, .ref h4])), (h1, .inl (cA, 1000, .inl (wr f 0 (outs (Tsh hom si co at_ (-nn)) items)))), (h4, .inr (5, [.ref h5, .ref h6, .int x_9.1, .int x_9.2.1, .int x_9.2.2.1])), (h5, .inr (6, [.int 1048576, .int x_9.2.2.2.1, .int x_9.2.2.2.2.1, .int x_9.2.2.2.2.2.1, .int x_9.2.2.2.2.2.2.1])), (h6, .inr (6, [.int 16384, .int x_9.2.2.2.2.2.2.2.1, .int x_9.2.2.2.2.2.2.2.2.1, .int x_9.2.2.2.2.2.2.2.2.2.1, .int x_9.2.2.2.2.2.2.2.2.2.2])), (h7, .inr (3, [.int hom, .int si, .int co, .int at_, .int nn]))]) (Bq D (va_A [(h0, .inr (7, [.ref h1, .int (nI items.flatten.length), x2, .ref h4])), (h1, .inl (cA, 1000, .inl f)), (h4, .inr (5, [.ref h5, .ref h6, .int isr, .int wh, .int sh])), (h5, .inr (6, [.int 1048576, .int rf, .int ra, .int rx, .int ry])), (h6, .inr (6, [.int 16384, .int kf, .int ka, .int kx, .int ky])), (h7, .inr (3, [.int hom, .int si, .int co, .int at_, .int nn]))] sz)) (va_A [(h0, .inr (7, [.ref h1, .int (nI items.flatten.length), x2, .ref h4])), (h1, .inl (cA, 1000, .inl f)), (h4, .inr (5, [.ref h5, .ref h6, .int isr, .int wh, .int sh])), (h5, .inr (6, [.int 1048576, .int rf, .int ra, .int rx, .int ry])), (h6, .inr (6, [.int 16384, .int kf, .int ka, .int kx, .int ky])), (h7, .inr (3, [.int hom, .int si, .int co, .int at_, .int nn]))] sz)
set_option maxHeartbeats 4000000 in
set_option maxRecDepth 100000 in
theorem kX9_changeReferences_to (l : Launch) (D : va_G) (sz : Nat) (h0 : Nat) (h1 : Nat) (h4 : Nat) (h5 : Nat) (h6 : Nat) (cA : ClassId) (x2 : Value) (f : Nat → Int32) (isr : Int32) (wh : Int32) (sh : Int32) (rf : Int32) (ra : Int32) (rx : Int32) (ry : Int32) (kf : Int32) (ka : Int32) (kx : Int32) (ky : Int32) (h7 : Nat) (hom : Int32) (si : Int32) (co : Int32) (at_ : Int32) (nn : Int32) (items : List (List Int32)) (hok : ∀ it ∈ items, okI it) (hlen : items.flatten.length ≤ 1000) (hseg : Seg f 0 items.flatten) (j3 : 1 ≤ at_) (j4 : at_ ≤ fX10_lines co) (j5 : 1 ≤ nn) (j6 : nn ≤ 16384) (hT : ∀ it ∈ items, okI it ∧ ((Tsh hom si co at_ (-nn)) it).length ≤ it.length) : Met l yX9_changeReferences wsX9_changeReferences rmX9_changeReferences (va_Pc [.ref h0, .ref h7] (Pw D [(cA, .int)] [(h0, .inr (7, [.ref h1, .int (nI items.flatten.length), x2, .ref h4])), (h1, .inl (cA, 1000, .inl f)), (h4, .inr (5, [.ref h5, .ref h6, .int isr, .int wh, .int sh])), (h5, .inr (6, [.int 1048576, .int rf, .int ra, .int rx, .int ry])), (h6, .inr (6, [.int 16384, .int kf, .int ka, .int kx, .int ky])), (h7, .inr (3, [.int hom, .int si, .int co, .int at_, .int nn]))] sz)) (qX9_changeReferences_to D sz h0 h1 h4 h5 h6 cA x2 f isr wh sh rf ra rx ry kf ka kx ky h7 hom si co at_ nn items) 0 0 (va_A [(h0, .inr (7, [.ref h1, .int (nI items.flatten.length), x2, .ref h4])), (h1, .inl (cA, 1000, .inl f)), (h4, .inr (5, [.ref h5, .ref h6, .int isr, .int wh, .int sh])), (h5, .inr (6, [.int 1048576, .int rf, .int ra, .int rx, .int ry])), (h6, .inr (6, [.int 16384, .int kf, .int ka, .int kx, .int ky])), (h7, .inr (3, [.int hom, .int si, .int co, .int at_, .int nn]))] sz) := by
  refine Met.ofW (cc := cX9_changeReferences) (maxL := 6) (ret := (some .int)) (by decide) rfl ?_
  intro p e s m args below meth c s₁ B hml hv
  obtain ⟨hargs, hsz, hP, hK, hD0, hN⟩ := hv
  have hx := B.exec
  have hb := B.bytes
  have hr := B.returns
  have hts := atoms_spec (ws := wsX9_changeReferences) B.pre
  have hown : s.vm.findClass RX9 = some m.cls := findClass_of_methodNamed B.named
  have hlocks := B.notSynchronized
  subst hsz
  obtain ⟨A, hAe⟩ : ∃ A, A = va_A [(h0, .inr (7, [.ref h1, .int (nI items.flatten.length), x2, .ref h4])), (h1, .inl (cA, 1000, .inl f)), (h4, .inr (5, [.ref h5, .ref h6, .int isr, .int wh, .int sh])), (h5, .inr (6, [.int 1048576, .int rf, .int ra, .int rx, .int ry])), (h6, .inr (6, [.int 16384, .int kf, .int ka, .int kx, .int ky])), (h7, .inr (3, [.int hom, .int si, .int co, .int at_, .int nn]))] s.heap.size := ⟨_, rfl⟩
  have hD : va_D A [(h0, .inr (7, [.ref h1, .int (nI items.flatten.length), x2, .ref h4])), (h1, .inl (cA, 1000, .inl f)), (h4, .inr (5, [.ref h5, .ref h6, .int isr, .int wh, .int sh])), (h5, .inr (6, [.int 1048576, .int rf, .int ra, .int rx, .int ry])), (h6, .inr (6, [.int 16384, .int kf, .int ka, .int kx, .int ky])), (h7, .inr (3, [.int hom, .int si, .int co, .int at_, .int nn]))] := by rw [hAe]; exact hD0.self
  have hA : ∀ q : Nat, s.heap.size ≤ q → A q := by rw [hAe]; exact mo_A
  have hS : va_S A s.heap s.heap [] := va_S.rf
  have hfr : ∀ q, A q → (va_A [(h0, .inr (7, [.ref h1, .int (nI items.flatten.length), x2, .ref h4])), (h1, .inl (cA, 1000, .inl f)), (h4, .inr (5, [.ref h5, .ref h6, .int isr, .int wh, .int sh])), (h5, .inr (6, [.int 1048576, .int rf, .int ra, .int rx, .int ry])), (h6, .inr (6, [.int 16384, .int kf, .int ka, .int kx, .int ky])), (h7, .inr (3, [.int hom, .int si, .int co, .int at_, .int nn]))] s.heap.size) q := fun q h => hAe ▸ h
  have hl := lv_entry ([.ref h0, .ref h7]) (n := 6) (Nat.le_of_ble_eq_true rfl)
  rw [show entryFrame m args 6 = entryFrame m (([.ref h0, .ref h7] : List Value).toArray) 6 by rw [hargs], lg_entry_eq]
  generalize (lg_sl ([.ref h0, .ref h7]) ++ List.replicate (6 - (lg_sl ([.ref h0, .ref h7])).length) Slot.unset).toArray = ls at hl ⊢
  have hl : lv_has ls 6 [(0, .ref h0), (1, .ref h7)] := hl
  have C : Cx p s m meth c args D [(cA, .int)] A cX9_changeReferences wsX9_changeReferences RX9 (some .int) 6 := ⟨hx, hb, hr, hml, hown, hts, hlocks, hK, hN, hA⟩
  have hle := outs_le hT
  refine ksc_to_0 h0 h1 h4 h5 h6 cA x2 (nI items.flatten.length) f isr wh sh 1048576 rf ra rx ry 16384 kf ka kx ky h7 hom si co at_ nn C ?_ s.heap [] ls hP hD hS hl
  intro H locs ls hP hD hS hl
  refine loopC _ (Tsh hom si co at_ (-nn)) items.flatten.length (lpC_to h0 h1 h4 h5 h6 h7 cA x2 hom si co at_ nn items.flatten.length hlen j3 j4 j5 j6 C _ rfl) items 0 0 0 f hT hseg (by omega) (Nat.le_refl 0) ?_ isr wh sh rf ra rx ry kf ka kx ky H locs ls hP hD hS hl
  rw [Nat.zero_add, Int32.zero_add]
  intro isr wh sh rf ra rx ry kf ka kx ky H locs ls hP hD hS hl
  refine ksc_to_x hfr h0 h1 h4 h5 h6 cA x2 (nI items.flatten.length) (wr f 0 (outs (Tsh hom si co at_ (-nn)) items)) isr wh sh 1048576 rf ra rx ry 16384 kf ka kx ky h7 hom si co at_ nn (cnt (Tsh hom si co at_ (-nn)) items) (nI (outs (Tsh hom si co at_ (-nn)) items).length) (nI items.flatten.length) C (nI_le (Nat.le_refl _) (by omega)) ?_ H locs ls hP hD hS hl
  intro H locs hP hD hS t ht hW
  exact ⟨⟨_, _, rfl, ⟨(isr, wh, sh, rf, ra, rx, ry, kf, ka, kx, ky), trivial, rfl, rfl⟩, by rw [ht]; exact hP, by rw [← hAe]; exact hD⟩, by rw [← hAe]; exact hS.F ht⟩

set_option maxHeartbeats 4000000 in
theorem lpC_mv {p : Program} {l : Launch} {e : Env} {s : State} {m : MethodId} {below : List Frame} {meth : Method} {c : Code} {args : Array Value} {A : Nat → Prop} {D : va_G} {Q : State → Prop} (h0 h1 h4 h5 h6 h7 h8 h9 : Nat) (cA : ClassId) (x2 : Value) (hom nh cs ct cl cb cr ts tt tl : Int32) (N : Nat) (hN : N ≤ 1000) (C : Cx p s m meth c args D [(cA, .int)] A cX9_changeReferences wsX9_changeReferences RX9 (some .int) 6) (PW : Int32 → Int32 → Int32 → (Nat → Int32) → Prop)
    (hPW : PW = fun cg w k f => ∀ (isr wh sh rf ra rx ry kf ka kx ky : Int32) (H : Heap) (locs : List Loc) (ls : Array Slot), va_P D vwCl [(h0, .inr (7, [.ref h1, .int (nI N), x2, .ref h4])), (h1, .inl (cA, 1000, .inl f)), (h4, .inr (5, [.ref h5, .ref h6, .int isr, .int wh, .int sh])), (h5, .inr (6, [.int 1048576, .int rf, .int ra, .int rx, .int ry])), (h6, .inr (6, [.int 16384, .int kf, .int ka, .int kx, .int ky])), (h7, .inr (4, [.int hom, .int nh, .ref h8, .ref h9])), (h8, .inr (0, [.int cs, .int ct, .int cl, .int cb, .int cr])), (h9, .inr (0, [.int ts, .int tt, .int tl, .int ((tt + cb) - ct), .int ((tl + cr) - cl)]))] H → va_D A [(h0, .inr (7, [.ref h1, .int (nI N), x2, .ref h4])), (h1, .inl (cA, 1000, .inl f)), (h4, .inr (5, [.ref h5, .ref h6, .int isr, .int wh, .int sh])), (h5, .inr (6, [.int 1048576, .int rf, .int ra, .int rx, .int ry])), (h6, .inr (6, [.int 16384, .int kf, .int ka, .int kx, .int ky])), (h7, .inr (4, [.int hom, .int nh, .ref h8, .ref h9])), (h8, .inr (0, [.int cs, .int ct, .int cl, .int cb, .int cr])), (h9, .inr (0, [.int ts, .int tt, .int tl, .int ((tt + cb) - ct), .int ((tl + cr) - cl)]))] → va_S A s.heap H locs → lv_has ls 6 [(0, .ref h0), (1, .ref h7), (2, .int cg), (3, .int w), (5, .int k)] → W p l e (headSpec wsX9_changeReferences rmX9_changeReferences).room s m args below meth c H locs 0 0 Q (F0 m 10 ls [])) :
    ∀ (it : List Int32) (K Wd : Nat) (cg : Int32) (f : Nat → Int32), okI it → Seg f K it → K + it.length ≤ N → Wd ≤ K → PW (cg + dT it ((Tmv cs ct cl cb cr hom nh ts tt tl) it)) (nI (Wd + ((Tmv cs ct cl cb cr hom nh ts tt tl) it).length)) (nI (K + it.length)) (wr f Wd ((Tmv cs ct cl cb cr hom nh ts tt tl) it)) → PW cg (nI Wd) (nI K) f := by
  subst hPW
  intro it K Wd cg f hok hs hK hW hnext
  rcases hok with ⟨x9, hx9, rfl⟩ | ⟨m9, s9, r9, c9, hm9, g1, g2, g3, rfl⟩ | ⟨m9, s9, t9, l9, b9, r9, hm9, g1, g2, g3, g4, g5, g6, g7, g8, g9, rfl⟩
  · have hK : K + 1 ≤ N := hK
    have e0 := seg1 hs
    intro isr wh sh rf ra rx ry kf ka kx ky H locs ls hP hD hS hl
    refine ksc_mv_1 h0 h1 h4 h5 h6 cA x2 (nI N) f isr wh sh 1048576 rf ra rx ry 16384 kf ka kx ky h7 h8 h9 hom nh cs ct cl cb cr ts tt tl ((tt + cb) - ct) ((tl + cr) - cl) cg (nI Wd) (nI K) C (nI_ge (by omega) (by omega)) (by rw [word_in f (by omega) hN, e0]; exact hx9) ?_ H locs ls hP hD hS hl
    intro H locs ls hP hD hS hl
    rw [show cg + dT [x9] ((Tmv cs ct cl cb cr hom nh ts tt tl) [x9]) = cg by rw [show (Tmv cs ct cl cb cr hom nh ts tt tl) [x9] = [x9] from rfl, dT_self, Int32.add_zero]] at hnext
    rw [word_in f (by omega) hN, e0, put_in _ _ (by omega)] at hP hD
    rw [n1, n1] at hl
    exact hnext _ _ _ _ _ _ _ _ _ _ _ H locs ls hP hD hS hl
  · have hK : K + 4 ≤ N := hK
    obtain ⟨e0, -, -, -⟩ := seg4 hs
    intro isr wh sh rf ra rx ry kf ka kx ky H locs ls hP hD hS hl
    refine ksc_mv_4 h0 h1 h4 h5 h6 cA x2 (nI N) f isr wh sh 1048576 rf ra rx ry 16384 kf ka kx ky h7 h8 h9 hom nh cs ct cl cb cr ts tt tl ((tt + cb) - ct) ((tl + cr) - cl) cg (nI Wd) (nI K) C (nI_ge (by omega) (by omega)) (by rw [word_in f (by omega) hN, e0]; exact (hd4 m9 hm9).2.1) ?_ H locs ls hP hD hS hl
    intro H locs ls hP hD hS hl
    rw [sC_mv4 hm9 g1 g2 g3 hs hK hN hW] at hP hD hl
    rw [n4] at hl
    exact hnext _ _ _ _ _ _ _ _ _ _ _ H locs ls hP hD hS hl
  · have hK : K + 6 ≤ N := hK
    obtain ⟨e0, -, -, -, -, -⟩ := seg6 hs
    intro isr wh sh rf ra rx ry kf ka kx ky H locs ls hP hD hS hl
    refine ksc_mv_6 h0 h1 h4 h5 h6 cA x2 (nI N) f isr wh sh 1048576 rf ra rx ry 16384 kf ka kx ky h7 h8 h9 hom nh cs ct cl cb cr ts tt tl ((tt + cb) - ct) ((tl + cr) - cl) cg (nI Wd) (nI K) C (nI_ge (by omega) (by omega)) (by rw [word_in f (by omega) hN, e0]; exact (hd5 m9 hm9).2.1) ?_ H locs ls hP hD hS hl
    intro H locs ls hP hD hS hl
    rw [sC_mv6 hm9 g1 g2 g3 g4 g5 g6 g7 hs hK hN hW] at hP hD hl
    rw [n6] at hl
    exact hnext _ _ _ _ _ _ _ _ _ _ _ H locs ls hP hD hS hl

abbrev qX9_changeReferences_mv (D : va_G) (sz : Nat) (h0 : Nat) (h1 : Nat) (h4 : Nat) (h5 : Nat) (h6 : Nat) (cA : ClassId) (x2 : Value) (f : Nat → Int32) (isr : Int32) (wh : Int32) (sh : Int32) (rf : Int32) (ra : Int32) (rx : Int32) (ry : Int32) (kf : Int32) (ka : Int32) (kx : Int32) (ky : Int32) (h7 : Nat) (h8 : Nat) (h9 : Nat) (hom : Int32) (nh : Int32) (cs : Int32) (ct : Int32) (cl : Int32) (cb : Int32) (cr : Int32) (ts : Int32) (tt : Int32) (tl : Int32) (items : List (List Int32)) : Array Value → State → Outcome → State → Prop := va_Qi (fun r_9 w_9 => ∃ x_9 : Int32 × Int32 × Int32 × Int32 × Int32 × Int32 × Int32 × Int32 × Int32 × Int32 × Int32, True ∧ r_9 = cnt (Tmv cs ct cl cb cr hom nh ts tt tl) items ∧ w_9 = [(h0, .inr (7, [.ref h1, .int (nI (outs (Tmv cs ct cl cb cr hom nh ts tt tl) items).length), x2, .ref h4])), (h1, .inl (cA, 1000, .inl (wr f 0 (outs (Tmv cs ct cl cb cr hom nh ts tt tl) items)))), (h4, .inr (5, [.ref h5, .ref h6, .int x_9.1, .int x_9.2.1, .int x_9.2.2.1])), (h5, .inr (6, [.int 1048576, .int x_9.2.2.2.1, .int x_9.2.2.2.2.1, .int x_9.2.2.2.2.2.1, .int x_9.2.2.2.2.2.2.1])), (h6, .inr (6, [.int 16384, .int x_9.2.2.2.2.2.2.2.1, .int x_9.2.2.2.2.2.2.2.2.1, .int x_9.2.2.2.2.2.2.2.2.2.1, .int x_9.2.2.2.2.2.2.2.2.2.2])), (h7, .inr (4, [.int hom, .int nh, .ref h8, .ref h9])), (h8, .inr (0, [.int cs, .int ct, .int cl, .int cb, .int cr])), (h9, .inr (0, [.int ts, .int tt, .int tl, .int ((tt + cb) - ct), .int ((tl + cr) - cl)]))]) (Bq D (va_A [(h0, .inr (7, [.ref h1, .int (nI items.flatten.length), x2, .ref h4])), (h1, .inl (cA, 1000, .inl f)), (h4, .inr (5, [.ref h5, .ref h6, .int isr, .int wh, .int sh])), (h5, .inr (6, [.int 1048576, .int rf, .int ra, .int rx, .int ry])), (h6, .inr (6, [.int 16384, .int kf, .int ka, .int kx, .int ky])), (h7, .inr (4, [.int hom, .int nh, .ref h8, .ref h9])), (h8, .inr (0, [.int cs, .int ct, .int cl, .int cb, .int cr])), (h9, .inr (0, [.int ts, .int tt, .int tl, .int ((tt + cb) - ct), .int ((tl + cr) - cl)]))] sz)) (va_A [(h0, .inr (7, [.ref h1, .int (nI items.flatten.length), x2, .ref h4])), (h1, .inl (cA, 1000, .inl f)), (h4, .inr (5, [.ref h5, .ref h6, .int isr, .int wh, .int sh])), (h5, .inr (6, [.int 1048576, .int rf, .int ra, .int rx, .int ry])), (h6, .inr (6, [.int 16384, .int kf, .int ka, .int kx, .int ky])), (h7, .inr (4, [.int hom, .int nh, .ref h8, .ref h9])), (h8, .inr (0, [.int cs, .int ct, .int cl, .int cb, .int cr])), (h9, .inr (0, [.int ts, .int tt, .int tl, .int ((tt + cb) - ct), .int ((tl + cr) - cl)]))] sz)
set_option maxHeartbeats 4000000 in
set_option maxRecDepth 100000 in
theorem kX9_changeReferences_mv (l : Launch) (D : va_G) (sz : Nat) (h0 : Nat) (h1 : Nat) (h4 : Nat) (h5 : Nat) (h6 : Nat) (cA : ClassId) (x2 : Value) (f : Nat → Int32) (isr : Int32) (wh : Int32) (sh : Int32) (rf : Int32) (ra : Int32) (rx : Int32) (ry : Int32) (kf : Int32) (ka : Int32) (kx : Int32) (ky : Int32) (h7 : Nat) (h8 : Nat) (h9 : Nat) (hom : Int32) (nh : Int32) (cs : Int32) (ct : Int32) (cl : Int32) (cb : Int32) (cr : Int32) (ts : Int32) (tt : Int32) (tl : Int32) (items : List (List Int32)) (hok : ∀ it ∈ items, okI it) (hlen : items.flatten.length ≤ 1000) (hseg : Seg f 0 items.flatten) (hT : ∀ it ∈ items, okI it ∧ ((Tmv cs ct cl cb cr hom nh ts tt tl) it).length ≤ it.length) : Met l yX9_changeReferences wsX9_changeReferences rmX9_changeReferences (va_Pc [.ref h0, .ref h7] (Pw D [(cA, .int)] [(h0, .inr (7, [.ref h1, .int (nI items.flatten.length), x2, .ref h4])), (h1, .inl (cA, 1000, .inl f)), (h4, .inr (5, [.ref h5, .ref h6, .int isr, .int wh, .int sh])), (h5, .inr (6, [.int 1048576, .int rf, .int ra, .int rx, .int ry])), (h6, .inr (6, [.int 16384, .int kf, .int ka, .int kx, .int ky])), (h7, .inr (4, [.int hom, .int nh, .ref h8, .ref h9])), (h8, .inr (0, [.int cs, .int ct, .int cl, .int cb, .int cr])), (h9, .inr (0, [.int ts, .int tt, .int tl, .int ((tt + cb) - ct), .int ((tl + cr) - cl)]))] sz)) (qX9_changeReferences_mv D sz h0 h1 h4 h5 h6 cA x2 f isr wh sh rf ra rx ry kf ka kx ky h7 h8 h9 hom nh cs ct cl cb cr ts tt tl items) 0 0 (va_A [(h0, .inr (7, [.ref h1, .int (nI items.flatten.length), x2, .ref h4])), (h1, .inl (cA, 1000, .inl f)), (h4, .inr (5, [.ref h5, .ref h6, .int isr, .int wh, .int sh])), (h5, .inr (6, [.int 1048576, .int rf, .int ra, .int rx, .int ry])), (h6, .inr (6, [.int 16384, .int kf, .int ka, .int kx, .int ky])), (h7, .inr (4, [.int hom, .int nh, .ref h8, .ref h9])), (h8, .inr (0, [.int cs, .int ct, .int cl, .int cb, .int cr])), (h9, .inr (0, [.int ts, .int tt, .int tl, .int ((tt + cb) - ct), .int ((tl + cr) - cl)]))] sz) := by
  refine Met.ofW (cc := cX9_changeReferences) (maxL := 6) (ret := (some .int)) (by decide) rfl ?_
  intro p e s m args below meth c s₁ B hml hv
  obtain ⟨hargs, hsz, hP, hK, hD0, hN⟩ := hv
  have hx := B.exec
  have hb := B.bytes
  have hr := B.returns
  have hts := atoms_spec (ws := wsX9_changeReferences) B.pre
  have hown : s.vm.findClass RX9 = some m.cls := findClass_of_methodNamed B.named
  have hlocks := B.notSynchronized
  subst hsz
  obtain ⟨A, hAe⟩ : ∃ A, A = va_A [(h0, .inr (7, [.ref h1, .int (nI items.flatten.length), x2, .ref h4])), (h1, .inl (cA, 1000, .inl f)), (h4, .inr (5, [.ref h5, .ref h6, .int isr, .int wh, .int sh])), (h5, .inr (6, [.int 1048576, .int rf, .int ra, .int rx, .int ry])), (h6, .inr (6, [.int 16384, .int kf, .int ka, .int kx, .int ky])), (h7, .inr (4, [.int hom, .int nh, .ref h8, .ref h9])), (h8, .inr (0, [.int cs, .int ct, .int cl, .int cb, .int cr])), (h9, .inr (0, [.int ts, .int tt, .int tl, .int ((tt + cb) - ct), .int ((tl + cr) - cl)]))] s.heap.size := ⟨_, rfl⟩
  have hD : va_D A [(h0, .inr (7, [.ref h1, .int (nI items.flatten.length), x2, .ref h4])), (h1, .inl (cA, 1000, .inl f)), (h4, .inr (5, [.ref h5, .ref h6, .int isr, .int wh, .int sh])), (h5, .inr (6, [.int 1048576, .int rf, .int ra, .int rx, .int ry])), (h6, .inr (6, [.int 16384, .int kf, .int ka, .int kx, .int ky])), (h7, .inr (4, [.int hom, .int nh, .ref h8, .ref h9])), (h8, .inr (0, [.int cs, .int ct, .int cl, .int cb, .int cr])), (h9, .inr (0, [.int ts, .int tt, .int tl, .int ((tt + cb) - ct), .int ((tl + cr) - cl)]))] := by rw [hAe]; exact hD0.self
  have hA : ∀ q : Nat, s.heap.size ≤ q → A q := by rw [hAe]; exact mo_A
  have hS : va_S A s.heap s.heap [] := va_S.rf
  have hfr : ∀ q, A q → (va_A [(h0, .inr (7, [.ref h1, .int (nI items.flatten.length), x2, .ref h4])), (h1, .inl (cA, 1000, .inl f)), (h4, .inr (5, [.ref h5, .ref h6, .int isr, .int wh, .int sh])), (h5, .inr (6, [.int 1048576, .int rf, .int ra, .int rx, .int ry])), (h6, .inr (6, [.int 16384, .int kf, .int ka, .int kx, .int ky])), (h7, .inr (4, [.int hom, .int nh, .ref h8, .ref h9])), (h8, .inr (0, [.int cs, .int ct, .int cl, .int cb, .int cr])), (h9, .inr (0, [.int ts, .int tt, .int tl, .int ((tt + cb) - ct), .int ((tl + cr) - cl)]))] s.heap.size) q := fun q h => hAe ▸ h
  have hl := lv_entry ([.ref h0, .ref h7]) (n := 6) (Nat.le_of_ble_eq_true rfl)
  rw [show entryFrame m args 6 = entryFrame m (([.ref h0, .ref h7] : List Value).toArray) 6 by rw [hargs], lg_entry_eq]
  generalize (lg_sl ([.ref h0, .ref h7]) ++ List.replicate (6 - (lg_sl ([.ref h0, .ref h7])).length) Slot.unset).toArray = ls at hl ⊢
  have hl : lv_has ls 6 [(0, .ref h0), (1, .ref h7)] := hl
  have C : Cx p s m meth c args D [(cA, .int)] A cX9_changeReferences wsX9_changeReferences RX9 (some .int) 6 := ⟨hx, hb, hr, hml, hown, hts, hlocks, hK, hN, hA⟩
  have hle := outs_le hT
  refine ksc_mv_0 h0 h1 h4 h5 h6 cA x2 (nI items.flatten.length) f isr wh sh 1048576 rf ra rx ry 16384 kf ka kx ky h7 h8 h9 hom nh cs ct cl cb cr ts tt tl ((tt + cb) - ct) ((tl + cr) - cl) C ?_ s.heap [] ls hP hD hS hl
  intro H locs ls hP hD hS hl
  refine loopC _ (Tmv cs ct cl cb cr hom nh ts tt tl) items.flatten.length (lpC_mv h0 h1 h4 h5 h6 h7 h8 h9 cA x2 hom nh cs ct cl cb cr ts tt tl items.flatten.length hlen C _ rfl) items 0 0 0 f hT hseg (by omega) (Nat.le_refl 0) ?_ isr wh sh rf ra rx ry kf ka kx ky H locs ls hP hD hS hl
  rw [Nat.zero_add, Int32.zero_add]
  intro isr wh sh rf ra rx ry kf ka kx ky H locs ls hP hD hS hl
  refine ksc_mv_x hfr h0 h1 h4 h5 h6 cA x2 (nI items.flatten.length) (wr f 0 (outs (Tmv cs ct cl cb cr hom nh ts tt tl) items)) isr wh sh 1048576 rf ra rx ry 16384 kf ka kx ky h7 h8 h9 hom nh cs ct cl cb cr ts tt tl ((tt + cb) - ct) ((tl + cr) - cl) (cnt (Tmv cs ct cl cb cr hom nh ts tt tl) items) (nI (outs (Tmv cs ct cl cb cr hom nh ts tt tl) items).length) (nI items.flatten.length) C (nI_le (Nat.le_refl _) (by omega)) ?_ H locs ls hP hD hS hl
  intro H locs hP hD hS t ht hW
  exact ⟨⟨_, _, rfl, ⟨(isr, wh, sh, rf, ra, rx, ry, kf, ka, kx, ky), trivial, rfl, rfl⟩, by rw [ht]; exact hP, by rw [← hAe]; exact hD⟩, by rw [← hAe]; exact hS.F ht⟩
