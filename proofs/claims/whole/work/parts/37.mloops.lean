set_option maxHeartbeats 4000000 in
theorem lpM_cp {p : Program} {l : Launch} {e : Env} {s : State} {m : MethodId} {below : List Frame} {meth : Method} {c : Code} {args : Array Value} {A : Nat → Prop} {D : va_G} {Q : State → Prop} (h0 h1 h2 : Nat) (cA cB : ClassId) (cd sh tp lf bt rt : Int32) (f : Nat → Int32) (dn al : Int32) (N : Nat) (hN : N ≤ 1000) (C : Cx p s m meth c args D [(cA, .int), (cB, .int)] A cX10_copy wsX10_copy RX10 (some .int) 7) (PW : Int32 → Int32 → Int32 → (Nat → Int32) → Prop)
    (hPW : PW = fun k md ch g => ∀ (H : Heap) (locs : List Loc) (ls : Array Slot), va_P D vwCl [(h0, .inr (8, [.int cd, .int (nI N), .ref h1, .int md, .ref h2, .int ch, .int sh, .int tp, .int lf, .int bt, .int rt])), (h1, .inl (cA, 1000, .inl f)), (h2, .inl (cB, 1000, .inl g))] H → va_D A [(h0, .inr (8, [.int cd, .int (nI N), .ref h1, .int md, .ref h2, .int ch, .int sh, .int tp, .int lf, .int bt, .int rt])), (h1, .inl (cA, 1000, .inl f)), (h2, .inl (cB, 1000, .inl g))] → va_S A s.heap H locs → lv_has ls 7 [(0, .ref h0), (1, .int dn), (2, .int al), (3, .int k)] → W p l e (headSpec wsX10_copy rmX10_copy).room s m args below meth c H locs 0 0 Q (F0 m 48 ls [])) :
    ∀ (it : List Int32) (K Wd : Nat) (ch : Int32) (g : Nat → Int32), okI it → Seg f K it → K + it.length ≤ N → Wd ≤ K → PW (nI (K + it.length)) (nI (Wd + ((Tcp dn al) it).length)) (ch + dT it ((Tcp dn al) it)) (wr g Wd ((Tcp dn al) it)) → PW (nI K) (nI Wd) ch g := by
  subst hPW
  intro it K Wd ch g hok hs hK hW hnext
  rcases hok with ⟨x9, hx9, rfl⟩ | ⟨m9, s9, r9, c9, hm9, g1, g2, g3, rfl⟩ | ⟨m9, s9, t9, l9, b9, r9, hm9, g1, g2, g3, g4, g5, g6, g7, g8, g9, rfl⟩
  · have hK : K + 1 ≤ N := hK
    have e0 := seg1 hs
    intro H locs ls hP hD hS hl
    refine kscp_1 h0 h1 h2 cA cB cd (nI N) (nI Wd) ch sh tp lf bt rt f g dn al (nI K) C (nI_ge (by omega) (by omega)) ((lenM (by omega) e0).trans hx9) (vp_in_nI (by omega) (by decide)) (vp_in_nI (by omega) (by decide)) ?_ H locs ls hP hD hS hl
    intro H locs ls hP hD hS hl
    have hnext : ∀ (H : Heap) (locs : List Loc) (ls : Array Slot), va_P D vwCl [(h0, .inr (8, [.int cd, .int (nI N), .ref h1, .int (nI (Wd + 1)), .ref h2, .int ch, .int sh, .int tp, .int lf, .int bt, .int rt])), (h1, .inl (cA, 1000, .inl f)), (h2, .inl (cB, 1000, .inl (wr g Wd [x9])))] H → va_D A [(h0, .inr (8, [.int cd, .int (nI N), .ref h1, .int (nI (Wd + 1)), .ref h2, .int ch, .int sh, .int tp, .int lf, .int bt, .int rt])), (h1, .inl (cA, 1000, .inl f)), (h2, .inl (cB, 1000, .inl (wr g Wd [x9])))] → va_S A s.heap H locs → lv_has ls 7 [(0, .ref h0), (1, .int dn), (2, .int al), (3, .int (nI (K + 1)))] → W p l e (headSpec wsX10_copy rmX10_copy).room s m args below meth c H locs 0 0 Q (F0 m 48 ls []) := by
      have h9 := hnext
      rw [show ch + dT [x9] ((Tcp dn al) [x9]) = ch by rw [show (Tcp dn al) [x9] = [x9] from rfl, dT_self, Int32.add_zero]] at h9
      exact h9
    simp only [n0, n1, c0 (show K < 2000 by omega), c0 (show Wd < 2000 by omega), e0] at hP hD hl
    exact hnext H locs ls hP hD hS hl
  · have hK : K + 4 ≤ N := hK
    obtain ⟨e0, -, -, -⟩ := seg4 hs
    intro H locs ls hP hD hS hl
    refine kscp_4 h0 h1 h2 cA cB cd (nI N) (nI Wd) ch sh tp lf bt rt f g dn al (nI K) C (nI_ge (by omega) (by omega)) ((lenM (by omega) e0).trans (hd4 m9 hm9).2.1) (vp_in_nI (by omega) (by decide)) (vp_in_nI (by omega) (by decide)) ?_ H locs ls hP hD hS hl
    intro H locs ls hP hD hS hl
    rw [sM_cp4 hm9 hs (by omega) (by omega)] at hP hD
    rw [n4] at hl
    exact hnext H locs ls hP hD hS hl
  · have hK : K + 6 ≤ N := hK
    obtain ⟨e0, -, -, -, -, -⟩ := seg6 hs
    intro H locs ls hP hD hS hl
    have hLn := (lenM (f := f) (K := K) (by omega) e0).trans (hd5 m9 hm9).2.1
    refine kscp_6 h0 h1 h2 cA cB cd (nI N) (nI Wd) ch sh tp lf bt rt f g dn al (nI K) C (nI_ge (by omega) (by omega)) hLn (vp_in_nI (by omega) (by decide)) (vp_in_nI (by omega) (by decide)) ?_ H locs ls hP hD hS hl
    intro H locs ls hP hD hS hl
    rw [sM_cp6 hm9 hs (by omega) (by omega)] at hP hD
    rw [n6] at hl
    exact hnext H locs ls hP hD hS hl

set_option maxHeartbeats 4000000 in
theorem lpM_sh {p : Program} {l : Launch} {e : Env} {s : State} {m : MethodId} {below : List Frame} {meth : Method} {c : Code} {args : Array Value} {A : Nat → Prop} {D : va_G} {Q : State → Prop} (h0 h1 h2 : Nat) (cA cB : ClassId) (cd sh tp lf bt rt : Int32) (f : Nat → Int32) (hom si z at_ nn : Int32) (N : Nat) (hN : N ≤ 1000) (C : Cx p s m meth c args D [(cA, .int), (cB, .int)] A cX10_shift wsX10_shift RX10 (some .int) 11) (PW : Int32 → Int32 → Int32 → (Nat → Int32) → Prop)
    (hPW : PW = fun k md ch g => ∀ (H : Heap) (locs : List Loc) (ls : Array Slot), va_P D vwCl [(h0, .inr (8, [.int cd, .int (nI N), .ref h1, .int md, .ref h2, .int ch, .int sh, .int tp, .int lf, .int bt, .int rt])), (h1, .inl (cA, 1000, .inl f)), (h2, .inl (cB, 1000, .inl g))] H → va_D A [(h0, .inr (8, [.int cd, .int (nI N), .ref h1, .int md, .ref h2, .int ch, .int sh, .int tp, .int lf, .int bt, .int rt])), (h1, .inl (cA, 1000, .inl f)), (h2, .inl (cB, 1000, .inl g))] → va_S A s.heap H locs → lv_has ls 11 [(0, .ref h0), (1, .int hom), (2, .int si), (3, .int z), (4, .int at_), (5, .int nn), (6, .int k)] → W p l e (headSpec wsX10_shift rmX10_shift).room s m args below meth c H locs 0 0 Q (F0 m 7 ls [])) :
    ∀ (it : List Int32) (K Wd : Nat) (ch : Int32) (g : Nat → Int32), okI it → Seg f K it → K + it.length ≤ N → Wd ≤ K → PW (nI (K + it.length)) (nI (Wd + ((Tsh hom si z at_ nn) it).length)) (ch + dT it ((Tsh hom si z at_ nn) it)) (wr g Wd ((Tsh hom si z at_ nn) it)) → PW (nI K) (nI Wd) ch g := by
  subst hPW
  intro it K Wd ch g hok hs hK hW hnext
  rcases hok with ⟨x9, hx9, rfl⟩ | ⟨m9, s9, r9, c9, hm9, g1, g2, g3, rfl⟩ | ⟨m9, s9, t9, l9, b9, r9, hm9, g1, g2, g3, g4, g5, g6, g7, g8, g9, rfl⟩
  · have hK : K + 1 ≤ N := hK
    have e0 := seg1 hs
    intro H locs ls hP hD hS hl
    refine kssh_1 h0 h1 h2 cA cB cd (nI N) (nI Wd) ch sh tp lf bt rt f g hom si z at_ nn (nI K) C (nI_ge (by omega) (by omega)) ((lenM (by omega) e0).trans hx9) (vp_in_nI (by omega) (by decide)) (vp_in_nI (by omega) (by decide)) ?_ H locs ls hP hD hS hl
    intro H locs ls hP hD hS hl
    have hnext : ∀ (H : Heap) (locs : List Loc) (ls : Array Slot), va_P D vwCl [(h0, .inr (8, [.int cd, .int (nI N), .ref h1, .int (nI (Wd + 1)), .ref h2, .int ch, .int sh, .int tp, .int lf, .int bt, .int rt])), (h1, .inl (cA, 1000, .inl f)), (h2, .inl (cB, 1000, .inl (wr g Wd [x9])))] H → va_D A [(h0, .inr (8, [.int cd, .int (nI N), .ref h1, .int (nI (Wd + 1)), .ref h2, .int ch, .int sh, .int tp, .int lf, .int bt, .int rt])), (h1, .inl (cA, 1000, .inl f)), (h2, .inl (cB, 1000, .inl (wr g Wd [x9])))] → va_S A s.heap H locs → lv_has ls 11 [(0, .ref h0), (1, .int hom), (2, .int si), (3, .int z), (4, .int at_), (5, .int nn), (6, .int (nI (K + 1)))] → W p l e (headSpec wsX10_shift rmX10_shift).room s m args below meth c H locs 0 0 Q (F0 m 7 ls []) := by
      have h9 := hnext
      rw [show ch + dT [x9] ((Tsh hom si z at_ nn) [x9]) = ch by rw [show (Tsh hom si z at_ nn) [x9] = [x9] from rfl, dT_self, Int32.add_zero]] at h9
      exact h9
    simp only [n0, n1, c0 (show K < 2000 by omega), c0 (show Wd < 2000 by omega), e0] at hP hD hl
    exact hnext H locs ls hP hD hS hl
  · have hK : K + 4 ≤ N := hK
    obtain ⟨e0, -, -, -⟩ := seg4 hs
    intro H locs ls hP hD hS hl
    refine kssh_4 h0 h1 h2 cA cB cd (nI N) (nI Wd) ch sh tp lf bt rt f g hom si z at_ nn (nI K) C (nI_ge (by omega) (by omega)) ((lenM (by omega) e0).trans (hd4 m9 hm9).2.1) (vp_in_nI (by omega) (by decide)) (vp_in_nI (by omega) (by decide)) ?_ H locs ls hP hD hS hl
    intro H locs ls hP hD hS hl
    rw [sM_sh4 hm9 hs (by omega) (by omega)] at hP hD
    rw [n4] at hl
    exact hnext H locs ls hP hD hS hl
  · have hK : K + 6 ≤ N := hK
    obtain ⟨e0, -, -, -, -, -⟩ := seg6 hs
    intro H locs ls hP hD hS hl
    have hLn := (lenM (f := f) (K := K) (by omega) e0).trans (hd5 m9 hm9).2.1
    refine kssh_6 h0 h1 h2 cA cB cd (nI N) (nI Wd) ch sh tp lf bt rt f g hom si z at_ nn (nI K) C (nI_ge (by omega) (by omega)) hLn (vp_in_nI (by omega) (by decide)) (vp_in_nI (by omega) (by decide)) ?_ H locs ls hP hD hS hl
    intro H locs ls hP hD hS hl
    rw [sM_sh6 hm9 hs (by omega) (by omega)] at hP hD
    rw [n6] at hl
    exact hnext H locs ls hP hD hS hl

set_option maxHeartbeats 4000000 in
theorem lpM_mv {p : Program} {l : Launch} {e : Env} {s : State} {m : MethodId} {below : List Frame} {meth : Method} {c : Code} {args : Array Value} {A : Nat → Prop} {D : va_G} {Q : State → Prop} (h0 h1 h2 : Nat) (cA cB : ClassId) (cd sh tp lf bt rt : Int32) (f : Nat → Int32) (hom nh si rw cl : Int32) (N : Nat) (hN : N ≤ 1000) (C : Cx p s m meth c args D [(cA, .int), (cB, .int)] A cX10_move wsX10_move RX10 (some .int) 8) (PW : Int32 → Int32 → Int32 → (Nat → Int32) → Prop)
    (hPW : PW = fun k md ch g => ∀ (H : Heap) (locs : List Loc) (ls : Array Slot), va_P D vwCl [(h0, .inr (8, [.int cd, .int (nI N), .ref h1, .int md, .ref h2, .int ch, .int sh, .int tp, .int lf, .int bt, .int rt])), (h1, .inl (cA, 1000, .inl f)), (h2, .inl (cB, 1000, .inl g))] H → va_D A [(h0, .inr (8, [.int cd, .int (nI N), .ref h1, .int md, .ref h2, .int ch, .int sh, .int tp, .int lf, .int bt, .int rt])), (h1, .inl (cA, 1000, .inl f)), (h2, .inl (cB, 1000, .inl g))] → va_S A s.heap H locs → lv_has ls 8 [(0, .ref h0), (1, .int hom), (2, .int nh), (3, .int si), (4, .int rw), (5, .int cl), (7, .int k)] → W p l e (headSpec wsX10_move rmX10_move).room s m args below meth c H locs 0 0 Q (F0 m 112 ls [])) :
    ∀ (it : List Int32) (K Wd : Nat) (ch : Int32) (g : Nat → Int32), okI it → Seg f K it → K + it.length ≤ N → Wd ≤ K → PW (nI (K + it.length)) (nI (Wd + ((Tmv sh tp lf bt rt hom nh si rw cl) it).length)) (ch + dT it ((Tmv sh tp lf bt rt hom nh si rw cl) it)) (wr g Wd ((Tmv sh tp lf bt rt hom nh si rw cl) it)) → PW (nI K) (nI Wd) ch g := by
  subst hPW
  intro it K Wd ch g hok hs hK hW hnext
  rcases hok with ⟨x9, hx9, rfl⟩ | ⟨m9, s9, r9, c9, hm9, g1, g2, g3, rfl⟩ | ⟨m9, s9, t9, l9, b9, r9, hm9, g1, g2, g3, g4, g5, g6, g7, g8, g9, rfl⟩
  · have hK : K + 1 ≤ N := hK
    have e0 := seg1 hs
    intro H locs ls hP hD hS hl
    refine ksmv_1 h0 h1 h2 cA cB cd (nI N) (nI Wd) ch sh tp lf bt rt f g hom nh si rw cl (nI K) C (nI_ge (by omega) (by omega)) ((lenM (by omega) e0).trans hx9) (vp_in_nI (by omega) (by decide)) (vp_in_nI (by omega) (by decide)) ?_ H locs ls hP hD hS hl
    intro H locs ls hP hD hS hl
    have hnext : ∀ (H : Heap) (locs : List Loc) (ls : Array Slot), va_P D vwCl [(h0, .inr (8, [.int cd, .int (nI N), .ref h1, .int (nI (Wd + 1)), .ref h2, .int ch, .int sh, .int tp, .int lf, .int bt, .int rt])), (h1, .inl (cA, 1000, .inl f)), (h2, .inl (cB, 1000, .inl (wr g Wd [x9])))] H → va_D A [(h0, .inr (8, [.int cd, .int (nI N), .ref h1, .int (nI (Wd + 1)), .ref h2, .int ch, .int sh, .int tp, .int lf, .int bt, .int rt])), (h1, .inl (cA, 1000, .inl f)), (h2, .inl (cB, 1000, .inl (wr g Wd [x9])))] → va_S A s.heap H locs → lv_has ls 8 [(0, .ref h0), (1, .int hom), (2, .int nh), (3, .int si), (4, .int rw), (5, .int cl), (7, .int (nI (K + 1)))] → W p l e (headSpec wsX10_move rmX10_move).room s m args below meth c H locs 0 0 Q (F0 m 112 ls []) := by
      have h9 := hnext
      rw [show ch + dT [x9] ((Tmv sh tp lf bt rt hom nh si rw cl) [x9]) = ch by rw [show (Tmv sh tp lf bt rt hom nh si rw cl) [x9] = [x9] from rfl, dT_self, Int32.add_zero]] at h9
      exact h9
    simp only [n0, n1, c0 (show K < 2000 by omega), c0 (show Wd < 2000 by omega), e0] at hP hD hl
    exact hnext H locs ls hP hD hS hl
  · have hK : K + 4 ≤ N := hK
    obtain ⟨e0, -, -, -⟩ := seg4 hs
    intro H locs ls hP hD hS hl
    refine ksmv_4 h0 h1 h2 cA cB cd (nI N) (nI Wd) ch sh tp lf bt rt f g hom nh si rw cl (nI K) C (nI_ge (by omega) (by omega)) ((lenM (by omega) e0).trans (hd4 m9 hm9).2.1) (vp_in_nI (by omega) (by decide)) (vp_in_nI (by omega) (by decide)) ?_ H locs ls hP hD hS hl
    intro H locs ls hP hD hS hl
    rw [sM_mv4 hm9 hs (by omega) (by omega)] at hP hD
    rw [n4] at hl
    exact hnext H locs ls hP hD hS hl
  · have hK : K + 6 ≤ N := hK
    obtain ⟨e0, -, -, -, -, -⟩ := seg6 hs
    intro H locs ls hP hD hS hl
    have hLn := (lenM (f := f) (K := K) (by omega) e0).trans (hd5 m9 hm9).2.1
    refine ksmv_6 h0 h1 h2 cA cB cd (nI N) (nI Wd) ch sh tp lf bt rt f g hom nh si rw cl (nI K) C (nI_ge (by omega) (by omega)) hLn (by rw [hLn]; decide) (vp_in_nI (by omega) (by decide)) (vp_in_nI (by omega) (by decide)) ?_ H locs ls hP hD hS hl
    intro H locs ls hP hD hS hl
    rw [sM_mv6 hm9 hs (by omega) (by omega)] at hP hD
    rw [n6] at hl
    exact hnext H locs ls hP hD hS hl
