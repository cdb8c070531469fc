abbrev rmX10_make : Room := { frames := 0, cells := 0, slots := 0, locals := 0 }
abbrev qX10_make (D : va_G) (sz : Nat) (h0 : Nat) (h1 : Nat) (h2 : Nat) (cA : ClassId) (cB : ClassId) (cd : Int32) (n : Int32) (md : Int32) (ch : Int32) (sh : Int32) (tp : Int32) (lf : Int32) (bt : Int32) (rt : Int32) (f : Nat → Int32) (g : Nat → Int32) (x : Int32) : Array Value → State → Outcome → State → Prop := va_Qv (fun w_9 => ∃ _u : Unit, True ∧ w_9 = [(h0, .inr (8, [.int cd, .int n, .ref h1, .int (md + 1), .ref h2, .int ch, .int sh, .int tp, .int lf, .int bt, .int rt])), (h1, .inl (cA, 1000, .inl f)), (h2, .inl (cB, 1000, .inl (upd g md.toNatClampNeg x)))]) (Bq D (va_A [(h0, .inr (8, [.int cd, .int n, .ref h1, .int md, .ref h2, .int ch, .int sh, .int tp, .int lf, .int bt, .int rt])), (h1, .inl (cA, 1000, .inl f)), (h2, .inl (cB, 1000, .inl g))] sz)) (va_A [(h0, .inr (8, [.int cd, .int n, .ref h1, .int md, .ref h2, .int ch, .int sh, .int tp, .int lf, .int bt, .int rt])), (h1, .inl (cA, 1000, .inl f)), (h2, .inl (cB, 1000, .inl g))] sz)
set_option maxHeartbeats 4000000 in
set_option maxRecDepth 100000 in
theorem kX10_make (l : Launch) (D : va_G) (sz : Nat) (h0 : Nat) (h1 : Nat) (h2 : Nat) (cA : ClassId) (cB : ClassId) (cd : Int32) (n : Int32) (md : Int32) (ch : Int32) (sh : Int32) (tp : Int32) (lf : Int32) (bt : Int32) (rt : Int32) (f : Nat → Int32) (g : Nat → Int32) (x : Int32) (hi : vp_in md 1000) : Met l yX10_make wsX10_make rmX10_make (va_Pc [.ref h0, .int x] (Pw D [(cA, .int), (cB, .int)] [(h0, .inr (8, [.int cd, .int n, .ref h1, .int md, .ref h2, .int ch, .int sh, .int tp, .int lf, .int bt, .int rt])), (h1, .inl (cA, 1000, .inl f)), (h2, .inl (cB, 1000, .inl g))] sz)) (qX10_make D sz h0 h1 h2 cA cB cd n md ch sh tp lf bt rt f g x) 0 0 (va_A [(h0, .inr (8, [.int cd, .int n, .ref h1, .int md, .ref h2, .int ch, .int sh, .int tp, .int lf, .int bt, .int rt])), (h1, .inl (cA, 1000, .inl f)), (h2, .inl (cB, 1000, .inl g))] sz) := by
  refine Met.ofW (cc := cX10_make) (maxL := 2) (ret := none) (by decide) rfl ?_
  intro p e s m args below meth c s₁ B hml hv
  obtain ⟨rfl, hsz, hP, hK, hD0, hN⟩ := hv
  have hx := B.exec
  have hb := B.bytes
  have hr := B.returns
  have hts := atoms_spec (ws := wsX10_make) B.pre
  have hown : s.vm.findClass RX10 = some m.cls := findClass_of_methodNamed B.named
  have hlocks := B.notSynchronized
  subst hsz
  obtain ⟨Q, hQe⟩ : ∃ Q, Q = MQ below (qX10_make D s.heap.size h0 h1 h2 cA cB cd n md ch sh tp lf bt rt f g x) ([.ref h0, .int x] : List Value).toArray s 0 0 (va_A [(h0, .inr (8, [.int cd, .int n, .ref h1, .int md, .ref h2, .int ch, .int sh, .int tp, .int lf, .int bt, .int rt])), (h1, .inl (cA, 1000, .inl f)), (h2, .inl (cB, 1000, .inl g))] s.heap.size) := ⟨_, rfl⟩
  rw [← hQe]
  obtain ⟨A, hAe⟩ : ∃ A, A = va_A [(h0, .inr (8, [.int cd, .int n, .ref h1, .int md, .ref h2, .int ch, .int sh, .int tp, .int lf, .int bt, .int rt])), (h1, .inl (cA, 1000, .inl f)), (h2, .inl (cB, 1000, .inl g))] s.heap.size := ⟨_, rfl⟩
  have hD : va_D A [(h0, .inr (8, [.int cd, .int n, .ref h1, .int md, .ref h2, .int ch, .int sh, .int tp, .int lf, .int bt, .int rt])), (h1, .inl (cA, 1000, .inl f)), (h2, .inl (cB, 1000, .inl g))] := by rw [hAe]; exact hD0.self
  have hA : ∀ q : Nat, s.heap.size ≤ q → A q := by rw [hAe]; exact mo_A
  have hS : va_S A s.heap s.heap [] := va_S.rf
  obtain ⟨H, hHe⟩ : ∃ H, H = s.heap := ⟨_, rfl⟩
  obtain ⟨locs, hLe⟩ : ∃ L : List Loc, L = [] := ⟨_, rfl⟩
  have hP : va_P D vwCl [(h0, .inr (8, [.int cd, .int n, .ref h1, .int md, .ref h2, .int ch, .int sh, .int tp, .int lf, .int bt, .int rt])), (h1, .inl (cA, 1000, .inl f)), (h2, .inl (cB, 1000, .inl g))] H := by rw [hHe]; exact hP
  have hS : va_S A s.heap H locs := by rw [hHe, hLe]; exact hS
  have hl := lv_entry ([.ref h0, .int x]) (n := 2) (Nat.le_of_ble_eq_true rfl)
  rw [lg_entry_eq]
  generalize (lg_sl ([.ref h0, .int x]) ++ List.replicate (2 - (lg_sl ([.ref h0, .int x])).length) Slot.unset).toArray = ls at hl ⊢
  have hl : lv_has ls 2 [(0, .ref h0), (1, .int x)] := hl
  refine hStart hHe hLe ?_
  clear hHe hLe
  have w_X10 : ∀ w ∈ wsX100, w ∈ wsX10_make := by decide +kernel
  have f_13 := hts (.fieldLink RX10 13 "ReferenceMoverModel" "making" "[I") (by decide +kernel)
  have f_48 := hts (.fieldLink RX10 48 "ReferenceMoverModel" "made" "I") (by decide +kernel)
  refine lv_aload_n hx hb dX10_make_0 rfl (lv_at hl 0 rfl) ?_
  refine va_get (D := D) (ci := 8) (v := .ref h2) (C := RX10) (T := TX10) (N := 11) hx hb hts w_X10 hown hK hP 0 rfl rfl 4 (by decide) f_13 (fun _ h9 => h9) rfl dX10_make_1 ?_
  refine lv_aload_n hx hb dX10_make_4 rfl (lv_at hl 0 rfl) ?_
  refine va_get (D := D) (ci := 8) (v := .int md) (C := RX10) (T := TX10) (N := 11) hx hb hts w_X10 hown hK hP 0 rfl rfl 3 (by decide) f_48 (fun _ h9 => h9) rfl dX10_make_5 ?_
  refine lv_iload_n hx hb dX10_make_8 rfl (lv_at hl 1 rfl) ?_
  refine va_iast hx hb hK hP hD hS 2 1 rfl rfl hi dX10_make_9 (fun H locs hP hD hS => ?_)
  have hP : va_P D vwCl [(h0, .inr (8, [.int cd, .int n, .ref h1, .int md, .ref h2, .int ch, .int sh, .int tp, .int lf, .int bt, .int rt])), (h1, .inl (cA, 1000, .inl f)), (h2, .inl (cB, 1000, .inl (upd g md.toNatClampNeg x)))] H := hP
  have hD : va_D A [(h0, .inr (8, [.int cd, .int n, .ref h1, .int md, .ref h2, .int ch, .int sh, .int tp, .int lf, .int bt, .int rt])), (h1, .inl (cA, 1000, .inl f)), (h2, .inl (cB, 1000, .inl (upd g md.toNatClampNeg x)))] := hD
  refine lv_aload_n hx hb dX10_make_10 rfl (lv_at hl 0 rfl) ?_
  refine lv_dup hx hb dX10_make_11 rfl ?_
  refine va_get (D := D) (ci := 8) (v := .int md) (C := RX10) (T := TX10) (N := 11) hx hb hts w_X10 hown hK hP 0 rfl rfl 3 (by decide) f_48 (fun _ h9 => h9) rfl dX10_make_12 ?_
  refine lv_iconst (v := 1) hx hb dX10_make_15 (by decide) ?_
  refine lv_iadd hx hb dX10_make_16 ?_
  refine va_put (D := D) (ci := 8) (v := .int (md + 1)) (ty := .int) (C := RX10) (T := TX10) (N := 11) hx hb hts w_X10 tyX10 tyX10_ok nmX10 hown hK hP hD hS 0 rfl rfl 3 (by decide) f_48 (fun _ h9 => h9) rfl (by decide +kernel) rfl rfl (Nat.le_of_ble_eq_true rfl) dX10_make_17 (fun H locs hP hD hS => ?_)
  have hP : va_P D vwCl [(h0, .inr (8, [.int cd, .int n, .ref h1, .int (md + 1), .ref h2, .int ch, .int sh, .int tp, .int lf, .int bt, .int rt])), (h1, .inl (cA, 1000, .inl f)), (h2, .inl (cB, 1000, .inl (upd g md.toNatClampNeg x)))] H := hP
  have hD : va_D A [(h0, .inr (8, [.int cd, .int n, .ref h1, .int (md + 1), .ref h2, .int ch, .int sh, .int tp, .int lf, .int bt, .int rt])), (h1, .inl (cA, 1000, .inl f)), (h2, .inl (cB, 1000, .inl (upd g md.toNatClampNeg x)))] := hD
  subst hAe
  subst hQe
  exact W.vret hx hb hr (fun t ht hW => ⟨⟨_, rfl, ⟨(), trivial, rfl⟩, by rw [ht]; exact hP, hD⟩, hS.F ht⟩) hS.2.2 dX10_make_20

def fX10_lengthAt (f : Nat → Int32) (k : Int32) : Int32 := if 0 ≤ (f k.toNatClampNeg) then (if ((f k.toNatClampNeg) - (f k.toNatClampNeg) / 16 * 16) = 4 then 4 else (if ((f k.toNatClampNeg) - (f k.toNatClampNeg) / 16 * 16) = 5 then 6 else 1)) else 1
abbrev rmX10_lengthAt : Room := { frames := 0, cells := 0, slots := 0, locals := 0 }
abbrev qX10_lengthAt (D : va_G) (sz : Nat) (h0 : Nat) (h1 : Nat) (h2 : Nat) (cA : ClassId) (cB : ClassId) (cd : Int32) (n : Int32) (md : Int32) (ch : Int32) (sh : Int32) (tp : Int32) (lf : Int32) (bt : Int32) (rt : Int32) (f : Nat → Int32) (g : Nat → Int32) (k : Int32) : Array Value → State → Outcome → State → Prop := vp_Si (fun r_9 => r_9 = (fX10_lengthAt f k))
set_option maxHeartbeats 4000000 in
set_option maxRecDepth 100000 in
theorem kX10_lengthAt (l : Launch) (D : va_G) (sz : Nat) (h0 : Nat) (h1 : Nat) (h2 : Nat) (cA : ClassId) (cB : ClassId) (cd : Int32) (n : Int32) (md : Int32) (ch : Int32) (sh : Int32) (tp : Int32) (lf : Int32) (bt : Int32) (rt : Int32) (f : Nat → Int32) (g : Nat → Int32) (k : Int32) (hk : vp_in k 1000) : Met l yX10_lengthAt wsX10_lengthAt rmX10_lengthAt (va_Pc [.ref h0, .int k] (Pw D [(cA, .int), (cB, .int)] [(h0, .inr (8, [.int cd, .int n, .ref h1, .int md, .ref h2, .int ch, .int sh, .int tp, .int lf, .int bt, .int rt])), (h1, .inl (cA, 1000, .inl f)), (h2, .inl (cB, 1000, .inl g))] sz)) (qX10_lengthAt D sz h0 h1 h2 cA cB cd n md ch sh tp lf bt rt f g k) 0 0 (fun _ => False) := by
  refine Met.ofW (cc := cX10_lengthAt) (maxL := 2) (ret := (some .int)) (by decide) rfl ?_
  intro p e s m args below meth c s₁ B hml hv
  obtain ⟨rfl, hsz, hP, hK, hD0, hN⟩ := hv
  have hx := B.exec
  have hb := B.bytes
  have hr := B.returns
  have hts := atoms_spec (ws := wsX10_lengthAt) B.pre
  have hown : s.vm.findClass RX10 = some m.cls := findClass_of_methodNamed B.named
  have hlocks := B.notSynchronized
  subst hsz
  obtain ⟨Q, hQe⟩ : ∃ Q, Q = MQ below (qX10_lengthAt D s.heap.size h0 h1 h2 cA cB cd n md ch sh tp lf bt rt f g k) ([.ref h0, .int k] : List Value).toArray s 0 0 (fun _ => False) := ⟨_, rfl⟩
  rw [← hQe]
  have hD := hD0
  have hP : va_P D vwCl [(h0, .inr (8, [.int cd, .int n, .ref h1, .int md, .ref h2, .int ch, .int sh, .int tp, .int lf, .int bt, .int rt])), (h1, .inl (cA, 1000, .inl f)), (h2, .inl (cB, 1000, .inl g))] s.heap := hP
  have hl := lv_entry ([.ref h0, .int k]) (n := 2) (Nat.le_of_ble_eq_true rfl)
  rw [lg_entry_eq]
  generalize (lg_sl ([.ref h0, .int k]) ++ List.replicate (2 - (lg_sl ([.ref h0, .int k])).length) Slot.unset).toArray = ls at hl ⊢
  have hl : lv_has ls 2 [(0, .ref h0), (1, .int k)] := hl
  have w_X10 : ∀ w ∈ wsX100, w ∈ wsX10_lengthAt := by decide +kernel
  have f_7 := hts (.fieldLink RX10 7 "ReferenceMoverModel" "words" "[I") (by decide +kernel)
  refine lv_aload_n hx hb dX10_lengthAt_0 rfl (lv_at hl 0 rfl) ?_
  refine va_get (D := D) (ci := 8) (v := .ref h1) (C := RX10) (T := TX10) (N := 11) hx hb hts w_X10 hown hK hP 0 rfl rfl 2 (by decide) f_7 (fun _ h9 => h9) rfl dX10_lengthAt_1 ?_
  refine lv_iload_n hx hb dX10_lengthAt_4 rfl (lv_at hl 1 rfl) ?_
  refine va_iald hx hb hK hP 1 0 rfl rfl hk dX10_lengthAt_5 ?_
  refine lv_if_ge (tgt := 13) hx hb dX10_lengthAt_6 (by decide) (fun c6 => ?_) (fun c6 => ?_)
  · refine lv_aload_n hx hb dX10_lengthAt_13 rfl (lv_at hl 0 rfl) ?_
    refine va_get (D := D) (ci := 8) (v := .ref h1) (C := RX10) (T := TX10) (N := 11) hx hb hts w_X10 hown hK hP 0 rfl rfl 2 (by decide) f_7 (fun _ h9 => h9) rfl dX10_lengthAt_14 ?_
    refine lv_iload_n hx hb dX10_lengthAt_17 rfl (lv_at hl 1 rfl) ?_
    refine va_iald hx hb hK hP 1 0 rfl rfl hk dX10_lengthAt_18 ?_
    refine lv_bipush (v := 16) hx hb dX10_lengthAt_19 (by decide) ?_
    refine lv_irem hx hb dX10_lengthAt_21 (by decide) ?_
    refine lv_iconst (v := 4) hx hb dX10_lengthAt_22 (by decide) ?_
    refine lv_icmp_ne (tgt := 30) hx hb dX10_lengthAt_23 (by decide) (fun c23 => ?_) (fun c23 => ?_)
    · refine lv_aload_n hx hb dX10_lengthAt_30 rfl (lv_at hl 0 rfl) ?_
      refine va_get (D := D) (ci := 8) (v := .ref h1) (C := RX10) (T := TX10) (N := 11) hx hb hts w_X10 hown hK hP 0 rfl rfl 2 (by decide) f_7 (fun _ h9 => h9) rfl dX10_lengthAt_31 ?_
      refine lv_iload_n hx hb dX10_lengthAt_34 rfl (lv_at hl 1 rfl) ?_
      refine va_iald hx hb hK hP 1 0 rfl rfl hk dX10_lengthAt_35 ?_
      refine lv_bipush (v := 16) hx hb dX10_lengthAt_36 (by decide) ?_
      refine lv_irem hx hb dX10_lengthAt_38 (by decide) ?_
      refine lv_iconst (v := 5) hx hb dX10_lengthAt_39 (by decide) ?_
      refine lv_icmp_ne (tgt := 48) hx hb dX10_lengthAt_40 (by decide) (fun c40 => ?_) (fun c40 => ?_)
      · refine lv_iconst (v := 1) hx hb dX10_lengthAt_48 (by decide) ?_
        have hF : (fX10_lengthAt f k) = 1 := by exact ((if_pos c6).trans ((if_neg c23).trans (if_neg c40)))
        subst hQe
        exact W.iret (v := 1) hx hb hr (fun t ht hW => ⟨_, rfl, hF.symm, ht⟩) (fun q h => absurd h List.not_mem_nil) dX10_lengthAt_49
      · refine lv_bipush (v := 6) hx hb dX10_lengthAt_43 (by decide) ?_
        refine lv_goto (tgt := 49) hx hb dX10_lengthAt_45 (by decide) ?_
        have hF : (fX10_lengthAt f k) = 6 := by exact ((if_pos c6).trans ((if_neg c23).trans (if_pos c40)))
        subst hQe
        exact W.iret (v := 6) hx hb hr (fun t ht hW => ⟨_, rfl, hF.symm, ht⟩) (fun q h => absurd h List.not_mem_nil) dX10_lengthAt_49
    · refine lv_iconst (v := 4) hx hb dX10_lengthAt_26 (by decide) ?_
      refine lv_goto (tgt := 49) hx hb dX10_lengthAt_27 (by decide) ?_
      have hF : (fX10_lengthAt f k) = 4 := by exact ((if_pos c6).trans (if_pos c23))
      subst hQe
      exact W.iret (v := 4) hx hb hr (fun t ht hW => ⟨_, rfl, hF.symm, ht⟩) (fun q h => absurd h List.not_mem_nil) dX10_lengthAt_49
  · refine lv_iconst (v := 1) hx hb dX10_lengthAt_9 (by decide) ?_
    refine lv_goto (tgt := 49) hx hb dX10_lengthAt_10 (by decide) ?_
    have hF : (fX10_lengthAt f k) = 1 := by exact (if_neg c6)
    subst hQe
    exact W.iret (v := 1) hx hb hr (fun t ht hW => ⟨_, rfl, hF.symm, ht⟩) (fun q h => absurd h List.not_mem_nil) dX10_lengthAt_49

abbrev rmX10_lose : Room := { frames := 1, cells := 0, slots := 0, locals := 21 }
abbrev qX10_lose (D : va_G) (sz : Nat) (h0 : Nat) (h1 : Nat) (h2 : Nat) (cA : ClassId) (cB : ClassId) (cd : Int32) (n : Int32) (md : Int32) (ch : Int32) (sh : Int32) (tp : Int32) (lf : Int32) (bt : Int32) (rt : Int32) (f : Nat → Int32) (g : Nat → Int32) : Array Value → State → Outcome → State → Prop := va_Qv (fun w_9 => ∃ _u : Unit, True ∧ w_9 = [(h0, .inr (8, [.int cd, .int n, .ref h1, .int (md + 1), .ref h2, .int (ch + 1), .int sh, .int tp, .int lf, .int bt, .int rt])), (h1, .inl (cA, 1000, .inl f)), (h2, .inl (cB, 1000, .inl (upd g md.toNatClampNeg 67)))]) (Bq D (va_A [(h0, .inr (8, [.int cd, .int n, .ref h1, .int md, .ref h2, .int ch, .int sh, .int tp, .int lf, .int bt, .int rt])), (h1, .inl (cA, 1000, .inl f)), (h2, .inl (cB, 1000, .inl g))] sz)) (va_A [(h0, .inr (8, [.int cd, .int n, .ref h1, .int md, .ref h2, .int ch, .int sh, .int tp, .int lf, .int bt, .int rt])), (h1, .inl (cA, 1000, .inl f)), (h2, .inl (cB, 1000, .inl g))] sz)
set_option maxHeartbeats 4000000 in
set_option maxRecDepth 100000 in
theorem kX10_lose (l : Launch) (D : va_G) (sz : Nat) (h0 : Nat) (h1 : Nat) (h2 : Nat) (cA : ClassId) (cB : ClassId) (cd : Int32) (n : Int32) (md : Int32) (ch : Int32) (sh : Int32) (tp : Int32) (lf : Int32) (bt : Int32) (rt : Int32) (f : Nat → Int32) (g : Nat → Int32) (hm : vp_in md 1000) : Met l yX10_lose wsX10_lose rmX10_lose (va_Pc [.ref h0] (Pw D [(cA, .int), (cB, .int)] [(h0, .inr (8, [.int cd, .int n, .ref h1, .int md, .ref h2, .int ch, .int sh, .int tp, .int lf, .int bt, .int rt])), (h1, .inl (cA, 1000, .inl f)), (h2, .inl (cB, 1000, .inl g))] sz)) (qX10_lose D sz h0 h1 h2 cA cB cd n md ch sh tp lf bt rt f g) 0 0 (va_A [(h0, .inr (8, [.int cd, .int n, .ref h1, .int md, .ref h2, .int ch, .int sh, .int tp, .int lf, .int bt, .int rt])), (h1, .inl (cA, 1000, .inl f)), (h2, .inl (cB, 1000, .inl g))] sz) := by
  refine Met.ofW (cc := cX10_lose) (maxL := 1) (ret := none) (by decide) rfl ?_
  intro p e s m args below meth c s₁ B hml hv
  obtain ⟨rfl, hsz, hP, hK, hD0, hN⟩ := hv
  have hx := B.exec
  have hb := B.bytes
  have hr := B.returns
  have hts := atoms_spec (ws := wsX10_lose) B.pre
  have hown : s.vm.findClass RX10 = some m.cls := findClass_of_methodNamed B.named
  have hlocks := B.notSynchronized
  subst hsz
  obtain ⟨Q, hQe⟩ : ∃ Q, Q = MQ below (qX10_lose D s.heap.size h0 h1 h2 cA cB cd n md ch sh tp lf bt rt f g) ([.ref h0] : List Value).toArray s 0 0 (va_A [(h0, .inr (8, [.int cd, .int n, .ref h1, .int md, .ref h2, .int ch, .int sh, .int tp, .int lf, .int bt, .int rt])), (h1, .inl (cA, 1000, .inl f)), (h2, .inl (cB, 1000, .inl g))] s.heap.size) := ⟨_, rfl⟩
  rw [← hQe]
  obtain ⟨A, hAe⟩ : ∃ A, A = va_A [(h0, .inr (8, [.int cd, .int n, .ref h1, .int md, .ref h2, .int ch, .int sh, .int tp, .int lf, .int bt, .int rt])), (h1, .inl (cA, 1000, .inl f)), (h2, .inl (cB, 1000, .inl g))] s.heap.size := ⟨_, rfl⟩
  have hD : va_D A [(h0, .inr (8, [.int cd, .int n, .ref h1, .int md, .ref h2, .int ch, .int sh, .int tp, .int lf, .int bt, .int rt])), (h1, .inl (cA, 1000, .inl f)), (h2, .inl (cB, 1000, .inl g))] := by rw [hAe]; exact hD0.self
  have hA : ∀ q : Nat, s.heap.size ≤ q → A q := by rw [hAe]; exact mo_A
  have hS : va_S A s.heap s.heap [] := va_S.rf
  obtain ⟨H, hHe⟩ : ∃ H, H = s.heap := ⟨_, rfl⟩
  obtain ⟨locs, hLe⟩ : ∃ L : List Loc, L = [] := ⟨_, rfl⟩
  have hP : va_P D vwCl [(h0, .inr (8, [.int cd, .int n, .ref h1, .int md, .ref h2, .int ch, .int sh, .int tp, .int lf, .int bt, .int rt])), (h1, .inl (cA, 1000, .inl f)), (h2, .inl (cB, 1000, .inl g))] H := by rw [hHe]; exact hP
  have hS : va_S A s.heap H locs := by rw [hHe, hLe]; exact hS
  have hl := lv_entry ([.ref h0]) (n := 1) (Nat.le_of_ble_eq_true rfl)
  rw [lg_entry_eq]
  generalize (lg_sl ([.ref h0]) ++ List.replicate (1 - (lg_sl ([.ref h0])).length) Slot.unset).toArray = ls at hl ⊢
  have hl : lv_has ls 1 [(0, .ref h0)] := hl
  refine hStart hHe hLe ?_
  clear hHe hLe
  have w_X10 : ∀ w ∈ wsX100, w ∈ wsX10_lose := by decide +kernel
  have f_54 := hts (.fieldLink RX10 54 "ReferenceMoverModel" "changed" "I") (by decide +kernel)
  refine lv_aload_n hx hb dX10_lose_0 rfl (lv_at hl 0 rfl) ?_
  refine lv_bipush (v := 67) hx hb dX10_lose_1 (by decide) ?_
  have hPc := hP.sub (ws' := [(h0, .inr (8, [.int cd, .int n, .ref h1, .int md, .ref h2, .int ch, .int sh, .int tp, .int lf, .int bt, .int rt])), (h1, .inl (cA, 1000, .inl f)), (h2, .inl (cB, 1000, .inl g))]) [0, 1, 2] rfl
  have hDc := hD.sub (ws' := [(h0, .inr (8, [.int cd, .int n, .ref h1, .int md, .ref h2, .int ch, .int sh, .int tp, .int lf, .int bt, .int rt])), (h1, .inl (cA, 1000, .inl f)), (h2, .inl (cB, 1000, .inl g))]) [0, 1, 2] (by decide) rfl
  have hKc := hK.sub (tys' := [(cA, .int), (cB, .int)]) [0, 1] rfl
  refine wk_v (β := Unit) (ok := fun _ => True) (wc := [(h0, .inr (8, [.int cd, .int n, .ref h1, .int md, .ref h2, .int ch, .int sh, .int tp, .int lf, .int bt, .int rt])), (h1, .inl (cA, 1000, .inl f)), (h2, .inl (cB, 1000, .inl g))]) (wr := []) (w1 := fun _ => [(h0, .inr (8, [.int cd, .int n, .ref h1, .int (md + 1), .ref h2, .int ch, .int sh, .int tp, .int lf, .int bt, .int rt])), (h1, .inl (cA, 1000, .inl f)), (h2, .inl (cB, 1000, .inl (upd g md.toNatClampNeg 67)))]) (ws2 := fun _ => [(h0, .inr (8, [.int cd, .int n, .ref h1, .int (md + 1), .ref h2, .int ch, .int sh, .int tp, .int lf, .int bt, .int rt])), (h1, .inl (cA, 1000, .inl f)), (h2, .inl (cB, 1000, .inl (upd g md.toNatClampNeg 67)))]) (va_runV (As := [.int 67]) (rest := []) ⟨hx, hb, hml, hown, hts⟩ (kX10_make l D H.size h0 h1 h2 cA cB cd n md ch sh tp lf bt rt f g 67 hm) (cwV 1 hts gX10_lose_X10_make rfl rfl rfl (by decide +kernel) ⟨Nat.le_of_ble_eq_true rfl, Nat.le_of_ble_eq_true rfl⟩) ⟨Pw_blind, (va_recv hKc hPc (ci := 8) (q0 := 0) rfl rfl), fun U hU hW => Pw_at hKc hPc hDc hN hU hW⟩ rfl rfl hl.1 rfl (lv_room (Nat.le_of_ble_eq_true rfl)) dX10_lose_3 ⟨Nat.le_of_ble_eq_true rfl, Nat.le_of_ble_eq_true rfl⟩) hP hD hS hA [0, 1, 2] [] [0, 1, 2] rfl rfl (by decide) (by decide) (fun _ => rfl) (by decide) (fun _ _ H locs hP hD hS => ?_)
  have hP : va_P D vwCl [(h0, .inr (8, [.int cd, .int n, .ref h1, .int (md + 1), .ref h2, .int ch, .int sh, .int tp, .int lf, .int bt, .int rt])), (h1, .inl (cA, 1000, .inl f)), (h2, .inl (cB, 1000, .inl (upd g md.toNatClampNeg 67)))] H := hP
  have hD : va_D A [(h0, .inr (8, [.int cd, .int n, .ref h1, .int (md + 1), .ref h2, .int ch, .int sh, .int tp, .int lf, .int bt, .int rt])), (h1, .inl (cA, 1000, .inl f)), (h2, .inl (cB, 1000, .inl (upd g md.toNatClampNeg 67)))] := hD
  refine lv_aload_n hx hb dX10_lose_6 rfl (lv_at hl 0 rfl) ?_
  refine lv_dup hx hb dX10_lose_7 rfl ?_
  refine va_get (D := D) (ci := 8) (v := .int ch) (C := RX10) (T := TX10) (N := 11) hx hb hts w_X10 hown hK hP 0 rfl rfl 5 (by decide) f_54 (fun _ h9 => h9) rfl dX10_lose_8 ?_
  refine lv_iconst (v := 1) hx hb dX10_lose_11 (by decide) ?_
  refine lv_iadd hx hb dX10_lose_12 ?_
  refine va_put (D := D) (ci := 8) (v := .int (ch + 1)) (ty := .int) (C := RX10) (T := TX10) (N := 11) hx hb hts w_X10 tyX10 tyX10_ok nmX10 hown hK hP hD hS 0 rfl rfl 5 (by decide) f_54 (fun _ h9 => h9) rfl (by decide +kernel) rfl rfl (Nat.le_of_ble_eq_true rfl) dX10_lose_13 (fun H locs hP hD hS => ?_)
  have hP : va_P D vwCl [(h0, .inr (8, [.int cd, .int n, .ref h1, .int (md + 1), .ref h2, .int (ch + 1), .int sh, .int tp, .int lf, .int bt, .int rt])), (h1, .inl (cA, 1000, .inl f)), (h2, .inl (cB, 1000, .inl (upd g md.toNatClampNeg 67)))] H := hP
  have hD : va_D A [(h0, .inr (8, [.int cd, .int n, .ref h1, .int (md + 1), .ref h2, .int (ch + 1), .int sh, .int tp, .int lf, .int bt, .int rt])), (h1, .inl (cA, 1000, .inl f)), (h2, .inl (cB, 1000, .inl (upd g md.toNatClampNeg 67)))] := hD
  subst hAe
  subst hQe
  exact W.vret hx hb hr (fun t ht hW => ⟨⟨_, rfl, ⟨(), trivial, rfl⟩, by rw [ht]; exact hP, hD⟩, hS.F ht⟩) hS.2.2 dX10_lose_16

def fX10_makePlace (md : Int32) (ch : Int32) (f : Nat → Int32) (g : Nat → Int32) (k : Int32) (p1 : Int32) (p2 : Int32) (p3 : Int32) : Int32 × Int32 × (Nat → Int32) := let v_1 : Int32 := (if p1 = (f (k + 1).toNatClampNeg) then (if p2 = (f (k + 2).toNatClampNeg) then (if p3 = (f (k + 3).toNatClampNeg) then 0 else 1) else 1) else 1); (((((md + 1) + 1) + 1) + 1), (ch + v_1), (upd (upd (upd (upd g md.toNatClampNeg (f k.toNatClampNeg)) (md + 1).toNatClampNeg p1) ((md + 1) + 1).toNatClampNeg p2) (((md + 1) + 1) + 1).toNatClampNeg p3))
abbrev rmX10_makePlace : Room := { frames := 1, cells := 0, slots := 0, locals := 21 }
abbrev qX10_makePlace (D : va_G) (sz : Nat) (h0 : Nat) (h1 : Nat) (h2 : Nat) (cA : ClassId) (cB : ClassId) (cd : Int32) (n : Int32) (md : Int32) (ch : Int32) (sh : Int32) (tp : Int32) (lf : Int32) (bt : Int32) (rt : Int32) (f : Nat → Int32) (g : Nat → Int32) (k : Int32) (p1 : Int32) (p2 : Int32) (p3 : Int32) : Array Value → State → Outcome → State → Prop := va_Qv (fun w_9 => ∃ _u : Unit, True ∧ w_9 = [(h0, .inr (8, [.int cd, .int n, .ref h1, .int (fX10_makePlace md ch f g k p1 p2 p3).1, .ref h2, .int (fX10_makePlace md ch f g k p1 p2 p3).2.1, .int sh, .int tp, .int lf, .int bt, .int rt])), (h1, .inl (cA, 1000, .inl f)), (h2, .inl (cB, 1000, .inl (fX10_makePlace md ch f g k p1 p2 p3).2.2))]) (Bq D (va_A [(h0, .inr (8, [.int cd, .int n, .ref h1, .int md, .ref h2, .int ch, .int sh, .int tp, .int lf, .int bt, .int rt])), (h1, .inl (cA, 1000, .inl f)), (h2, .inl (cB, 1000, .inl g))] sz)) (va_A [(h0, .inr (8, [.int cd, .int n, .ref h1, .int md, .ref h2, .int ch, .int sh, .int tp, .int lf, .int bt, .int rt])), (h1, .inl (cA, 1000, .inl f)), (h2, .inl (cB, 1000, .inl g))] sz)
set_option maxHeartbeats 4000000 in
set_option maxRecDepth 100000 in
theorem kX10_makePlace (l : Launch) (D : va_G) (sz : Nat) (h0 : Nat) (h1 : Nat) (h2 : Nat) (cA : ClassId) (cB : ClassId) (cd : Int32) (n : Int32) (md : Int32) (ch : Int32) (sh : Int32) (tp : Int32) (lf : Int32) (bt : Int32) (rt : Int32) (f : Nat → Int32) (g : Nat → Int32) (k : Int32) (p1 : Int32) (p2 : Int32) (p3 : Int32) (hk : vp_in k 997) (hm : vp_in md 997) : Met l yX10_makePlace wsX10_makePlace rmX10_makePlace (va_Pc [.ref h0, .int k, .int p1, .int p2, .int p3] (Pw D [(cA, .int), (cB, .int)] [(h0, .inr (8, [.int cd, .int n, .ref h1, .int md, .ref h2, .int ch, .int sh, .int tp, .int lf, .int bt, .int rt])), (h1, .inl (cA, 1000, .inl f)), (h2, .inl (cB, 1000, .inl g))] sz)) (qX10_makePlace D sz h0 h1 h2 cA cB cd n md ch sh tp lf bt rt f g k p1 p2 p3) 0 0 (va_A [(h0, .inr (8, [.int cd, .int n, .ref h1, .int md, .ref h2, .int ch, .int sh, .int tp, .int lf, .int bt, .int rt])), (h1, .inl (cA, 1000, .inl f)), (h2, .inl (cB, 1000, .inl g))] sz) := by
  refine Met.ofW (cc := cX10_makePlace) (maxL := 5) (ret := none) (by decide) rfl ?_
  intro p e s m args below meth c s₁ B hml hv
  obtain ⟨rfl, hsz, hP, hK, hD0, hN⟩ := hv
  have hx := B.exec
  have hb := B.bytes
  have hr := B.returns
  have hts := atoms_spec (ws := wsX10_makePlace) B.pre
  have hown : s.vm.findClass RX10 = some m.cls := findClass_of_methodNamed B.named
  have hlocks := B.notSynchronized
  subst hsz
  obtain ⟨Q, hQe⟩ : ∃ Q, Q = MQ below (qX10_makePlace D s.heap.size h0 h1 h2 cA cB cd n md ch sh tp lf bt rt f g k p1 p2 p3) ([.ref h0, .int k, .int p1, .int p2, .int p3] : List Value).toArray s 0 0 (va_A [(h0, .inr (8, [.int cd, .int n, .ref h1, .int md, .ref h2, .int ch, .int sh, .int tp, .int lf, .int bt, .int rt])), (h1, .inl (cA, 1000, .inl f)), (h2, .inl (cB, 1000, .inl g))] s.heap.size) := ⟨_, rfl⟩
  rw [← hQe]
  obtain ⟨A, hAe⟩ : ∃ A, A = va_A [(h0, .inr (8, [.int cd, .int n, .ref h1, .int md, .ref h2, .int ch, .int sh, .int tp, .int lf, .int bt, .int rt])), (h1, .inl (cA, 1000, .inl f)), (h2, .inl (cB, 1000, .inl g))] s.heap.size := ⟨_, rfl⟩
  have hD : va_D A [(h0, .inr (8, [.int cd, .int n, .ref h1, .int md, .ref h2, .int ch, .int sh, .int tp, .int lf, .int bt, .int rt])), (h1, .inl (cA, 1000, .inl f)), (h2, .inl (cB, 1000, .inl g))] := by rw [hAe]; exact hD0.self
  have hA : ∀ q : Nat, s.heap.size ≤ q → A q := by rw [hAe]; exact mo_A
  have hS : va_S A s.heap s.heap [] := va_S.rf
  obtain ⟨H, hHe⟩ : ∃ H, H = s.heap := ⟨_, rfl⟩
  obtain ⟨locs, hLe⟩ : ∃ L : List Loc, L = [] := ⟨_, rfl⟩
  have hP : va_P D vwCl [(h0, .inr (8, [.int cd, .int n, .ref h1, .int md, .ref h2, .int ch, .int sh, .int tp, .int lf, .int bt, .int rt])), (h1, .inl (cA, 1000, .inl f)), (h2, .inl (cB, 1000, .inl g))] H := by rw [hHe]; exact hP
  have hS : va_S A s.heap H locs := by rw [hHe, hLe]; exact hS
  have hl := lv_entry ([.ref h0, .int k, .int p1, .int p2, .int p3]) (n := 5) (Nat.le_of_ble_eq_true rfl)
  rw [lg_entry_eq]
  generalize (lg_sl ([.ref h0, .int k, .int p1, .int p2, .int p3]) ++ List.replicate (5 - (lg_sl ([.ref h0, .int k, .int p1, .int p2, .int p3])).length) Slot.unset).toArray = ls at hl ⊢
  have hl : lv_has ls 5 [(0, .ref h0), (1, .int k), (2, .int p1), (3, .int p2), (4, .int p3)] := hl
  refine hStart hHe hLe ?_
  clear hHe hLe
  have w_X10 : ∀ w ∈ wsX100, w ∈ wsX10_makePlace := by decide +kernel
  have f_54 := hts (.fieldLink RX10 54 "ReferenceMoverModel" "changed" "I") (by decide +kernel)
  have f_7 := hts (.fieldLink RX10 7 "ReferenceMoverModel" "words" "[I") (by decide +kernel)
  refine lv_aload_n hx hb dX10_makePlace_0 rfl (lv_at hl 0 rfl) ?_
  refine lv_dup hx hb dX10_makePlace_1 rfl ?_
  refine va_get (D := D) (ci := 8) (v := .int ch) (C := RX10) (T := TX10) (N := 11) hx hb hts w_X10 hown hK hP 0 rfl rfl 5 (by decide) f_54 (fun _ h9 => h9) rfl dX10_makePlace_2 ?_
  refine lv_iload_n hx hb dX10_makePlace_5 rfl (lv_at hl 2 rfl) ?_
  refine lv_aload_n hx hb dX10_makePlace_6 rfl (lv_at hl 0 rfl) ?_
  refine va_get (D := D) (ci := 8) (v := .ref h1) (C := RX10) (T := TX10) (N := 11) hx hb hts w_X10 hown hK hP 0 rfl rfl 2 (by decide) f_7 (fun _ h9 => h9) rfl dX10_makePlace_7 ?_
  refine lv_iload_n hx hb dX10_makePlace_10 rfl (lv_at hl 1 rfl) ?_
  refine lv_iconst (v := 1) hx hb dX10_makePlace_11 (by decide) ?_
  refine lv_iadd hx hb dX10_makePlace_12 ?_
  refine va_iald hx hb hK hP 1 0 rfl rfl (in_add (c := 1) (n := 1000) hk (by decide) (by decide) (by decide)) dX10_makePlace_13 ?_
  have K47_1 : ∀ (v_1 : Int32), v_1 = (if p1 = (f (k + 1).toNatClampNeg) then (if p2 = (f (k + 2).toNatClampNeg) then (if p3 = (f (k + 3).toNatClampNeg) then 0 else 1) else 1) else 1) → ∀ ls : Array Slot, lv_has ls 5 [(0, .ref h0), (1, .int k), (2, .int p1), (3, .int p2), (4, .int p3)] → W p l e (headSpec wsX10_makePlace rmX10_makePlace).room s m ([.ref h0, .int k, .int p1, .int p2, .int p3] : List Value).toArray below meth c H locs 0 0 Q (F0 m 47 ls [.int v_1, .int ch, .ref h0]) := by
    intro v_1 ev_1 ls hl
    refine lv_iadd hx hb dX10_makePlace_47 ?_
    refine va_put (D := D) (ci := 8) (v := .int (ch + v_1)) (ty := .int) (C := RX10) (T := TX10) (N := 11) hx hb hts w_X10 tyX10 tyX10_ok nmX10 hown hK hP hD hS 0 rfl rfl 5 (by decide) f_54 (fun _ h9 => h9) rfl (by decide +kernel) rfl rfl (Nat.le_of_ble_eq_true rfl) dX10_makePlace_48 (fun H locs hP hD hS => ?_)
    have hP : va_P D vwCl [(h0, .inr (8, [.int cd, .int n, .ref h1, .int md, .ref h2, .int (ch + v_1), .int sh, .int tp, .int lf, .int bt, .int rt])), (h1, .inl (cA, 1000, .inl f)), (h2, .inl (cB, 1000, .inl g))] H := hP
    have hD : va_D A [(h0, .inr (8, [.int cd, .int n, .ref h1, .int md, .ref h2, .int (ch + v_1), .int sh, .int tp, .int lf, .int bt, .int rt])), (h1, .inl (cA, 1000, .inl f)), (h2, .inl (cB, 1000, .inl g))] := hD
    refine lv_aload_n hx hb dX10_makePlace_51 rfl (lv_at hl 0 rfl) ?_
    refine lv_aload_n hx hb dX10_makePlace_52 rfl (lv_at hl 0 rfl) ?_
    refine va_get (D := D) (ci := 8) (v := .ref h1) (C := RX10) (T := TX10) (N := 11) hx hb hts w_X10 hown hK hP 0 rfl rfl 2 (by decide) f_7 (fun _ h9 => h9) rfl dX10_makePlace_53 ?_
    refine lv_iload_n hx hb dX10_makePlace_56 rfl (lv_at hl 1 rfl) ?_
    refine va_iald hx hb hK hP 1 0 rfl rfl (in_w hk (by decide)) dX10_makePlace_57 ?_
    have hPc := hP.sub (ws' := [(h0, .inr (8, [.int cd, .int n, .ref h1, .int md, .ref h2, .int (ch + v_1), .int sh, .int tp, .int lf, .int bt, .int rt])), (h1, .inl (cA, 1000, .inl f)), (h2, .inl (cB, 1000, .inl g))]) [0, 1, 2] rfl
    have hDc := hD.sub (ws' := [(h0, .inr (8, [.int cd, .int n, .ref h1, .int md, .ref h2, .int (ch + v_1), .int sh, .int tp, .int lf, .int bt, .int rt])), (h1, .inl (cA, 1000, .inl f)), (h2, .inl (cB, 1000, .inl g))]) [0, 1, 2] (by decide) rfl
    have hKc := hK.sub (tys' := [(cA, .int), (cB, .int)]) [0, 1] rfl
    refine wk_v (β := Unit) (ok := fun _ => True) (wc := [(h0, .inr (8, [.int cd, .int n, .ref h1, .int md, .ref h2, .int (ch + v_1), .int sh, .int tp, .int lf, .int bt, .int rt])), (h1, .inl (cA, 1000, .inl f)), (h2, .inl (cB, 1000, .inl g))]) (wr := []) (w1 := fun _ => [(h0, .inr (8, [.int cd, .int n, .ref h1, .int (md + 1), .ref h2, .int (ch + v_1), .int sh, .int tp, .int lf, .int bt, .int rt])), (h1, .inl (cA, 1000, .inl f)), (h2, .inl (cB, 1000, .inl (upd g md.toNatClampNeg (f k.toNatClampNeg))))]) (ws2 := fun _ => [(h0, .inr (8, [.int cd, .int n, .ref h1, .int (md + 1), .ref h2, .int (ch + v_1), .int sh, .int tp, .int lf, .int bt, .int rt])), (h1, .inl (cA, 1000, .inl f)), (h2, .inl (cB, 1000, .inl (upd g md.toNatClampNeg (f k.toNatClampNeg))))]) (va_runV (As := [.int (f k.toNatClampNeg)]) (rest := []) ⟨hx, hb, hml, hown, hts⟩ (kX10_make l D H.size h0 h1 h2 cA cB cd n md (ch + v_1) sh tp lf bt rt f g (f k.toNatClampNeg) (in_w hm (by decide))) (cwV 1 hts gX10_makePlace_X10_make rfl rfl rfl (by decide +kernel) ⟨Nat.le_of_ble_eq_true rfl, Nat.le_of_ble_eq_true rfl⟩) ⟨Pw_blind, (va_recv hKc hPc (ci := 8) (q0 := 0) rfl rfl), fun U hU hW => Pw_at hKc hPc hDc hN hU hW⟩ rfl rfl hl.1 rfl (lv_room (Nat.le_of_ble_eq_true rfl)) dX10_makePlace_58 ⟨Nat.le_of_ble_eq_true rfl, Nat.le_of_ble_eq_true rfl⟩) hP hD hS hA [0, 1, 2] [] [0, 1, 2] rfl rfl (by decide) (by decide) (fun _ => rfl) (by decide) (fun _ _ H locs hP hD hS => ?_)
    have hP : va_P D vwCl [(h0, .inr (8, [.int cd, .int n, .ref h1, .int (md + 1), .ref h2, .int (ch + v_1), .int sh, .int tp, .int lf, .int bt, .int rt])), (h1, .inl (cA, 1000, .inl f)), (h2, .inl (cB, 1000, .inl (upd g md.toNatClampNeg (f k.toNatClampNeg))))] H := hP
    have hD : va_D A [(h0, .inr (8, [.int cd, .int n, .ref h1, .int (md + 1), .ref h2, .int (ch + v_1), .int sh, .int tp, .int lf, .int bt, .int rt])), (h1, .inl (cA, 1000, .inl f)), (h2, .inl (cB, 1000, .inl (upd g md.toNatClampNeg (f k.toNatClampNeg))))] := hD
    refine lv_aload_n hx hb dX10_makePlace_61 rfl (lv_at hl 0 rfl) ?_
    refine lv_iload_n hx hb dX10_makePlace_62 rfl (lv_at hl 2 rfl) ?_
    have hPc := hP.sub (ws' := [(h0, .inr (8, [.int cd, .int n, .ref h1, .int (md + 1), .ref h2, .int (ch + v_1), .int sh, .int tp, .int lf, .int bt, .int rt])), (h1, .inl (cA, 1000, .inl f)), (h2, .inl (cB, 1000, .inl (upd g md.toNatClampNeg (f k.toNatClampNeg))))]) [0, 1, 2] rfl
    have hDc := hD.sub (ws' := [(h0, .inr (8, [.int cd, .int n, .ref h1, .int (md + 1), .ref h2, .int (ch + v_1), .int sh, .int tp, .int lf, .int bt, .int rt])), (h1, .inl (cA, 1000, .inl f)), (h2, .inl (cB, 1000, .inl (upd g md.toNatClampNeg (f k.toNatClampNeg))))]) [0, 1, 2] (by decide) rfl
    have hKc := hK.sub (tys' := [(cA, .int), (cB, .int)]) [0, 1] rfl
    refine wk_v (β := Unit) (ok := fun _ => True) (wc := [(h0, .inr (8, [.int cd, .int n, .ref h1, .int (md + 1), .ref h2, .int (ch + v_1), .int sh, .int tp, .int lf, .int bt, .int rt])), (h1, .inl (cA, 1000, .inl f)), (h2, .inl (cB, 1000, .inl (upd g md.toNatClampNeg (f k.toNatClampNeg))))]) (wr := []) (w1 := fun _ => [(h0, .inr (8, [.int cd, .int n, .ref h1, .int ((md + 1) + 1), .ref h2, .int (ch + v_1), .int sh, .int tp, .int lf, .int bt, .int rt])), (h1, .inl (cA, 1000, .inl f)), (h2, .inl (cB, 1000, .inl (upd (upd g md.toNatClampNeg (f k.toNatClampNeg)) (md + 1).toNatClampNeg p1)))]) (ws2 := fun _ => [(h0, .inr (8, [.int cd, .int n, .ref h1, .int ((md + 1) + 1), .ref h2, .int (ch + v_1), .int sh, .int tp, .int lf, .int bt, .int rt])), (h1, .inl (cA, 1000, .inl f)), (h2, .inl (cB, 1000, .inl (upd (upd g md.toNatClampNeg (f k.toNatClampNeg)) (md + 1).toNatClampNeg p1)))]) (va_runV (As := [.int p1]) (rest := []) ⟨hx, hb, hml, hown, hts⟩ (kX10_make l D H.size h0 h1 h2 cA cB cd n (md + 1) (ch + v_1) sh tp lf bt rt f (upd g md.toNatClampNeg (f k.toNatClampNeg)) p1 (in_add (c := 1) (n := 1000) hm (by decide) (by decide) (by decide))) (cwV 1 hts gX10_makePlace_X10_make rfl rfl rfl (by decide +kernel) ⟨Nat.le_of_ble_eq_true rfl, Nat.le_of_ble_eq_true rfl⟩) ⟨Pw_blind, (va_recv hKc hPc (ci := 8) (q0 := 0) rfl rfl), fun U hU hW => Pw_at hKc hPc hDc hN hU hW⟩ rfl rfl hl.1 rfl (lv_room (Nat.le_of_ble_eq_true rfl)) dX10_makePlace_63 ⟨Nat.le_of_ble_eq_true rfl, Nat.le_of_ble_eq_true rfl⟩) hP hD hS hA [0, 1, 2] [] [0, 1, 2] rfl rfl (by decide) (by decide) (fun _ => rfl) (by decide) (fun _ _ H locs hP hD hS => ?_)
    have hP : va_P D vwCl [(h0, .inr (8, [.int cd, .int n, .ref h1, .int ((md + 1) + 1), .ref h2, .int (ch + v_1), .int sh, .int tp, .int lf, .int bt, .int rt])), (h1, .inl (cA, 1000, .inl f)), (h2, .inl (cB, 1000, .inl (upd (upd g md.toNatClampNeg (f k.toNatClampNeg)) (md + 1).toNatClampNeg p1)))] H := hP
    have hD : va_D A [(h0, .inr (8, [.int cd, .int n, .ref h1, .int ((md + 1) + 1), .ref h2, .int (ch + v_1), .int sh, .int tp, .int lf, .int bt, .int rt])), (h1, .inl (cA, 1000, .inl f)), (h2, .inl (cB, 1000, .inl (upd (upd g md.toNatClampNeg (f k.toNatClampNeg)) (md + 1).toNatClampNeg p1)))] := hD
    refine lv_aload_n hx hb dX10_makePlace_66 rfl (lv_at hl 0 rfl) ?_
    refine lv_iload_n hx hb dX10_makePlace_67 rfl (lv_at hl 3 rfl) ?_
    have hPc := hP.sub (ws' := [(h0, .inr (8, [.int cd, .int n, .ref h1, .int ((md + 1) + 1), .ref h2, .int (ch + v_1), .int sh, .int tp, .int lf, .int bt, .int rt])), (h1, .inl (cA, 1000, .inl f)), (h2, .inl (cB, 1000, .inl (upd (upd g md.toNatClampNeg (f k.toNatClampNeg)) (md + 1).toNatClampNeg p1)))]) [0, 1, 2] rfl
    have hDc := hD.sub (ws' := [(h0, .inr (8, [.int cd, .int n, .ref h1, .int ((md + 1) + 1), .ref h2, .int (ch + v_1), .int sh, .int tp, .int lf, .int bt, .int rt])), (h1, .inl (cA, 1000, .inl f)), (h2, .inl (cB, 1000, .inl (upd (upd g md.toNatClampNeg (f k.toNatClampNeg)) (md + 1).toNatClampNeg p1)))]) [0, 1, 2] (by decide) rfl
    have hKc := hK.sub (tys' := [(cA, .int), (cB, .int)]) [0, 1] rfl
    refine wk_v (β := Unit) (ok := fun _ => True) (wc := [(h0, .inr (8, [.int cd, .int n, .ref h1, .int ((md + 1) + 1), .ref h2, .int (ch + v_1), .int sh, .int tp, .int lf, .int bt, .int rt])), (h1, .inl (cA, 1000, .inl f)), (h2, .inl (cB, 1000, .inl (upd (upd g md.toNatClampNeg (f k.toNatClampNeg)) (md + 1).toNatClampNeg p1)))]) (wr := []) (w1 := fun _ => [(h0, .inr (8, [.int cd, .int n, .ref h1, .int (((md + 1) + 1) + 1), .ref h2, .int (ch + v_1), .int sh, .int tp, .int lf, .int bt, .int rt])), (h1, .inl (cA, 1000, .inl f)), (h2, .inl (cB, 1000, .inl (upd (upd (upd g md.toNatClampNeg (f k.toNatClampNeg)) (md + 1).toNatClampNeg p1) ((md + 1) + 1).toNatClampNeg p2)))]) (ws2 := fun _ => [(h0, .inr (8, [.int cd, .int n, .ref h1, .int (((md + 1) + 1) + 1), .ref h2, .int (ch + v_1), .int sh, .int tp, .int lf, .int bt, .int rt])), (h1, .inl (cA, 1000, .inl f)), (h2, .inl (cB, 1000, .inl (upd (upd (upd g md.toNatClampNeg (f k.toNatClampNeg)) (md + 1).toNatClampNeg p1) ((md + 1) + 1).toNatClampNeg p2)))]) (va_runV (As := [.int p2]) (rest := []) ⟨hx, hb, hml, hown, hts⟩ (kX10_make l D H.size h0 h1 h2 cA cB cd n ((md + 1) + 1) (ch + v_1) sh tp lf bt rt f (upd (upd g md.toNatClampNeg (f k.toNatClampNeg)) (md + 1).toNatClampNeg p1) p2 (in_add (c := 1) (n := 1000) (in_add (c := 1) (n := 998) hm (by decide) (by decide) (by decide)) (by decide) (by decide) (by decide))) (cwV 1 hts gX10_makePlace_X10_make rfl rfl rfl (by decide +kernel) ⟨Nat.le_of_ble_eq_true rfl, Nat.le_of_ble_eq_true rfl⟩) ⟨Pw_blind, (va_recv hKc hPc (ci := 8) (q0 := 0) rfl rfl), fun U hU hW => Pw_at hKc hPc hDc hN hU hW⟩ rfl rfl hl.1 rfl (lv_room (Nat.le_of_ble_eq_true rfl)) dX10_makePlace_68 ⟨Nat.le_of_ble_eq_true rfl, Nat.le_of_ble_eq_true rfl⟩) hP hD hS hA [0, 1, 2] [] [0, 1, 2] rfl rfl (by decide) (by decide) (fun _ => rfl) (by decide) (fun _ _ H locs hP hD hS => ?_)
    have hP : va_P D vwCl [(h0, .inr (8, [.int cd, .int n, .ref h1, .int (((md + 1) + 1) + 1), .ref h2, .int (ch + v_1), .int sh, .int tp, .int lf, .int bt, .int rt])), (h1, .inl (cA, 1000, .inl f)), (h2, .inl (cB, 1000, .inl (upd (upd (upd g md.toNatClampNeg (f k.toNatClampNeg)) (md + 1).toNatClampNeg p1) ((md + 1) + 1).toNatClampNeg p2)))] H := hP
    have hD : va_D A [(h0, .inr (8, [.int cd, .int n, .ref h1, .int (((md + 1) + 1) + 1), .ref h2, .int (ch + v_1), .int sh, .int tp, .int lf, .int bt, .int rt])), (h1, .inl (cA, 1000, .inl f)), (h2, .inl (cB, 1000, .inl (upd (upd (upd g md.toNatClampNeg (f k.toNatClampNeg)) (md + 1).toNatClampNeg p1) ((md + 1) + 1).toNatClampNeg p2)))] := hD
    refine lv_aload_n hx hb dX10_makePlace_71 rfl (lv_at hl 0 rfl) ?_
    refine lv_iload hx hb dX10_makePlace_72 (lv_at hl 4 rfl) ?_
    have hPc := hP.sub (ws' := [(h0, .inr (8, [.int cd, .int n, .ref h1, .int (((md + 1) + 1) + 1), .ref h2, .int (ch + v_1), .int sh, .int tp, .int lf, .int bt, .int rt])), (h1, .inl (cA, 1000, .inl f)), (h2, .inl (cB, 1000, .inl (upd (upd (upd g md.toNatClampNeg (f k.toNatClampNeg)) (md + 1).toNatClampNeg p1) ((md + 1) + 1).toNatClampNeg p2)))]) [0, 1, 2] rfl
    have hDc := hD.sub (ws' := [(h0, .inr (8, [.int cd, .int n, .ref h1, .int (((md + 1) + 1) + 1), .ref h2, .int (ch + v_1), .int sh, .int tp, .int lf, .int bt, .int rt])), (h1, .inl (cA, 1000, .inl f)), (h2, .inl (cB, 1000, .inl (upd (upd (upd g md.toNatClampNeg (f k.toNatClampNeg)) (md + 1).toNatClampNeg p1) ((md + 1) + 1).toNatClampNeg p2)))]) [0, 1, 2] (by decide) rfl
    have hKc := hK.sub (tys' := [(cA, .int), (cB, .int)]) [0, 1] rfl
    refine wk_v (β := Unit) (ok := fun _ => True) (wc := [(h0, .inr (8, [.int cd, .int n, .ref h1, .int (((md + 1) + 1) + 1), .ref h2, .int (ch + v_1), .int sh, .int tp, .int lf, .int bt, .int rt])), (h1, .inl (cA, 1000, .inl f)), (h2, .inl (cB, 1000, .inl (upd (upd (upd g md.toNatClampNeg (f k.toNatClampNeg)) (md + 1).toNatClampNeg p1) ((md + 1) + 1).toNatClampNeg p2)))]) (wr := []) (w1 := fun _ => [(h0, .inr (8, [.int cd, .int n, .ref h1, .int ((((md + 1) + 1) + 1) + 1), .ref h2, .int (ch + v_1), .int sh, .int tp, .int lf, .int bt, .int rt])), (h1, .inl (cA, 1000, .inl f)), (h2, .inl (cB, 1000, .inl (upd (upd (upd (upd g md.toNatClampNeg (f k.toNatClampNeg)) (md + 1).toNatClampNeg p1) ((md + 1) + 1).toNatClampNeg p2) (((md + 1) + 1) + 1).toNatClampNeg p3)))]) (ws2 := fun _ => [(h0, .inr (8, [.int cd, .int n, .ref h1, .int ((((md + 1) + 1) + 1) + 1), .ref h2, .int (ch + v_1), .int sh, .int tp, .int lf, .int bt, .int rt])), (h1, .inl (cA, 1000, .inl f)), (h2, .inl (cB, 1000, .inl (upd (upd (upd (upd g md.toNatClampNeg (f k.toNatClampNeg)) (md + 1).toNatClampNeg p1) ((md + 1) + 1).toNatClampNeg p2) (((md + 1) + 1) + 1).toNatClampNeg p3)))]) (va_runV (As := [.int p3]) (rest := []) ⟨hx, hb, hml, hown, hts⟩ (kX10_make l D H.size h0 h1 h2 cA cB cd n (((md + 1) + 1) + 1) (ch + v_1) sh tp lf bt rt f (upd (upd (upd g md.toNatClampNeg (f k.toNatClampNeg)) (md + 1).toNatClampNeg p1) ((md + 1) + 1).toNatClampNeg p2) p3 (in_add (c := 1) (n := 1000) (in_add (c := 1) (n := 999) (in_add (c := 1) (n := 998) hm (by decide) (by decide) (by decide)) (by decide) (by decide) (by decide)) (by decide) (by decide) (by decide))) (cwV 1 hts gX10_makePlace_X10_make rfl rfl rfl (by decide +kernel) ⟨Nat.le_of_ble_eq_true rfl, Nat.le_of_ble_eq_true rfl⟩) ⟨Pw_blind, (va_recv hKc hPc (ci := 8) (q0 := 0) rfl rfl), fun U hU hW => Pw_at hKc hPc hDc hN hU hW⟩ rfl rfl hl.1 rfl (lv_room (Nat.le_of_ble_eq_true rfl)) dX10_makePlace_74 ⟨Nat.le_of_ble_eq_true rfl, Nat.le_of_ble_eq_true rfl⟩) hP hD hS hA [0, 1, 2] [] [0, 1, 2] rfl rfl (by decide) (by decide) (fun _ => rfl) (by decide) (fun _ _ H locs hP hD hS => ?_)
    have hP : va_P D vwCl [(h0, .inr (8, [.int cd, .int n, .ref h1, .int ((((md + 1) + 1) + 1) + 1), .ref h2, .int (ch + v_1), .int sh, .int tp, .int lf, .int bt, .int rt])), (h1, .inl (cA, 1000, .inl f)), (h2, .inl (cB, 1000, .inl (upd (upd (upd (upd g md.toNatClampNeg (f k.toNatClampNeg)) (md + 1).toNatClampNeg p1) ((md + 1) + 1).toNatClampNeg p2) (((md + 1) + 1) + 1).toNatClampNeg p3)))] H := hP
    have hD : va_D A [(h0, .inr (8, [.int cd, .int n, .ref h1, .int ((((md + 1) + 1) + 1) + 1), .ref h2, .int (ch + v_1), .int sh, .int tp, .int lf, .int bt, .int rt])), (h1, .inl (cA, 1000, .inl f)), (h2, .inl (cB, 1000, .inl (upd (upd (upd (upd g md.toNatClampNeg (f k.toNatClampNeg)) (md + 1).toNatClampNeg p1) ((md + 1) + 1).toNatClampNeg p2) (((md + 1) + 1) + 1).toNatClampNeg p3)))] := hD
    have hF : (fX10_makePlace md ch f g k p1 p2 p3) = (((((md + 1) + 1) + 1) + 1), (ch + v_1), (upd (upd (upd (upd g md.toNatClampNeg (f k.toNatClampNeg)) (md + 1).toNatClampNeg p1) ((md + 1) + 1).toNatClampNeg p2) (((md + 1) + 1) + 1).toNatClampNeg p3)) := by subst ev_1; exact rfl
    subst hAe
    subst hQe
    exact W.vret hx hb hr (fun t ht hW => ⟨⟨_, rfl, ⟨(), trivial, by rw [hF]⟩, by rw [ht]; exact hP, hD⟩, hS.F ht⟩) hS.2.2 dX10_makePlace_77
  refine lv_icmp_ne (tgt := 42) hx hb dX10_makePlace_14 (by decide) (fun c14 => ?_) (fun c14 => ?_)
  · refine lv_iconst (v := 1) hx hb dX10_makePlace_42 (by decide) ?_
    refine lv_goto (tgt := 47) hx hb dX10_makePlace_43 (by decide) ?_
    exact K47_1 _ (if_neg c14).symm ls (lv_sub hl [0, 1, 2, 3, 4] rfl)
  · refine lv_iload_n hx hb dX10_makePlace_17 rfl (lv_at hl 3 rfl) ?_
    refine lv_aload_n hx hb dX10_makePlace_18 rfl (lv_at hl 0 rfl) ?_
    refine va_get (D := D) (ci := 8) (v := .ref h1) (C := RX10) (T := TX10) (N := 11) hx hb hts w_X10 hown hK hP 0 rfl rfl 2 (by decide) f_7 (fun _ h9 => h9) rfl dX10_makePlace_19 ?_
    refine lv_iload_n hx hb dX10_makePlace_22 rfl (lv_at hl 1 rfl) ?_
    refine lv_iconst (v := 2) hx hb dX10_makePlace_23 (by decide) ?_
    refine lv_iadd hx hb dX10_makePlace_24 ?_
    refine va_iald hx hb hK hP 1 0 rfl rfl (in_add (c := 2) (n := 1000) hk (by decide) (by decide) (by decide)) dX10_makePlace_25 ?_
    refine lv_icmp_ne (tgt := 42) hx hb dX10_makePlace_26 (by decide) (fun c26 => ?_) (fun c26 => ?_)
    · refine lv_iconst (v := 1) hx hb dX10_makePlace_42 (by decide) ?_
      refine lv_goto (tgt := 47) hx hb dX10_makePlace_43 (by decide) ?_
      exact K47_1 _ ((if_pos c14).trans (if_neg c26)).symm ls (lv_sub hl [0, 1, 2, 3, 4] rfl)
    · refine lv_iload hx hb dX10_makePlace_29 (lv_at hl 4 rfl) ?_
      refine lv_aload_n hx hb dX10_makePlace_31 rfl (lv_at hl 0 rfl) ?_
      refine va_get (D := D) (ci := 8) (v := .ref h1) (C := RX10) (T := TX10) (N := 11) hx hb hts w_X10 hown hK hP 0 rfl rfl 2 (by decide) f_7 (fun _ h9 => h9) rfl dX10_makePlace_32 ?_
      refine lv_iload_n hx hb dX10_makePlace_35 rfl (lv_at hl 1 rfl) ?_
      refine lv_iconst (v := 3) hx hb dX10_makePlace_36 (by decide) ?_
      refine lv_iadd hx hb dX10_makePlace_37 ?_
      refine va_iald hx hb hK hP 1 0 rfl rfl (in_add (c := 3) (n := 1000) hk (by decide) (by decide) (by decide)) dX10_makePlace_38 ?_
      refine lv_icmp_eq (tgt := 46) hx hb dX10_makePlace_39 (by decide) (fun c39 => ?_) (fun c39 => ?_)
      · refine lv_iconst (v := 0) hx hb dX10_makePlace_46 (by decide) ?_
        exact K47_1 _ ((if_pos c14).trans ((if_pos c26).trans (if_pos c39))).symm ls (lv_sub hl [0, 1, 2, 3, 4] rfl)
      · refine lv_iconst (v := 1) hx hb dX10_makePlace_42 (by decide) ?_
        refine lv_goto (tgt := 47) hx hb dX10_makePlace_43 (by decide) ?_
        exact K47_1 _ ((if_pos c14).trans ((if_pos c26).trans (if_neg c39))).symm ls (lv_sub hl [0, 1, 2, 3, 4] rfl)

def fX10_makeRange (md : Int32) (ch : Int32) (f : Nat → Int32) (g : Nat → Int32) (k : Int32) (p1 : Int32) (p2 : Int32) (p3 : Int32) (p4 : Int32) (p5 : Int32) (p6 : Int32) : Int32 × Int32 × (Nat → Int32) := let v_1 : Int32 := (if (5 + (16 * p1)) = (f k.toNatClampNeg) then (if p2 = (f (k + 1).toNatClampNeg) then (if p3 = (f (k + 2).toNatClampNeg) then (if p4 = (f (k + 3).toNatClampNeg) then (if p5 = (f (k + 4).toNatClampNeg) then (if p6 = (f (k + 5).toNatClampNeg) then 0 else 1) else 1) else 1) else 1) else 1) else 1); (((((((md + 1) + 1) + 1) + 1) + 1) + 1), (ch + v_1), (upd (upd (upd (upd (upd (upd g md.toNatClampNeg (5 + (16 * p1))) (md + 1).toNatClampNeg p2) ((md + 1) + 1).toNatClampNeg p3) (((md + 1) + 1) + 1).toNatClampNeg p4) ((((md + 1) + 1) + 1) + 1).toNatClampNeg p5) (((((md + 1) + 1) + 1) + 1) + 1).toNatClampNeg p6))
abbrev rmX10_makeRange : Room := { frames := 1, cells := 0, slots := 0, locals := 21 }
abbrev qX10_makeRange (D : va_G) (sz : Nat) (h0 : Nat) (h1 : Nat) (h2 : Nat) (cA : ClassId) (cB : ClassId) (cd : Int32) (n : Int32) (md : Int32) (ch : Int32) (sh : Int32) (tp : Int32) (lf : Int32) (bt : Int32) (rt : Int32) (f : Nat → Int32) (g : Nat → Int32) (k : Int32) (p1 : Int32) (p2 : Int32) (p3 : Int32) (p4 : Int32) (p5 : Int32) (p6 : Int32) : Array Value → State → Outcome → State → Prop := va_Qv (fun w_9 => ∃ _u : Unit, True ∧ w_9 = [(h0, .inr (8, [.int cd, .int n, .ref h1, .int (fX10_makeRange md ch f g k p1 p2 p3 p4 p5 p6).1, .ref h2, .int (fX10_makeRange md ch f g k p1 p2 p3 p4 p5 p6).2.1, .int sh, .int tp, .int lf, .int bt, .int rt])), (h1, .inl (cA, 1000, .inl f)), (h2, .inl (cB, 1000, .inl (fX10_makeRange md ch f g k p1 p2 p3 p4 p5 p6).2.2))]) (Bq D (va_A [(h0, .inr (8, [.int cd, .int n, .ref h1, .int md, .ref h2, .int ch, .int sh, .int tp, .int lf, .int bt, .int rt])), (h1, .inl (cA, 1000, .inl f)), (h2, .inl (cB, 1000, .inl g))] sz)) (va_A [(h0, .inr (8, [.int cd, .int n, .ref h1, .int md, .ref h2, .int ch, .int sh, .int tp, .int lf, .int bt, .int rt])), (h1, .inl (cA, 1000, .inl f)), (h2, .inl (cB, 1000, .inl g))] sz)
set_option maxHeartbeats 4000000 in
set_option maxRecDepth 100000 in
theorem kX10_makeRange (l : Launch) (D : va_G) (sz : Nat) (h0 : Nat) (h1 : Nat) (h2 : Nat) (cA : ClassId) (cB : ClassId) (cd : Int32) (n : Int32) (md : Int32) (ch : Int32) (sh : Int32) (tp : Int32) (lf : Int32) (bt : Int32) (rt : Int32) (f : Nat → Int32) (g : Nat → Int32) (k : Int32) (p1 : Int32) (p2 : Int32) (p3 : Int32) (p4 : Int32) (p5 : Int32) (p6 : Int32) (hk : vp_in k 995) (hm : vp_in md 995) : Met l yX10_makeRange wsX10_makeRange rmX10_makeRange (va_Pc [.ref h0, .int k, .int p1, .int p2, .int p3, .int p4, .int p5, .int p6] (Pw D [(cA, .int), (cB, .int)] [(h0, .inr (8, [.int cd, .int n, .ref h1, .int md, .ref h2, .int ch, .int sh, .int tp, .int lf, .int bt, .int rt])), (h1, .inl (cA, 1000, .inl f)), (h2, .inl (cB, 1000, .inl g))] sz)) (qX10_makeRange D sz h0 h1 h2 cA cB cd n md ch sh tp lf bt rt f g k p1 p2 p3 p4 p5 p6) 0 0 (va_A [(h0, .inr (8, [.int cd, .int n, .ref h1, .int md, .ref h2, .int ch, .int sh, .int tp, .int lf, .int bt, .int rt])), (h1, .inl (cA, 1000, .inl f)), (h2, .inl (cB, 1000, .inl g))] sz) := by
  refine Met.ofW (cc := cX10_makeRange) (maxL := 9) (ret := none) (by decide) rfl ?_
  intro p e s m args below meth c s₁ B hml hv
  obtain ⟨rfl, hsz, hP, hK, hD0, hN⟩ := hv
  have hx := B.exec
  have hb := B.bytes
  have hr := B.returns
  have hts := atoms_spec (ws := wsX10_makeRange) B.pre
  have hown : s.vm.findClass RX10 = some m.cls := findClass_of_methodNamed B.named
  have hlocks := B.notSynchronized
  subst hsz
  obtain ⟨Q, hQe⟩ : ∃ Q, Q = MQ below (qX10_makeRange D s.heap.size h0 h1 h2 cA cB cd n md ch sh tp lf bt rt f g k p1 p2 p3 p4 p5 p6) ([.ref h0, .int k, .int p1, .int p2, .int p3, .int p4, .int p5, .int p6] : List Value).toArray s 0 0 (va_A [(h0, .inr (8, [.int cd, .int n, .ref h1, .int md, .ref h2, .int ch, .int sh, .int tp, .int lf, .int bt, .int rt])), (h1, .inl (cA, 1000, .inl f)), (h2, .inl (cB, 1000, .inl g))] s.heap.size) := ⟨_, rfl⟩
  rw [← hQe]
  obtain ⟨A, hAe⟩ : ∃ A, A = va_A [(h0, .inr (8, [.int cd, .int n, .ref h1, .int md, .ref h2, .int ch, .int sh, .int tp, .int lf, .int bt, .int rt])), (h1, .inl (cA, 1000, .inl f)), (h2, .inl (cB, 1000, .inl g))] s.heap.size := ⟨_, rfl⟩
  have hD : va_D A [(h0, .inr (8, [.int cd, .int n, .ref h1, .int md, .ref h2, .int ch, .int sh, .int tp, .int lf, .int bt, .int rt])), (h1, .inl (cA, 1000, .inl f)), (h2, .inl (cB, 1000, .inl g))] := by rw [hAe]; exact hD0.self
  have hA : ∀ q : Nat, s.heap.size ≤ q → A q := by rw [hAe]; exact mo_A
  have hS : va_S A s.heap s.heap [] := va_S.rf
  obtain ⟨H, hHe⟩ : ∃ H, H = s.heap := ⟨_, rfl⟩
  obtain ⟨locs, hLe⟩ : ∃ L : List Loc, L = [] := ⟨_, rfl⟩
  have hP : va_P D vwCl [(h0, .inr (8, [.int cd, .int n, .ref h1, .int md, .ref h2, .int ch, .int sh, .int tp, .int lf, .int bt, .int rt])), (h1, .inl (cA, 1000, .inl f)), (h2, .inl (cB, 1000, .inl g))] H := by rw [hHe]; exact hP
  have hS : va_S A s.heap H locs := by rw [hHe, hLe]; exact hS
  have hl := lv_entry ([.ref h0, .int k, .int p1, .int p2, .int p3, .int p4, .int p5, .int p6]) (n := 9) (Nat.le_of_ble_eq_true rfl)
  rw [lg_entry_eq]
  generalize (lg_sl ([.ref h0, .int k, .int p1, .int p2, .int p3, .int p4, .int p5, .int p6]) ++ List.replicate (9 - (lg_sl ([.ref h0, .int k, .int p1, .int p2, .int p3, .int p4, .int p5, .int p6])).length) Slot.unset).toArray = ls at hl ⊢
  have hl : lv_has ls 9 [(0, .ref h0), (1, .int k), (2, .int p1), (3, .int p2), (4, .int p3), (5, .int p4), (6, .int p5), (7, .int p6)] := hl
  refine hStart hHe hLe ?_
  clear hHe hLe
  have w_X10 : ∀ w ∈ wsX100, w ∈ wsX10_makeRange := by decide +kernel
  have f_54 := hts (.fieldLink RX10 54 "ReferenceMoverModel" "changed" "I") (by decide +kernel)
  have f_7 := hts (.fieldLink RX10 7 "ReferenceMoverModel" "words" "[I") (by decide +kernel)
  refine lv_iconst (v := 5) hx hb dX10_makeRange_0 (by decide) ?_
  refine lv_bipush (v := 16) hx hb dX10_makeRange_1 (by decide) ?_
  refine lv_iload_n hx hb dX10_makeRange_3 rfl (lv_at hl 2 rfl) ?_
  refine lv_imul hx hb dX10_makeRange_4 ?_
  refine lv_iadd hx hb dX10_makeRange_5 ?_
  refine lv_istore (lv' := [(8, .int (5 + (16 * p1))), (0, .ref h0), (1, .int k), (2, .int p1), (3, .int p2), (4, .int p3), (5, .int p4), (6, .int p5), (7, .int p6)]) hx hb dX10_makeRange_6 hl (by decide) rfl (fun ls hl => ?_)
  refine lv_aload_n hx hb dX10_makeRange_8 rfl (lv_at hl 1 rfl) ?_
  refine lv_dup hx hb dX10_makeRange_9 rfl ?_
  refine va_get (D := D) (ci := 8) (v := .int ch) (C := RX10) (T := TX10) (N := 11) hx hb hts w_X10 hown hK hP 0 rfl rfl 5 (by decide) f_54 (fun _ h9 => h9) rfl dX10_makeRange_10 ?_
  refine lv_iload hx hb dX10_makeRange_13 (lv_at hl 0 rfl) ?_
  refine lv_aload_n hx hb dX10_makeRange_15 rfl (lv_at hl 1 rfl) ?_
  refine va_get (D := D) (ci := 8) (v := .ref h1) (C := RX10) (T := TX10) (N := 11) hx hb hts w_X10 hown hK hP 0 rfl rfl 2 (by decide) f_7 (fun _ h9 => h9) rfl dX10_makeRange_16 ?_
  refine lv_iload_n hx hb dX10_makeRange_19 rfl (lv_at hl 2 rfl) ?_
  refine va_iald hx hb hK hP 1 0 rfl rfl (in_w hk (by decide)) dX10_makeRange_20 ?_
  have K93_1 : ∀ (v_1 : Int32), v_1 = (if (5 + (16 * p1)) = (f k.toNatClampNeg) then (if p2 = (f (k + 1).toNatClampNeg) then (if p3 = (f (k + 2).toNatClampNeg) then (if p4 = (f (k + 3).toNatClampNeg) then (if p5 = (f (k + 4).toNatClampNeg) then (if p6 = (f (k + 5).toNatClampNeg) then 0 else 1) else 1) else 1) else 1) else 1) else 1) → ∀ ls : Array Slot, lv_has ls 9 [(0, .ref h0), (3, .int p2), (4, .int p3), (5, .int p4), (6, .int p5), (7, .int p6), (8, .int (5 + (16 * p1)))] → W p l e (headSpec wsX10_makeRange rmX10_makeRange).room s m ([.ref h0, .int k, .int p1, .int p2, .int p3, .int p4, .int p5, .int p6] : List Value).toArray below meth c H locs 0 0 Q (F0 m 93 ls [.int v_1, .int ch, .ref h0]) := by
    intro v_1 ev_1 ls hl
    refine lv_iadd hx hb dX10_makeRange_93 ?_
    refine va_put (D := D) (ci := 8) (v := .int (ch + v_1)) (ty := .int) (C := RX10) (T := TX10) (N := 11) hx hb hts w_X10 tyX10 tyX10_ok nmX10 hown hK hP hD hS 0 rfl rfl 5 (by decide) f_54 (fun _ h9 => h9) rfl (by decide +kernel) rfl rfl (Nat.le_of_ble_eq_true rfl) dX10_makeRange_94 (fun H locs hP hD hS => ?_)
    have hP : va_P D vwCl [(h0, .inr (8, [.int cd, .int n, .ref h1, .int md, .ref h2, .int (ch + v_1), .int sh, .int tp, .int lf, .int bt, .int rt])), (h1, .inl (cA, 1000, .inl f)), (h2, .inl (cB, 1000, .inl g))] H := hP
    have hD : va_D A [(h0, .inr (8, [.int cd, .int n, .ref h1, .int md, .ref h2, .int (ch + v_1), .int sh, .int tp, .int lf, .int bt, .int rt])), (h1, .inl (cA, 1000, .inl f)), (h2, .inl (cB, 1000, .inl g))] := hD
    refine lv_aload_n hx hb dX10_makeRange_97 rfl (lv_at hl 0 rfl) ?_
    refine lv_iload hx hb dX10_makeRange_98 (lv_at hl 6 rfl) ?_
    have hPc := hP.sub (ws' := [(h0, .inr (8, [.int cd, .int n, .ref h1, .int md, .ref h2, .int (ch + v_1), .int sh, .int tp, .int lf, .int bt, .int rt])), (h1, .inl (cA, 1000, .inl f)), (h2, .inl (cB, 1000, .inl g))]) [0, 1, 2] rfl
    have hDc := hD.sub (ws' := [(h0, .inr (8, [.int cd, .int n, .ref h1, .int md, .ref h2, .int (ch + v_1), .int sh, .int tp, .int lf, .int bt, .int rt])), (h1, .inl (cA, 1000, .inl f)), (h2, .inl (cB, 1000, .inl g))]) [0, 1, 2] (by decide) rfl
    have hKc := hK.sub (tys' := [(cA, .int), (cB, .int)]) [0, 1] rfl
    refine wk_v (β := Unit) (ok := fun _ => True) (wc := [(h0, .inr (8, [.int cd, .int n, .ref h1, .int md, .ref h2, .int (ch + v_1), .int sh, .int tp, .int lf, .int bt, .int rt])), (h1, .inl (cA, 1000, .inl f)), (h2, .inl (cB, 1000, .inl g))]) (wr := []) (w1 := fun _ => [(h0, .inr (8, [.int cd, .int n, .ref h1, .int (md + 1), .ref h2, .int (ch + v_1), .int sh, .int tp, .int lf, .int bt, .int rt])), (h1, .inl (cA, 1000, .inl f)), (h2, .inl (cB, 1000, .inl (upd g md.toNatClampNeg (5 + (16 * p1)))))]) (ws2 := fun _ => [(h0, .inr (8, [.int cd, .int n, .ref h1, .int (md + 1), .ref h2, .int (ch + v_1), .int sh, .int tp, .int lf, .int bt, .int rt])), (h1, .inl (cA, 1000, .inl f)), (h2, .inl (cB, 1000, .inl (upd g md.toNatClampNeg (5 + (16 * p1)))))]) (va_runV (As := [.int (5 + (16 * p1))]) (rest := []) ⟨hx, hb, hml, hown, hts⟩ (kX10_make l D H.size h0 h1 h2 cA cB cd n md (ch + v_1) sh tp lf bt rt f g (5 + (16 * p1)) (in_w hm (by decide))) (cwV 1 hts gX10_makeRange_X10_make rfl rfl rfl (by decide +kernel) ⟨Nat.le_of_ble_eq_true rfl, Nat.le_of_ble_eq_true rfl⟩) ⟨Pw_blind, (va_recv hKc hPc (ci := 8) (q0 := 0) rfl rfl), fun U hU hW => Pw_at hKc hPc hDc hN hU hW⟩ rfl rfl hl.1 rfl (lv_room (Nat.le_of_ble_eq_true rfl)) dX10_makeRange_100 ⟨Nat.le_of_ble_eq_true rfl, Nat.le_of_ble_eq_true rfl⟩) hP hD hS hA [0, 1, 2] [] [0, 1, 2] rfl rfl (by decide) (by decide) (fun _ => rfl) (by decide) (fun _ _ H locs hP hD hS => ?_)
    have hP : va_P D vwCl [(h0, .inr (8, [.int cd, .int n, .ref h1, .int (md + 1), .ref h2, .int (ch + v_1), .int sh, .int tp, .int lf, .int bt, .int rt])), (h1, .inl (cA, 1000, .inl f)), (h2, .inl (cB, 1000, .inl (upd g md.toNatClampNeg (5 + (16 * p1)))))] H := hP
    have hD : va_D A [(h0, .inr (8, [.int cd, .int n, .ref h1, .int (md + 1), .ref h2, .int (ch + v_1), .int sh, .int tp, .int lf, .int bt, .int rt])), (h1, .inl (cA, 1000, .inl f)), (h2, .inl (cB, 1000, .inl (upd g md.toNatClampNeg (5 + (16 * p1)))))] := hD
    refine lv_aload_n hx hb dX10_makeRange_103 rfl (lv_at hl 0 rfl) ?_
    refine lv_iload_n hx hb dX10_makeRange_104 rfl (lv_at hl 1 rfl) ?_
    have hPc := hP.sub (ws' := [(h0, .inr (8, [.int cd, .int n, .ref h1, .int (md + 1), .ref h2, .int (ch + v_1), .int sh, .int tp, .int lf, .int bt, .int rt])), (h1, .inl (cA, 1000, .inl f)), (h2, .inl (cB, 1000, .inl (upd g md.toNatClampNeg (5 + (16 * p1)))))]) [0, 1, 2] rfl
    have hDc := hD.sub (ws' := [(h0, .inr (8, [.int cd, .int n, .ref h1, .int (md + 1), .ref h2, .int (ch + v_1), .int sh, .int tp, .int lf, .int bt, .int rt])), (h1, .inl (cA, 1000, .inl f)), (h2, .inl (cB, 1000, .inl (upd g md.toNatClampNeg (5 + (16 * p1)))))]) [0, 1, 2] (by decide) rfl
    have hKc := hK.sub (tys' := [(cA, .int), (cB, .int)]) [0, 1] rfl
    refine wk_v (β := Unit) (ok := fun _ => True) (wc := [(h0, .inr (8, [.int cd, .int n, .ref h1, .int (md + 1), .ref h2, .int (ch + v_1), .int sh, .int tp, .int lf, .int bt, .int rt])), (h1, .inl (cA, 1000, .inl f)), (h2, .inl (cB, 1000, .inl (upd g md.toNatClampNeg (5 + (16 * p1)))))]) (wr := []) (w1 := fun _ => [(h0, .inr (8, [.int cd, .int n, .ref h1, .int ((md + 1) + 1), .ref h2, .int (ch + v_1), .int sh, .int tp, .int lf, .int bt, .int rt])), (h1, .inl (cA, 1000, .inl f)), (h2, .inl (cB, 1000, .inl (upd (upd g md.toNatClampNeg (5 + (16 * p1))) (md + 1).toNatClampNeg p2)))]) (ws2 := fun _ => [(h0, .inr (8, [.int cd, .int n, .ref h1, .int ((md + 1) + 1), .ref h2, .int (ch + v_1), .int sh, .int tp, .int lf, .int bt, .int rt])), (h1, .inl (cA, 1000, .inl f)), (h2, .inl (cB, 1000, .inl (upd (upd g md.toNatClampNeg (5 + (16 * p1))) (md + 1).toNatClampNeg p2)))]) (va_runV (As := [.int p2]) (rest := []) ⟨hx, hb, hml, hown, hts⟩ (kX10_make l D H.size h0 h1 h2 cA cB cd n (md + 1) (ch + v_1) sh tp lf bt rt f (upd g md.toNatClampNeg (5 + (16 * p1))) p2 (in_add (c := 1) (n := 1000) hm (by decide) (by decide) (by decide))) (cwV 1 hts gX10_makeRange_X10_make rfl rfl rfl (by decide +kernel) ⟨Nat.le_of_ble_eq_true rfl, Nat.le_of_ble_eq_true rfl⟩) ⟨Pw_blind, (va_recv hKc hPc (ci := 8) (q0 := 0) rfl rfl), fun U hU hW => Pw_at hKc hPc hDc hN hU hW⟩ rfl rfl hl.1 rfl (lv_room (Nat.le_of_ble_eq_true rfl)) dX10_makeRange_105 ⟨Nat.le_of_ble_eq_true rfl, Nat.le_of_ble_eq_true rfl⟩) hP hD hS hA [0, 1, 2] [] [0, 1, 2] rfl rfl (by decide) (by decide) (fun _ => rfl) (by decide) (fun _ _ H locs hP hD hS => ?_)
    have hP : va_P D vwCl [(h0, .inr (8, [.int cd, .int n, .ref h1, .int ((md + 1) + 1), .ref h2, .int (ch + v_1), .int sh, .int tp, .int lf, .int bt, .int rt])), (h1, .inl (cA, 1000, .inl f)), (h2, .inl (cB, 1000, .inl (upd (upd g md.toNatClampNeg (5 + (16 * p1))) (md + 1).toNatClampNeg p2)))] H := hP
    have hD : va_D A [(h0, .inr (8, [.int cd, .int n, .ref h1, .int ((md + 1) + 1), .ref h2, .int (ch + v_1), .int sh, .int tp, .int lf, .int bt, .int rt])), (h1, .inl (cA, 1000, .inl f)), (h2, .inl (cB, 1000, .inl (upd (upd g md.toNatClampNeg (5 + (16 * p1))) (md + 1).toNatClampNeg p2)))] := hD
    refine lv_aload_n hx hb dX10_makeRange_108 rfl (lv_at hl 0 rfl) ?_
    refine lv_iload hx hb dX10_makeRange_109 (lv_at hl 2 rfl) ?_
    have hPc := hP.sub (ws' := [(h0, .inr (8, [.int cd, .int n, .ref h1, .int ((md + 1) + 1), .ref h2, .int (ch + v_1), .int sh, .int tp, .int lf, .int bt, .int rt])), (h1, .inl (cA, 1000, .inl f)), (h2, .inl (cB, 1000, .inl (upd (upd g md.toNatClampNeg (5 + (16 * p1))) (md + 1).toNatClampNeg p2)))]) [0, 1, 2] rfl
    have hDc := hD.sub (ws' := [(h0, .inr (8, [.int cd, .int n, .ref h1, .int ((md + 1) + 1), .ref h2, .int (ch + v_1), .int sh, .int tp, .int lf, .int bt, .int rt])), (h1, .inl (cA, 1000, .inl f)), (h2, .inl (cB, 1000, .inl (upd (upd g md.toNatClampNeg (5 + (16 * p1))) (md + 1).toNatClampNeg p2)))]) [0, 1, 2] (by decide) rfl
    have hKc := hK.sub (tys' := [(cA, .int), (cB, .int)]) [0, 1] rfl
    refine wk_v (β := Unit) (ok := fun _ => True) (wc := [(h0, .inr (8, [.int cd, .int n, .ref h1, .int ((md + 1) + 1), .ref h2, .int (ch + v_1), .int sh, .int tp, .int lf, .int bt, .int rt])), (h1, .inl (cA, 1000, .inl f)), (h2, .inl (cB, 1000, .inl (upd (upd g md.toNatClampNeg (5 + (16 * p1))) (md + 1).toNatClampNeg p2)))]) (wr := []) (w1 := fun _ => [(h0, .inr (8, [.int cd, .int n, .ref h1, .int (((md + 1) + 1) + 1), .ref h2, .int (ch + v_1), .int sh, .int tp, .int lf, .int bt, .int rt])), (h1, .inl (cA, 1000, .inl f)), (h2, .inl (cB, 1000, .inl (upd (upd (upd g md.toNatClampNeg (5 + (16 * p1))) (md + 1).toNatClampNeg p2) ((md + 1) + 1).toNatClampNeg p3)))]) (ws2 := fun _ => [(h0, .inr (8, [.int cd, .int n, .ref h1, .int (((md + 1) + 1) + 1), .ref h2, .int (ch + v_1), .int sh, .int tp, .int lf, .int bt, .int rt])), (h1, .inl (cA, 1000, .inl f)), (h2, .inl (cB, 1000, .inl (upd (upd (upd g md.toNatClampNeg (5 + (16 * p1))) (md + 1).toNatClampNeg p2) ((md + 1) + 1).toNatClampNeg p3)))]) (va_runV (As := [.int p3]) (rest := []) ⟨hx, hb, hml, hown, hts⟩ (kX10_make l D H.size h0 h1 h2 cA cB cd n ((md + 1) + 1) (ch + v_1) sh tp lf bt rt f (upd (upd g md.toNatClampNeg (5 + (16 * p1))) (md + 1).toNatClampNeg p2) p3 (in_add (c := 1) (n := 1000) (in_add (c := 1) (n := 996) hm (by decide) (by decide) (by decide)) (by decide) (by decide) (by decide))) (cwV 1 hts gX10_makeRange_X10_make rfl rfl rfl (by decide +kernel) ⟨Nat.le_of_ble_eq_true rfl, Nat.le_of_ble_eq_true rfl⟩) ⟨Pw_blind, (va_recv hKc hPc (ci := 8) (q0 := 0) rfl rfl), fun U hU hW => Pw_at hKc hPc hDc hN hU hW⟩ rfl rfl hl.1 rfl (lv_room (Nat.le_of_ble_eq_true rfl)) dX10_makeRange_111 ⟨Nat.le_of_ble_eq_true rfl, Nat.le_of_ble_eq_true rfl⟩) hP hD hS hA [0, 1, 2] [] [0, 1, 2] rfl rfl (by decide) (by decide) (fun _ => rfl) (by decide) (fun _ _ H locs hP hD hS => ?_)
    have hP : va_P D vwCl [(h0, .inr (8, [.int cd, .int n, .ref h1, .int (((md + 1) + 1) + 1), .ref h2, .int (ch + v_1), .int sh, .int tp, .int lf, .int bt, .int rt])), (h1, .inl (cA, 1000, .inl f)), (h2, .inl (cB, 1000, .inl (upd (upd (upd g md.toNatClampNeg (5 + (16 * p1))) (md + 1).toNatClampNeg p2) ((md + 1) + 1).toNatClampNeg p3)))] H := hP
    have hD : va_D A [(h0, .inr (8, [.int cd, .int n, .ref h1, .int (((md + 1) + 1) + 1), .ref h2, .int (ch + v_1), .int sh, .int tp, .int lf, .int bt, .int rt])), (h1, .inl (cA, 1000, .inl f)), (h2, .inl (cB, 1000, .inl (upd (upd (upd g md.toNatClampNeg (5 + (16 * p1))) (md + 1).toNatClampNeg p2) ((md + 1) + 1).toNatClampNeg p3)))] := hD
    refine lv_aload_n hx hb dX10_makeRange_114 rfl (lv_at hl 0 rfl) ?_
    refine lv_iload hx hb dX10_makeRange_115 (lv_at hl 3 rfl) ?_
    have hPc := hP.sub (ws' := [(h0, .inr (8, [.int cd, .int n, .ref h1, .int (((md + 1) + 1) + 1), .ref h2, .int (ch + v_1), .int sh, .int tp, .int lf, .int bt, .int rt])), (h1, .inl (cA, 1000, .inl f)), (h2, .inl (cB, 1000, .inl (upd (upd (upd g md.toNatClampNeg (5 + (16 * p1))) (md + 1).toNatClampNeg p2) ((md + 1) + 1).toNatClampNeg p3)))]) [0, 1, 2] rfl
    have hDc := hD.sub (ws' := [(h0, .inr (8, [.int cd, .int n, .ref h1, .int (((md + 1) + 1) + 1), .ref h2, .int (ch + v_1), .int sh, .int tp, .int lf, .int bt, .int rt])), (h1, .inl (cA, 1000, .inl f)), (h2, .inl (cB, 1000, .inl (upd (upd (upd g md.toNatClampNeg (5 + (16 * p1))) (md + 1).toNatClampNeg p2) ((md + 1) + 1).toNatClampNeg p3)))]) [0, 1, 2] (by decide) rfl
    have hKc := hK.sub (tys' := [(cA, .int), (cB, .int)]) [0, 1] rfl
    refine wk_v (β := Unit) (ok := fun _ => True) (wc := [(h0, .inr (8, [.int cd, .int n, .ref h1, .int (((md + 1) + 1) + 1), .ref h2, .int (ch + v_1), .int sh, .int tp, .int lf, .int bt, .int rt])), (h1, .inl (cA, 1000, .inl f)), (h2, .inl (cB, 1000, .inl (upd (upd (upd g md.toNatClampNeg (5 + (16 * p1))) (md + 1).toNatClampNeg p2) ((md + 1) + 1).toNatClampNeg p3)))]) (wr := []) (w1 := fun _ => [(h0, .inr (8, [.int cd, .int n, .ref h1, .int ((((md + 1) + 1) + 1) + 1), .ref h2, .int (ch + v_1), .int sh, .int tp, .int lf, .int bt, .int rt])), (h1, .inl (cA, 1000, .inl f)), (h2, .inl (cB, 1000, .inl (upd (upd (upd (upd g md.toNatClampNeg (5 + (16 * p1))) (md + 1).toNatClampNeg p2) ((md + 1) + 1).toNatClampNeg p3) (((md + 1) + 1) + 1).toNatClampNeg p4)))]) (ws2 := fun _ => [(h0, .inr (8, [.int cd, .int n, .ref h1, .int ((((md + 1) + 1) + 1) + 1), .ref h2, .int (ch + v_1), .int sh, .int tp, .int lf, .int bt, .int rt])), (h1, .inl (cA, 1000, .inl f)), (h2, .inl (cB, 1000, .inl (upd (upd (upd (upd g md.toNatClampNeg (5 + (16 * p1))) (md + 1).toNatClampNeg p2) ((md + 1) + 1).toNatClampNeg p3) (((md + 1) + 1) + 1).toNatClampNeg p4)))]) (va_runV (As := [.int p4]) (rest := []) ⟨hx, hb, hml, hown, hts⟩ (kX10_make l D H.size h0 h1 h2 cA cB cd n (((md + 1) + 1) + 1) (ch + v_1) sh tp lf bt rt f (upd (upd (upd g md.toNatClampNeg (5 + (16 * p1))) (md + 1).toNatClampNeg p2) ((md + 1) + 1).toNatClampNeg p3) p4 (in_add (c := 1) (n := 1000) (in_add (c := 1) (n := 997) (in_add (c := 1) (n := 996) hm (by decide) (by decide) (by decide)) (by decide) (by decide) (by decide)) (by decide) (by decide) (by decide))) (cwV 1 hts gX10_makeRange_X10_make rfl rfl rfl (by decide +kernel) ⟨Nat.le_of_ble_eq_true rfl, Nat.le_of_ble_eq_true rfl⟩) ⟨Pw_blind, (va_recv hKc hPc (ci := 8) (q0 := 0) rfl rfl), fun U hU hW => Pw_at hKc hPc hDc hN hU hW⟩ rfl rfl hl.1 rfl (lv_room (Nat.le_of_ble_eq_true rfl)) dX10_makeRange_117 ⟨Nat.le_of_ble_eq_true rfl, Nat.le_of_ble_eq_true rfl⟩) hP hD hS hA [0, 1, 2] [] [0, 1, 2] rfl rfl (by decide) (by decide) (fun _ => rfl) (by decide) (fun _ _ H locs hP hD hS => ?_)
    have hP : va_P D vwCl [(h0, .inr (8, [.int cd, .int n, .ref h1, .int ((((md + 1) + 1) + 1) + 1), .ref h2, .int (ch + v_1), .int sh, .int tp, .int lf, .int bt, .int rt])), (h1, .inl (cA, 1000, .inl f)), (h2, .inl (cB, 1000, .inl (upd (upd (upd (upd g md.toNatClampNeg (5 + (16 * p1))) (md + 1).toNatClampNeg p2) ((md + 1) + 1).toNatClampNeg p3) (((md + 1) + 1) + 1).toNatClampNeg p4)))] H := hP
    have hD : va_D A [(h0, .inr (8, [.int cd, .int n, .ref h1, .int ((((md + 1) + 1) + 1) + 1), .ref h2, .int (ch + v_1), .int sh, .int tp, .int lf, .int bt, .int rt])), (h1, .inl (cA, 1000, .inl f)), (h2, .inl (cB, 1000, .inl (upd (upd (upd (upd g md.toNatClampNeg (5 + (16 * p1))) (md + 1).toNatClampNeg p2) ((md + 1) + 1).toNatClampNeg p3) (((md + 1) + 1) + 1).toNatClampNeg p4)))] := hD
    refine lv_aload_n hx hb dX10_makeRange_120 rfl (lv_at hl 0 rfl) ?_
    refine lv_iload hx hb dX10_makeRange_121 (lv_at hl 4 rfl) ?_
    have hPc := hP.sub (ws' := [(h0, .inr (8, [.int cd, .int n, .ref h1, .int ((((md + 1) + 1) + 1) + 1), .ref h2, .int (ch + v_1), .int sh, .int tp, .int lf, .int bt, .int rt])), (h1, .inl (cA, 1000, .inl f)), (h2, .inl (cB, 1000, .inl (upd (upd (upd (upd g md.toNatClampNeg (5 + (16 * p1))) (md + 1).toNatClampNeg p2) ((md + 1) + 1).toNatClampNeg p3) (((md + 1) + 1) + 1).toNatClampNeg p4)))]) [0, 1, 2] rfl
    have hDc := hD.sub (ws' := [(h0, .inr (8, [.int cd, .int n, .ref h1, .int ((((md + 1) + 1) + 1) + 1), .ref h2, .int (ch + v_1), .int sh, .int tp, .int lf, .int bt, .int rt])), (h1, .inl (cA, 1000, .inl f)), (h2, .inl (cB, 1000, .inl (upd (upd (upd (upd g md.toNatClampNeg (5 + (16 * p1))) (md + 1).toNatClampNeg p2) ((md + 1) + 1).toNatClampNeg p3) (((md + 1) + 1) + 1).toNatClampNeg p4)))]) [0, 1, 2] (by decide) rfl
    have hKc := hK.sub (tys' := [(cA, .int), (cB, .int)]) [0, 1] rfl
    refine wk_v (β := Unit) (ok := fun _ => True) (wc := [(h0, .inr (8, [.int cd, .int n, .ref h1, .int ((((md + 1) + 1) + 1) + 1), .ref h2, .int (ch + v_1), .int sh, .int tp, .int lf, .int bt, .int rt])), (h1, .inl (cA, 1000, .inl f)), (h2, .inl (cB, 1000, .inl (upd (upd (upd (upd g md.toNatClampNeg (5 + (16 * p1))) (md + 1).toNatClampNeg p2) ((md + 1) + 1).toNatClampNeg p3) (((md + 1) + 1) + 1).toNatClampNeg p4)))]) (wr := []) (w1 := fun _ => [(h0, .inr (8, [.int cd, .int n, .ref h1, .int (((((md + 1) + 1) + 1) + 1) + 1), .ref h2, .int (ch + v_1), .int sh, .int tp, .int lf, .int bt, .int rt])), (h1, .inl (cA, 1000, .inl f)), (h2, .inl (cB, 1000, .inl (upd (upd (upd (upd (upd g md.toNatClampNeg (5 + (16 * p1))) (md + 1).toNatClampNeg p2) ((md + 1) + 1).toNatClampNeg p3) (((md + 1) + 1) + 1).toNatClampNeg p4) ((((md + 1) + 1) + 1) + 1).toNatClampNeg p5)))]) (ws2 := fun _ => [(h0, .inr (8, [.int cd, .int n, .ref h1, .int (((((md + 1) + 1) + 1) + 1) + 1), .ref h2, .int (ch + v_1), .int sh, .int tp, .int lf, .int bt, .int rt])), (h1, .inl (cA, 1000, .inl f)), (h2, .inl (cB, 1000, .inl (upd (upd (upd (upd (upd g md.toNatClampNeg (5 + (16 * p1))) (md + 1).toNatClampNeg p2) ((md + 1) + 1).toNatClampNeg p3) (((md + 1) + 1) + 1).toNatClampNeg p4) ((((md + 1) + 1) + 1) + 1).toNatClampNeg p5)))]) (va_runV (As := [.int p5]) (rest := []) ⟨hx, hb, hml, hown, hts⟩ (kX10_make l D H.size h0 h1 h2 cA cB cd n ((((md + 1) + 1) + 1) + 1) (ch + v_1) sh tp lf bt rt f (upd (upd (upd (upd g md.toNatClampNeg (5 + (16 * p1))) (md + 1).toNatClampNeg p2) ((md + 1) + 1).toNatClampNeg p3) (((md + 1) + 1) + 1).toNatClampNeg p4) p5 (in_add (c := 1) (n := 1000) (in_add (c := 1) (n := 998) (in_add (c := 1) (n := 997) (in_add (c := 1) (n := 996) hm (by decide) (by decide) (by decide)) (by decide) (by decide) (by decide)) (by decide) (by decide) (by decide)) (by decide) (by decide) (by decide))) (cwV 1 hts gX10_makeRange_X10_make rfl rfl rfl (by decide +kernel) ⟨Nat.le_of_ble_eq_true rfl, Nat.le_of_ble_eq_true rfl⟩) ⟨Pw_blind, (va_recv hKc hPc (ci := 8) (q0 := 0) rfl rfl), fun U hU hW => Pw_at hKc hPc hDc hN hU hW⟩ rfl rfl hl.1 rfl (lv_room (Nat.le_of_ble_eq_true rfl)) dX10_makeRange_123 ⟨Nat.le_of_ble_eq_true rfl, Nat.le_of_ble_eq_true rfl⟩) hP hD hS hA [0, 1, 2] [] [0, 1, 2] rfl rfl (by decide) (by decide) (fun _ => rfl) (by decide) (fun _ _ H locs hP hD hS => ?_)
    have hP : va_P D vwCl [(h0, .inr (8, [.int cd, .int n, .ref h1, .int (((((md + 1) + 1) + 1) + 1) + 1), .ref h2, .int (ch + v_1), .int sh, .int tp, .int lf, .int bt, .int rt])), (h1, .inl (cA, 1000, .inl f)), (h2, .inl (cB, 1000, .inl (upd (upd (upd (upd (upd g md.toNatClampNeg (5 + (16 * p1))) (md + 1).toNatClampNeg p2) ((md + 1) + 1).toNatClampNeg p3) (((md + 1) + 1) + 1).toNatClampNeg p4) ((((md + 1) + 1) + 1) + 1).toNatClampNeg p5)))] H := hP
    have hD : va_D A [(h0, .inr (8, [.int cd, .int n, .ref h1, .int (((((md + 1) + 1) + 1) + 1) + 1), .ref h2, .int (ch + v_1), .int sh, .int tp, .int lf, .int bt, .int rt])), (h1, .inl (cA, 1000, .inl f)), (h2, .inl (cB, 1000, .inl (upd (upd (upd (upd (upd g md.toNatClampNeg (5 + (16 * p1))) (md + 1).toNatClampNeg p2) ((md + 1) + 1).toNatClampNeg p3) (((md + 1) + 1) + 1).toNatClampNeg p4) ((((md + 1) + 1) + 1) + 1).toNatClampNeg p5)))] := hD
    refine lv_aload_n hx hb dX10_makeRange_126 rfl (lv_at hl 0 rfl) ?_
    refine lv_iload hx hb dX10_makeRange_127 (lv_at hl 5 rfl) ?_
    have hPc := hP.sub (ws' := [(h0, .inr (8, [.int cd, .int n, .ref h1, .int (((((md + 1) + 1) + 1) + 1) + 1), .ref h2, .int (ch + v_1), .int sh, .int tp, .int lf, .int bt, .int rt])), (h1, .inl (cA, 1000, .inl f)), (h2, .inl (cB, 1000, .inl (upd (upd (upd (upd (upd g md.toNatClampNeg (5 + (16 * p1))) (md + 1).toNatClampNeg p2) ((md + 1) + 1).toNatClampNeg p3) (((md + 1) + 1) + 1).toNatClampNeg p4) ((((md + 1) + 1) + 1) + 1).toNatClampNeg p5)))]) [0, 1, 2] rfl
    have hDc := hD.sub (ws' := [(h0, .inr (8, [.int cd, .int n, .ref h1, .int (((((md + 1) + 1) + 1) + 1) + 1), .ref h2, .int (ch + v_1), .int sh, .int tp, .int lf, .int bt, .int rt])), (h1, .inl (cA, 1000, .inl f)), (h2, .inl (cB, 1000, .inl (upd (upd (upd (upd (upd g md.toNatClampNeg (5 + (16 * p1))) (md + 1).toNatClampNeg p2) ((md + 1) + 1).toNatClampNeg p3) (((md + 1) + 1) + 1).toNatClampNeg p4) ((((md + 1) + 1) + 1) + 1).toNatClampNeg p5)))]) [0, 1, 2] (by decide) rfl
    have hKc := hK.sub (tys' := [(cA, .int), (cB, .int)]) [0, 1] rfl
    refine wk_v (β := Unit) (ok := fun _ => True) (wc := [(h0, .inr (8, [.int cd, .int n, .ref h1, .int (((((md + 1) + 1) + 1) + 1) + 1), .ref h2, .int (ch + v_1), .int sh, .int tp, .int lf, .int bt, .int rt])), (h1, .inl (cA, 1000, .inl f)), (h2, .inl (cB, 1000, .inl (upd (upd (upd (upd (upd g md.toNatClampNeg (5 + (16 * p1))) (md + 1).toNatClampNeg p2) ((md + 1) + 1).toNatClampNeg p3) (((md + 1) + 1) + 1).toNatClampNeg p4) ((((md + 1) + 1) + 1) + 1).toNatClampNeg p5)))]) (wr := []) (w1 := fun _ => [(h0, .inr (8, [.int cd, .int n, .ref h1, .int ((((((md + 1) + 1) + 1) + 1) + 1) + 1), .ref h2, .int (ch + v_1), .int sh, .int tp, .int lf, .int bt, .int rt])), (h1, .inl (cA, 1000, .inl f)), (h2, .inl (cB, 1000, .inl (upd (upd (upd (upd (upd (upd g md.toNatClampNeg (5 + (16 * p1))) (md + 1).toNatClampNeg p2) ((md + 1) + 1).toNatClampNeg p3) (((md + 1) + 1) + 1).toNatClampNeg p4) ((((md + 1) + 1) + 1) + 1).toNatClampNeg p5) (((((md + 1) + 1) + 1) + 1) + 1).toNatClampNeg p6)))]) (ws2 := fun _ => [(h0, .inr (8, [.int cd, .int n, .ref h1, .int ((((((md + 1) + 1) + 1) + 1) + 1) + 1), .ref h2, .int (ch + v_1), .int sh, .int tp, .int lf, .int bt, .int rt])), (h1, .inl (cA, 1000, .inl f)), (h2, .inl (cB, 1000, .inl (upd (upd (upd (upd (upd (upd g md.toNatClampNeg (5 + (16 * p1))) (md + 1).toNatClampNeg p2) ((md + 1) + 1).toNatClampNeg p3) (((md + 1) + 1) + 1).toNatClampNeg p4) ((((md + 1) + 1) + 1) + 1).toNatClampNeg p5) (((((md + 1) + 1) + 1) + 1) + 1).toNatClampNeg p6)))]) (va_runV (As := [.int p6]) (rest := []) ⟨hx, hb, hml, hown, hts⟩ (kX10_make l D H.size h0 h1 h2 cA cB cd n (((((md + 1) + 1) + 1) + 1) + 1) (ch + v_1) sh tp lf bt rt f (upd (upd (upd (upd (upd g md.toNatClampNeg (5 + (16 * p1))) (md + 1).toNatClampNeg p2) ((md + 1) + 1).toNatClampNeg p3) (((md + 1) + 1) + 1).toNatClampNeg p4) ((((md + 1) + 1) + 1) + 1).toNatClampNeg p5) p6 (in_add (c := 1) (n := 1000) (in_add (c := 1) (n := 999) (in_add (c := 1) (n := 998) (in_add (c := 1) (n := 997) (in_add (c := 1) (n := 996) hm (by decide) (by decide) (by decide)) (by decide) (by decide) (by decide)) (by decide) (by decide) (by decide)) (by decide) (by decide) (by decide)) (by decide) (by decide) (by decide))) (cwV 1 hts gX10_makeRange_X10_make rfl rfl rfl (by decide +kernel) ⟨Nat.le_of_ble_eq_true rfl, Nat.le_of_ble_eq_true rfl⟩) ⟨Pw_blind, (va_recv hKc hPc (ci := 8) (q0 := 0) rfl rfl), fun U hU hW => Pw_at hKc hPc hDc hN hU hW⟩ rfl rfl hl.1 rfl (lv_room (Nat.le_of_ble_eq_true rfl)) dX10_makeRange_129 ⟨Nat.le_of_ble_eq_true rfl, Nat.le_of_ble_eq_true rfl⟩) hP hD hS hA [0, 1, 2] [] [0, 1, 2] rfl rfl (by decide) (by decide) (fun _ => rfl) (by decide) (fun _ _ H locs hP hD hS => ?_)
    have hP : va_P D vwCl [(h0, .inr (8, [.int cd, .int n, .ref h1, .int ((((((md + 1) + 1) + 1) + 1) + 1) + 1), .ref h2, .int (ch + v_1), .int sh, .int tp, .int lf, .int bt, .int rt])), (h1, .inl (cA, 1000, .inl f)), (h2, .inl (cB, 1000, .inl (upd (upd (upd (upd (upd (upd g md.toNatClampNeg (5 + (16 * p1))) (md + 1).toNatClampNeg p2) ((md + 1) + 1).toNatClampNeg p3) (((md + 1) + 1) + 1).toNatClampNeg p4) ((((md + 1) + 1) + 1) + 1).toNatClampNeg p5) (((((md + 1) + 1) + 1) + 1) + 1).toNatClampNeg p6)))] H := hP
    have hD : va_D A [(h0, .inr (8, [.int cd, .int n, .ref h1, .int ((((((md + 1) + 1) + 1) + 1) + 1) + 1), .ref h2, .int (ch + v_1), .int sh, .int tp, .int lf, .int bt, .int rt])), (h1, .inl (cA, 1000, .inl f)), (h2, .inl (cB, 1000, .inl (upd (upd (upd (upd (upd (upd g md.toNatClampNeg (5 + (16 * p1))) (md + 1).toNatClampNeg p2) ((md + 1) + 1).toNatClampNeg p3) (((md + 1) + 1) + 1).toNatClampNeg p4) ((((md + 1) + 1) + 1) + 1).toNatClampNeg p5) (((((md + 1) + 1) + 1) + 1) + 1).toNatClampNeg p6)))] := hD
    have hF : (fX10_makeRange md ch f g k p1 p2 p3 p4 p5 p6) = (((((((md + 1) + 1) + 1) + 1) + 1) + 1), (ch + v_1), (upd (upd (upd (upd (upd (upd g md.toNatClampNeg (5 + (16 * p1))) (md + 1).toNatClampNeg p2) ((md + 1) + 1).toNatClampNeg p3) (((md + 1) + 1) + 1).toNatClampNeg p4) ((((md + 1) + 1) + 1) + 1).toNatClampNeg p5) (((((md + 1) + 1) + 1) + 1) + 1).toNatClampNeg p6)) := by subst ev_1; exact rfl
    subst hAe
    subst hQe
    exact W.vret hx hb hr (fun t ht hW => ⟨⟨_, rfl, ⟨(), trivial, by rw [hF]⟩, by rw [ht]; exact hP, hD⟩, hS.F ht⟩) hS.2.2 dX10_makeRange_132
  refine lv_icmp_ne (tgt := 88) hx hb dX10_makeRange_21 (by decide) (fun c21 => ?_) (fun c21 => ?_)
  · refine lv_iconst (v := 1) hx hb dX10_makeRange_88 (by decide) ?_
    refine lv_goto (tgt := 93) hx hb dX10_makeRange_89 (by decide) ?_
    exact K93_1 _ (if_neg c21).symm ls (lv_sub hl [1, 4, 5, 6, 7, 8, 0] rfl)
  · refine lv_iload_n hx hb dX10_makeRange_24 rfl (lv_at hl 4 rfl) ?_
    refine lv_aload_n hx hb dX10_makeRange_25 rfl (lv_at hl 1 rfl) ?_
    refine va_get (D := D) (ci := 8) (v := .ref h1) (C := RX10) (T := TX10) (N := 11) hx hb hts w_X10 hown hK hP 0 rfl rfl 2 (by decide) f_7 (fun _ h9 => h9) rfl dX10_makeRange_26 ?_
    refine lv_iload_n hx hb dX10_makeRange_29 rfl (lv_at hl 2 rfl) ?_
    refine lv_iconst (v := 1) hx hb dX10_makeRange_30 (by decide) ?_
    refine lv_iadd hx hb dX10_makeRange_31 ?_
    refine va_iald hx hb hK hP 1 0 rfl rfl (in_add (c := 1) (n := 1000) hk (by decide) (by decide) (by decide)) dX10_makeRange_32 ?_
    refine lv_icmp_ne (tgt := 88) hx hb dX10_makeRange_33 (by decide) (fun c33 => ?_) (fun c33 => ?_)
    · refine lv_iconst (v := 1) hx hb dX10_makeRange_88 (by decide) ?_
      refine lv_goto (tgt := 93) hx hb dX10_makeRange_89 (by decide) ?_
      exact K93_1 _ ((if_pos c21).trans (if_neg c33)).symm ls (lv_sub hl [1, 4, 5, 6, 7, 8, 0] rfl)
    · refine lv_iload hx hb dX10_makeRange_36 (lv_at hl 5 rfl) ?_
      refine lv_aload_n hx hb dX10_makeRange_38 rfl (lv_at hl 1 rfl) ?_
      refine va_get (D := D) (ci := 8) (v := .ref h1) (C := RX10) (T := TX10) (N := 11) hx hb hts w_X10 hown hK hP 0 rfl rfl 2 (by decide) f_7 (fun _ h9 => h9) rfl dX10_makeRange_39 ?_
      refine lv_iload_n hx hb dX10_makeRange_42 rfl (lv_at hl 2 rfl) ?_
      refine lv_iconst (v := 2) hx hb dX10_makeRange_43 (by decide) ?_
      refine lv_iadd hx hb dX10_makeRange_44 ?_
      refine va_iald hx hb hK hP 1 0 rfl rfl (in_add (c := 2) (n := 1000) hk (by decide) (by decide) (by decide)) dX10_makeRange_45 ?_
      refine lv_icmp_ne (tgt := 88) hx hb dX10_makeRange_46 (by decide) (fun c46 => ?_) (fun c46 => ?_)
      · refine lv_iconst (v := 1) hx hb dX10_makeRange_88 (by decide) ?_
        refine lv_goto (tgt := 93) hx hb dX10_makeRange_89 (by decide) ?_
        exact K93_1 _ ((if_pos c21).trans ((if_pos c33).trans (if_neg c46))).symm ls (lv_sub hl [1, 4, 5, 6, 7, 8, 0] rfl)
      · refine lv_iload hx hb dX10_makeRange_49 (lv_at hl 6 rfl) ?_
        refine lv_aload_n hx hb dX10_makeRange_51 rfl (lv_at hl 1 rfl) ?_
        refine va_get (D := D) (ci := 8) (v := .ref h1) (C := RX10) (T := TX10) (N := 11) hx hb hts w_X10 hown hK hP 0 rfl rfl 2 (by decide) f_7 (fun _ h9 => h9) rfl dX10_makeRange_52 ?_
        refine lv_iload_n hx hb dX10_makeRange_55 rfl (lv_at hl 2 rfl) ?_
        refine lv_iconst (v := 3) hx hb dX10_makeRange_56 (by decide) ?_
        refine lv_iadd hx hb dX10_makeRange_57 ?_
        refine va_iald hx hb hK hP 1 0 rfl rfl (in_add (c := 3) (n := 1000) hk (by decide) (by decide) (by decide)) dX10_makeRange_58 ?_
        refine lv_icmp_ne (tgt := 88) hx hb dX10_makeRange_59 (by decide) (fun c59 => ?_) (fun c59 => ?_)
        · refine lv_iconst (v := 1) hx hb dX10_makeRange_88 (by decide) ?_
          refine lv_goto (tgt := 93) hx hb dX10_makeRange_89 (by decide) ?_
          exact K93_1 _ ((if_pos c21).trans ((if_pos c33).trans ((if_pos c46).trans (if_neg c59)))).symm ls (lv_sub hl [1, 4, 5, 6, 7, 8, 0] rfl)
        · refine lv_iload hx hb dX10_makeRange_62 (lv_at hl 7 rfl) ?_
          refine lv_aload_n hx hb dX10_makeRange_64 rfl (lv_at hl 1 rfl) ?_
          refine va_get (D := D) (ci := 8) (v := .ref h1) (C := RX10) (T := TX10) (N := 11) hx hb hts w_X10 hown hK hP 0 rfl rfl 2 (by decide) f_7 (fun _ h9 => h9) rfl dX10_makeRange_65 ?_
          refine lv_iload_n hx hb dX10_makeRange_68 rfl (lv_at hl 2 rfl) ?_
          refine lv_iconst (v := 4) hx hb dX10_makeRange_69 (by decide) ?_
          refine lv_iadd hx hb dX10_makeRange_70 ?_
          refine va_iald hx hb hK hP 1 0 rfl rfl (in_add (c := 4) (n := 1000) hk (by decide) (by decide) (by decide)) dX10_makeRange_71 ?_
          refine lv_icmp_ne (tgt := 88) hx hb dX10_makeRange_72 (by decide) (fun c72 => ?_) (fun c72 => ?_)
          · refine lv_iconst (v := 1) hx hb dX10_makeRange_88 (by decide) ?_
            refine lv_goto (tgt := 93) hx hb dX10_makeRange_89 (by decide) ?_
            exact K93_1 _ ((if_pos c21).trans ((if_pos c33).trans ((if_pos c46).trans ((if_pos c59).trans (if_neg c72))))).symm ls (lv_sub hl [1, 4, 5, 6, 7, 8, 0] rfl)
          · refine lv_iload hx hb dX10_makeRange_75 (lv_at hl 8 rfl) ?_
            refine lv_aload_n hx hb dX10_makeRange_77 rfl (lv_at hl 1 rfl) ?_
            refine va_get (D := D) (ci := 8) (v := .ref h1) (C := RX10) (T := TX10) (N := 11) hx hb hts w_X10 hown hK hP 0 rfl rfl 2 (by decide) f_7 (fun _ h9 => h9) rfl dX10_makeRange_78 ?_
            refine lv_iload_n hx hb dX10_makeRange_81 rfl (lv_at hl 2 rfl) ?_
            refine lv_iconst (v := 5) hx hb dX10_makeRange_82 (by decide) ?_
            refine lv_iadd hx hb dX10_makeRange_83 ?_
            refine va_iald hx hb hK hP 1 0 rfl rfl (in_add (c := 5) (n := 1000) hk (by decide) (by decide) (by decide)) dX10_makeRange_84 ?_
            refine lv_icmp_eq (tgt := 92) hx hb dX10_makeRange_85 (by decide) (fun c85 => ?_) (fun c85 => ?_)
            · refine lv_iconst (v := 0) hx hb dX10_makeRange_92 (by decide) ?_
              exact K93_1 _ ((if_pos c21).trans ((if_pos c33).trans ((if_pos c46).trans ((if_pos c59).trans ((if_pos c72).trans (if_pos c85)))))).symm ls (lv_sub hl [1, 4, 5, 6, 7, 8, 0] rfl)
            · refine lv_iconst (v := 1) hx hb dX10_makeRange_88 (by decide) ?_
              refine lv_goto (tgt := 93) hx hb dX10_makeRange_89 (by decide) ?_
              exact K93_1 _ ((if_pos c21).trans ((if_pos c33).trans ((if_pos c46).trans ((if_pos c59).trans ((if_pos c72).trans (if_neg c85)))))).symm ls (lv_sub hl [1, 4, 5, 6, 7, 8, 0] rfl)
