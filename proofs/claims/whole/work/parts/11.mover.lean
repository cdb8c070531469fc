abbrev rmX9_size : Room := { frames := 0, cells := 0, slots := 0, locals := 0 }
abbrev qX9_size (D : va_G) (sz : Nat) (h0 : Nat) (h1 : Nat) (cA : ClassId) (x2 : Value) (x3 : Value) (n : Int32) (f : Nat → Int32) : Array Value → State → Outcome → State → Prop := vp_Si (fun r_9 => r_9 = n)
set_option maxHeartbeats 4000000 in
set_option maxRecDepth 100000 in
theorem kX9_size (l : Launch) (D : va_G) (sz : Nat) (h0 : Nat) (h1 : Nat) (cA : ClassId) (x2 : Value) (x3 : Value) (n : Int32) (f : Nat → Int32) : Met l yX9_size wsX9_size rmX9_size (va_Pc [.ref h0] (Pw D [(cA, .int)] [(h0, .inr (7, [.ref h1, .int n, x2, x3])), (h1, .inl (cA, 1000, .inl f))] sz)) (qX9_size D sz h0 h1 cA x2 x3 n f) 0 0 (fun _ => False) := by
  refine Met.ofW (cc := cX9_size) (maxL := 1) (ret := (some .int)) (by decide) rfl ?_
  intro p e s m args below meth c s₁ B hml hv
  obtain ⟨rfl, hsz, hP, hK, hD0, hN⟩ := hv
  have hx := B.exec
  have hb := B.bytes
  have hr := B.returns
  have hts := atoms_spec (ws := wsX9_size) B.pre
  have hown : s.vm.findClass RX9 = some m.cls := findClass_of_methodNamed B.named
  have hlocks := B.notSynchronized
  subst hsz
  obtain ⟨Q, hQe⟩ : ∃ Q, Q = MQ below (qX9_size D s.heap.size h0 h1 cA x2 x3 n f) ([.ref h0] : List Value).toArray s 0 0 (fun _ => False) := ⟨_, rfl⟩
  rw [← hQe]
  have hD := hD0
  have hP : va_P D vwCl [(h0, .inr (7, [.ref h1, .int n, x2, x3])), (h1, .inl (cA, 1000, .inl f))] s.heap := hP
  have hl := lv_entry ([.ref h0]) (n := 1) (Nat.le_of_ble_eq_true rfl)
  rw [lg_entry_eq]
  generalize (lg_sl ([.ref h0]) ++ List.replicate (1 - (lg_sl ([.ref h0])).length) Slot.unset).toArray = ls at hl ⊢
  have hl : lv_has ls 1 [(0, .ref h0)] := hl
  have w_X9 : ∀ w ∈ wsX90, w ∈ wsX9_size := by decide +kernel
  have f_13 := hts (.fieldLink RX9 13 "ReferenceMover" "size" "I") (by decide +kernel)
  refine lv_aload_n hx hb dX9_size_0 rfl (lv_at hl 0 rfl) ?_
  refine va_get (D := D) (ci := 7) (v := .int n) (C := RX9) (T := TX9) (N := 4) hx hb hts w_X9 hown hK hP 0 rfl rfl 1 (by decide) f_13 (fun _ h9 => h9) rfl dX9_size_1 ?_
  subst hQe
  exact W.iret (v := n) hx hb hr (fun t ht hW => ⟨_, rfl, rfl, ht⟩) (fun q h => absurd h List.not_mem_nil) dX9_size_4

abbrev rmX9_clear : Room := { frames := 0, cells := 0, slots := 0, locals := 0 }
abbrev qX9_clear (D : va_G) (sz : Nat) (h0 : Nat) (h1 : Nat) (cA : ClassId) (x2 : Value) (x3 : Value) (n : Int32) (f : Nat → Int32) : Array Value → State → Outcome → State → Prop := va_Qv (fun w_9 => ∃ _u : Unit, True ∧ w_9 = [(h0, .inr (7, [.ref h1, .int 0, x2, x3])), (h1, .inl (cA, 1000, .inl f))]) (Bq D (va_A [(h0, .inr (7, [.ref h1, .int n, x2, x3])), (h1, .inl (cA, 1000, .inl f))] sz)) (va_A [(h0, .inr (7, [.ref h1, .int n, x2, x3])), (h1, .inl (cA, 1000, .inl f))] sz)
set_option maxHeartbeats 4000000 in
set_option maxRecDepth 100000 in
theorem kX9_clear (l : Launch) (D : va_G) (sz : Nat) (h0 : Nat) (h1 : Nat) (cA : ClassId) (x2 : Value) (x3 : Value) (n : Int32) (f : Nat → Int32) : Met l yX9_clear wsX9_clear rmX9_clear (va_Pc [.ref h0] (Pw D [(cA, .int)] [(h0, .inr (7, [.ref h1, .int n, x2, x3])), (h1, .inl (cA, 1000, .inl f))] sz)) (qX9_clear D sz h0 h1 cA x2 x3 n f) 0 0 (va_A [(h0, .inr (7, [.ref h1, .int n, x2, x3])), (h1, .inl (cA, 1000, .inl f))] sz) := by
  refine Met.ofW (cc := cX9_clear) (maxL := 1) (ret := none) (by decide) rfl ?_
  intro p e s m args below meth c s₁ B hml hv
  obtain ⟨rfl, hsz, hP, hK, hD0, hN⟩ := hv
  have hx := B.exec
  have hb := B.bytes
  have hr := B.returns
  have hts := atoms_spec (ws := wsX9_clear) B.pre
  have hown : s.vm.findClass RX9 = some m.cls := findClass_of_methodNamed B.named
  have hlocks := B.notSynchronized
  subst hsz
  obtain ⟨Q, hQe⟩ : ∃ Q, Q = MQ below (qX9_clear D s.heap.size h0 h1 cA x2 x3 n f) ([.ref h0] : List Value).toArray s 0 0 (va_A [(h0, .inr (7, [.ref h1, .int n, x2, x3])), (h1, .inl (cA, 1000, .inl f))] s.heap.size) := ⟨_, rfl⟩
  rw [← hQe]
  obtain ⟨A, hAe⟩ : ∃ A, A = va_A [(h0, .inr (7, [.ref h1, .int n, x2, x3])), (h1, .inl (cA, 1000, .inl f))] s.heap.size := ⟨_, rfl⟩
  have hD : va_D A [(h0, .inr (7, [.ref h1, .int n, x2, x3])), (h1, .inl (cA, 1000, .inl f))] := by rw [hAe]; exact hD0.self
  have hA : ∀ q : Nat, s.heap.size ≤ q → A q := by rw [hAe]; exact mo_A
  have hS : va_S A s.heap s.heap [] := va_S.rf
  obtain ⟨H, hHe⟩ : ∃ H, H = s.heap := ⟨_, rfl⟩
  obtain ⟨locs, hLe⟩ : ∃ L : List Loc, L = [] := ⟨_, rfl⟩
  have hP : va_P D vwCl [(h0, .inr (7, [.ref h1, .int n, x2, x3])), (h1, .inl (cA, 1000, .inl f))] H := by rw [hHe]; exact hP
  have hS : va_S A s.heap H locs := by rw [hHe, hLe]; exact hS
  have hl := lv_entry ([.ref h0]) (n := 1) (Nat.le_of_ble_eq_true rfl)
  rw [lg_entry_eq]
  generalize (lg_sl ([.ref h0]) ++ List.replicate (1 - (lg_sl ([.ref h0])).length) Slot.unset).toArray = ls at hl ⊢
  have hl : lv_has ls 1 [(0, .ref h0)] := hl
  refine hStart hHe hLe ?_
  clear hHe hLe
  have w_X9 : ∀ w ∈ wsX90, w ∈ wsX9_clear := by decide +kernel
  have f_13 := hts (.fieldLink RX9 13 "ReferenceMover" "size" "I") (by decide +kernel)
  refine lv_aload_n hx hb dX9_clear_0 rfl (lv_at hl 0 rfl) ?_
  refine lv_iconst (v := 0) hx hb dX9_clear_1 (by decide) ?_
  refine va_put (D := D) (ci := 7) (v := .int 0) (ty := .int) (C := RX9) (T := TX9) (N := 4) hx hb hts w_X9 tyX9 tyX9_ok nmX9 hown hK hP hD hS 0 rfl rfl 1 (by decide) f_13 (fun _ h9 => h9) rfl (by decide +kernel) rfl rfl (Nat.le_of_ble_eq_true rfl) dX9_clear_2 (fun H locs hP hD hS => ?_)
  have hP : va_P D vwCl [(h0, .inr (7, [.ref h1, .int 0, x2, x3])), (h1, .inl (cA, 1000, .inl f))] H := hP
  have hD : va_D A [(h0, .inr (7, [.ref h1, .int 0, x2, x3])), (h1, .inl (cA, 1000, .inl f))] := hD
  subst hAe
  subst hQe
  exact W.vret hx hb hr (fun t ht hW => ⟨⟨_, rfl, ⟨(), trivial, rfl⟩, by rw [ht]; exact hP, hD⟩, hS.F ht⟩) hS.2.2 dX9_clear_5

def fX9_word (n : Int32) (f : Nat → Int32) (k : Int32) : Int32 := if k < 0 then 0 else (if n ≤ k then 0 else (if 1000 ≤ k then 0 else (f k.toNatClampNeg)))
abbrev rmX9_word : Room := { frames := 0, cells := 0, slots := 0, locals := 0 }
abbrev qX9_word (D : va_G) (sz : Nat) (h0 : Nat) (h1 : Nat) (cA : ClassId) (x2 : Value) (x3 : Value) (n : Int32) (f : Nat → Int32) (k : Int32) : Array Value → State → Outcome → State → Prop := vp_Si (fun r_9 => r_9 = (fX9_word n f k))
set_option maxHeartbeats 4000000 in
set_option maxRecDepth 100000 in
theorem kX9_word (l : Launch) (D : va_G) (sz : Nat) (h0 : Nat) (h1 : Nat) (cA : ClassId) (x2 : Value) (x3 : Value) (n : Int32) (f : Nat → Int32) (k : Int32) : Met l yX9_word wsX9_word rmX9_word (va_Pc [.ref h0, .int k] (Pw D [(cA, .int)] [(h0, .inr (7, [.ref h1, .int n, x2, x3])), (h1, .inl (cA, 1000, .inl f))] sz)) (qX9_word D sz h0 h1 cA x2 x3 n f k) 0 0 (fun _ => False) := by
  refine Met.ofW (cc := cX9_word) (maxL := 2) (ret := (some .int)) (by decide) rfl ?_
  intro p e s m args below meth c s₁ B hml hv
  obtain ⟨rfl, hsz, hP, hK, hD0, hN⟩ := hv
  have hx := B.exec
  have hb := B.bytes
  have hr := B.returns
  have hts := atoms_spec (ws := wsX9_word) B.pre
  have hown : s.vm.findClass RX9 = some m.cls := findClass_of_methodNamed B.named
  have hlocks := B.notSynchronized
  subst hsz
  obtain ⟨Q, hQe⟩ : ∃ Q, Q = MQ below (qX9_word D s.heap.size h0 h1 cA x2 x3 n f k) ([.ref h0, .int k] : List Value).toArray s 0 0 (fun _ => False) := ⟨_, rfl⟩
  rw [← hQe]
  have hD := hD0
  have hP : va_P D vwCl [(h0, .inr (7, [.ref h1, .int n, x2, x3])), (h1, .inl (cA, 1000, .inl f))] s.heap := hP
  have hl := lv_entry ([.ref h0, .int k]) (n := 2) (Nat.le_of_ble_eq_true rfl)
  rw [lg_entry_eq]
  generalize (lg_sl ([.ref h0, .int k]) ++ List.replicate (2 - (lg_sl ([.ref h0, .int k])).length) Slot.unset).toArray = ls at hl ⊢
  have hl : lv_has ls 2 [(0, .ref h0), (1, .int k)] := hl
  have w_X9 : ∀ w ∈ wsX90, w ∈ wsX9_word := by decide +kernel
  have f_13 := hts (.fieldLink RX9 13 "ReferenceMover" "size" "I") (by decide +kernel)
  have f_9 := hts (.fieldLink RX9 9 "ReferenceMover" "code" "[I") (by decide +kernel)
  refine lv_iload_n hx hb dX9_word_0 rfl (lv_at hl 1 rfl) ?_
  refine lv_if_lt (tgt := 30) hx hb dX9_word_1 (by decide) (fun c1 => ?_) (fun c1 => ?_)
  · refine lv_iconst (v := 0) hx hb dX9_word_30 (by decide) ?_
    have hF : (fX9_word n f k) = 0 := by exact (if_pos c1)
    subst hQe
    exact W.iret (v := 0) hx hb hr (fun t ht hW => ⟨_, rfl, hF.symm, ht⟩) (fun q h => absurd h List.not_mem_nil) dX9_word_31
  · refine lv_iload_n hx hb dX9_word_4 rfl (lv_at hl 1 rfl) ?_
    refine lv_aload_n hx hb dX9_word_5 rfl (lv_at hl 0 rfl) ?_
    refine va_get (D := D) (ci := 7) (v := .int n) (C := RX9) (T := TX9) (N := 4) hx hb hts w_X9 hown hK hP 0 rfl rfl 1 (by decide) f_13 (fun _ h9 => h9) rfl dX9_word_6 ?_
    refine lv_icmp_ge (tgt := 30) hx hb dX9_word_9 (by decide) (fun c9 => ?_) (fun c9 => ?_)
    · refine lv_iconst (v := 0) hx hb dX9_word_30 (by decide) ?_
      have hF : (fX9_word n f k) = 0 := by exact ((if_neg c1).trans (if_pos c9))
      subst hQe
      exact W.iret (v := 0) hx hb hr (fun t ht hW => ⟨_, rfl, hF.symm, ht⟩) (fun q h => absurd h List.not_mem_nil) dX9_word_31
    · refine lv_iload_n hx hb dX9_word_12 rfl (lv_at hl 1 rfl) ?_
      refine lv_aload_n hx hb dX9_word_13 rfl (lv_at hl 0 rfl) ?_
      refine va_get (D := D) (ci := 7) (v := .ref h1) (C := RX9) (T := TX9) (N := 4) hx hb hts w_X9 hown hK hP 0 rfl rfl 0 (by decide) f_9 (fun _ h9 => h9) rfl dX9_word_14 ?_
      refine va_alen (v := 1000) hx hb hK hP 1 0 rfl rfl rfl dX9_word_17 ?_
      refine lv_icmp_ge (tgt := 30) hx hb dX9_word_18 (by decide) (fun c18 => ?_) (fun c18 => ?_)
      · refine lv_iconst (v := 0) hx hb dX9_word_30 (by decide) ?_
        have hF : (fX9_word n f k) = 0 := by exact ((if_neg c1).trans ((if_neg c9).trans (if_pos c18)))
        subst hQe
        exact W.iret (v := 0) hx hb hr (fun t ht hW => ⟨_, rfl, hF.symm, ht⟩) (fun q h => absurd h List.not_mem_nil) dX9_word_31
      · refine lv_aload_n hx hb dX9_word_21 rfl (lv_at hl 0 rfl) ?_
        refine va_get (D := D) (ci := 7) (v := .ref h1) (C := RX9) (T := TX9) (N := 4) hx hb hts w_X9 hown hK hP 0 rfl rfl 0 (by decide) f_9 (fun _ h9 => h9) rfl dX9_word_22 ?_
        refine lv_iload_n hx hb dX9_word_25 rfl (lv_at hl 1 rfl) ?_
        refine va_iald hx hb hK hP 1 0 rfl rfl (in_of2 c1 c18) dX9_word_26 ?_
        refine lv_goto (tgt := 31) hx hb dX9_word_27 (by decide) ?_
        have hF : (fX9_word n f k) = (f k.toNatClampNeg) := by exact ((if_neg c1).trans ((if_neg c9).trans (if_neg c18)))
        subst hQe
        exact W.iret (v := (f k.toNatClampNeg)) hx hb hr (fun t ht hW => ⟨_, rfl, hF.symm, ht⟩) (fun q h => absurd h List.not_mem_nil) dX9_word_31

def fX9_hasRoomFor (n : Int32) (k : Int32) : Int32 := if 1000 < (n + k) then 0 else 1
theorem zb_X9_hasRoomFor (n : Int32) (k : Int32) : isB (fX9_hasRoomFor n k) := by
  unfold fX9_hasRoomFor
  (try dsimp only)
  repeat' split
  all_goals first | exact Or.inl rfl | exact Or.inr rfl
abbrev rmX9_hasRoomFor : Room := { frames := 0, cells := 0, slots := 0, locals := 0 }
abbrev qX9_hasRoomFor (D : va_G) (sz : Nat) (h0 : Nat) (h1 : Nat) (cA : ClassId) (x2 : Value) (x3 : Value) (n : Int32) (f : Nat → Int32) (k : Int32) : Array Value → State → Outcome → State → Prop := vp_Si (fun r_9 => r_9 = (fX9_hasRoomFor n k))
set_option maxHeartbeats 4000000 in
set_option maxRecDepth 100000 in
theorem kX9_hasRoomFor (l : Launch) (D : va_G) (sz : Nat) (h0 : Nat) (h1 : Nat) (cA : ClassId) (x2 : Value) (x3 : Value) (n : Int32) (f : Nat → Int32) (k : Int32) : Met l yX9_hasRoomFor wsX9_hasRoomFor rmX9_hasRoomFor (va_Pc [.ref h0, .int k] (Pw D [(cA, .int)] [(h0, .inr (7, [.ref h1, .int n, x2, x3])), (h1, .inl (cA, 1000, .inl f))] sz)) (qX9_hasRoomFor D sz h0 h1 cA x2 x3 n f k) 0 0 (fun _ => False) := by
  refine Met.ofW (cc := cX9_hasRoomFor) (maxL := 2) (ret := (some .boolean)) (by decide) rfl ?_
  intro p e s m args below meth c s₁ B hml hv
  obtain ⟨rfl, hsz, hP, hK, hD0, hN⟩ := hv
  have hx := B.exec
  have hb := B.bytes
  have hr := B.returns
  have hts := atoms_spec (ws := wsX9_hasRoomFor) B.pre
  have hown : s.vm.findClass RX9 = some m.cls := findClass_of_methodNamed B.named
  have hlocks := B.notSynchronized
  subst hsz
  obtain ⟨Q, hQe⟩ : ∃ Q, Q = MQ below (qX9_hasRoomFor D s.heap.size h0 h1 cA x2 x3 n f k) ([.ref h0, .int k] : List Value).toArray s 0 0 (fun _ => False) := ⟨_, rfl⟩
  rw [← hQe]
  have hD := hD0
  have hP : va_P D vwCl [(h0, .inr (7, [.ref h1, .int n, x2, x3])), (h1, .inl (cA, 1000, .inl f))] s.heap := hP
  have hl := lv_entry ([.ref h0, .int k]) (n := 2) (Nat.le_of_ble_eq_true rfl)
  rw [lg_entry_eq]
  generalize (lg_sl ([.ref h0, .int k]) ++ List.replicate (2 - (lg_sl ([.ref h0, .int k])).length) Slot.unset).toArray = ls at hl ⊢
  have hl : lv_has ls 2 [(0, .ref h0), (1, .int k)] := hl
  have w_X9 : ∀ w ∈ wsX90, w ∈ wsX9_hasRoomFor := by decide +kernel
  have f_13 := hts (.fieldLink RX9 13 "ReferenceMover" "size" "I") (by decide +kernel)
  refine lv_aload_n hx hb dX9_hasRoomFor_0 rfl (lv_at hl 0 rfl) ?_
  refine va_get (D := D) (ci := 7) (v := .int n) (C := RX9) (T := TX9) (N := 4) hx hb hts w_X9 hown hK hP 0 rfl rfl 1 (by decide) f_13 (fun _ h9 => h9) rfl dX9_hasRoomFor_1 ?_
  refine lv_iload_n hx hb dX9_hasRoomFor_4 rfl (lv_at hl 1 rfl) ?_
  refine lv_iadd hx hb dX9_hasRoomFor_5 ?_
  refine lv_sipush (v := 1000) hx hb dX9_hasRoomFor_6 (by decide) ?_
  refine lv_icmp_gt (tgt := 16) hx hb dX9_hasRoomFor_9 (by decide) (fun c9 => ?_) (fun c9 => ?_)
  · refine lv_iconst (v := 0) hx hb dX9_hasRoomFor_16 (by decide) ?_
    have hF : (fX9_hasRoomFor n k) = 0 := by exact (if_pos c9)
    subst hQe
    exact W.zret (v := 0) hx hb hr rfl (fun t ht hW => ⟨_, rfl, hF.symm, ht⟩) (fun q h => absurd h List.not_mem_nil) dX9_hasRoomFor_17
  · refine lv_iconst (v := 1) hx hb dX9_hasRoomFor_12 (by decide) ?_
    refine lv_goto (tgt := 17) hx hb dX9_hasRoomFor_13 (by decide) ?_
    have hF : (fX9_hasRoomFor n k) = 1 := by exact (if_neg c9)
    subst hQe
    exact W.zret (v := 1) hx hb hr rfl (fun t ht hW => ⟨_, rfl, hF.symm, ht⟩) (fun q h => absurd h List.not_mem_nil) dX9_hasRoomFor_17

def fX9_put (f : Nat → Int32) (k : Int32) (w : Int32) : Nat → Int32 := if k < 0 then f else (if 1000 ≤ k then f else (upd f k.toNatClampNeg w))
abbrev rmX9_put : Room := { frames := 0, cells := 0, slots := 0, locals := 0 }
abbrev qX9_put (D : va_G) (sz : Nat) (h0 : Nat) (h1 : Nat) (cA : ClassId) (x2 : Value) (x3 : Value) (n : Int32) (f : Nat → Int32) (k : Int32) (w : Int32) : Array Value → State → Outcome → State → Prop := va_Qv (fun w_9 => ∃ _u : Unit, True ∧ w_9 = [(h0, .inr (7, [.ref h1, .int n, x2, x3])), (h1, .inl (cA, 1000, .inl (fX9_put f k w)))]) (Bq D (va_A [(h0, .inr (7, [.ref h1, .int n, x2, x3])), (h1, .inl (cA, 1000, .inl f))] sz)) (va_A [(h0, .inr (7, [.ref h1, .int n, x2, x3])), (h1, .inl (cA, 1000, .inl f))] sz)
set_option maxHeartbeats 4000000 in
set_option maxRecDepth 100000 in
theorem kX9_put (l : Launch) (D : va_G) (sz : Nat) (h0 : Nat) (h1 : Nat) (cA : ClassId) (x2 : Value) (x3 : Value) (n : Int32) (f : Nat → Int32) (k : Int32) (w : Int32) : Met l yX9_put wsX9_put rmX9_put (va_Pc [.ref h0, .int k, .int w] (Pw D [(cA, .int)] [(h0, .inr (7, [.ref h1, .int n, x2, x3])), (h1, .inl (cA, 1000, .inl f))] sz)) (qX9_put D sz h0 h1 cA x2 x3 n f k w) 0 0 (va_A [(h0, .inr (7, [.ref h1, .int n, x2, x3])), (h1, .inl (cA, 1000, .inl f))] sz) := by
  refine Met.ofW (cc := cX9_put) (maxL := 3) (ret := none) (by decide) rfl ?_
  intro p e s m args below meth c s₁ B hml hv
  obtain ⟨rfl, hsz, hP, hK, hD0, hN⟩ := hv
  have hx := B.exec
  have hb := B.bytes
  have hr := B.returns
  have hts := atoms_spec (ws := wsX9_put) B.pre
  have hown : s.vm.findClass RX9 = some m.cls := findClass_of_methodNamed B.named
  have hlocks := B.notSynchronized
  subst hsz
  obtain ⟨Q, hQe⟩ : ∃ Q, Q = MQ below (qX9_put D s.heap.size h0 h1 cA x2 x3 n f k w) ([.ref h0, .int k, .int w] : List Value).toArray s 0 0 (va_A [(h0, .inr (7, [.ref h1, .int n, x2, x3])), (h1, .inl (cA, 1000, .inl f))] s.heap.size) := ⟨_, rfl⟩
  rw [← hQe]
  obtain ⟨A, hAe⟩ : ∃ A, A = va_A [(h0, .inr (7, [.ref h1, .int n, x2, x3])), (h1, .inl (cA, 1000, .inl f))] s.heap.size := ⟨_, rfl⟩
  have hD : va_D A [(h0, .inr (7, [.ref h1, .int n, x2, x3])), (h1, .inl (cA, 1000, .inl f))] := by rw [hAe]; exact hD0.self
  have hA : ∀ q : Nat, s.heap.size ≤ q → A q := by rw [hAe]; exact mo_A
  have hS : va_S A s.heap s.heap [] := va_S.rf
  obtain ⟨H, hHe⟩ : ∃ H, H = s.heap := ⟨_, rfl⟩
  obtain ⟨locs, hLe⟩ : ∃ L : List Loc, L = [] := ⟨_, rfl⟩
  have hP : va_P D vwCl [(h0, .inr (7, [.ref h1, .int n, x2, x3])), (h1, .inl (cA, 1000, .inl f))] H := by rw [hHe]; exact hP
  have hS : va_S A s.heap H locs := by rw [hHe, hLe]; exact hS
  have hl := lv_entry ([.ref h0, .int k, .int w]) (n := 3) (Nat.le_of_ble_eq_true rfl)
  rw [lg_entry_eq]
  generalize (lg_sl ([.ref h0, .int k, .int w]) ++ List.replicate (3 - (lg_sl ([.ref h0, .int k, .int w])).length) Slot.unset).toArray = ls at hl ⊢
  have hl : lv_has ls 3 [(0, .ref h0), (1, .int k), (2, .int w)] := hl
  refine hStart hHe hLe ?_
  clear hHe hLe
  have w_X9 : ∀ w ∈ wsX90, w ∈ wsX9_put := by decide +kernel
  have f_9 := hts (.fieldLink RX9 9 "ReferenceMover" "code" "[I") (by decide +kernel)
  refine lv_iload_n hx hb dX9_put_0 rfl (lv_at hl 1 rfl) ?_
  refine lv_if_lt (tgt := 20) hx hb dX9_put_1 (by decide) (fun c1 => ?_) (fun c1 => ?_)
  · have hF : (fX9_put f k w) = f := by exact (if_pos c1)
    subst hAe
    subst hQe
    exact W.vret hx hb hr (fun t ht hW => ⟨⟨_, rfl, ⟨(), trivial, by rw [hF]⟩, by rw [ht]; exact hP, hD⟩, hS.F ht⟩) hS.2.2 dX9_put_20
  · refine lv_iload_n hx hb dX9_put_4 rfl (lv_at hl 1 rfl) ?_
    refine lv_aload_n hx hb dX9_put_5 rfl (lv_at hl 0 rfl) ?_
    refine va_get (D := D) (ci := 7) (v := .ref h1) (C := RX9) (T := TX9) (N := 4) hx hb hts w_X9 hown hK hP 0 rfl rfl 0 (by decide) f_9 (fun _ h9 => h9) rfl dX9_put_6 ?_
    refine va_alen (v := 1000) hx hb hK hP 1 0 rfl rfl rfl dX9_put_9 ?_
    refine lv_icmp_ge (tgt := 20) hx hb dX9_put_10 (by decide) (fun c10 => ?_) (fun c10 => ?_)
    · have hF : (fX9_put f k w) = f := by exact ((if_neg c1).trans (if_pos c10))
      subst hAe
      subst hQe
      exact W.vret hx hb hr (fun t ht hW => ⟨⟨_, rfl, ⟨(), trivial, by rw [hF]⟩, by rw [ht]; exact hP, hD⟩, hS.F ht⟩) hS.2.2 dX9_put_20
    · refine lv_aload_n hx hb dX9_put_13 rfl (lv_at hl 0 rfl) ?_
      refine va_get (D := D) (ci := 7) (v := .ref h1) (C := RX9) (T := TX9) (N := 4) hx hb hts w_X9 hown hK hP 0 rfl rfl 0 (by decide) f_9 (fun _ h9 => h9) rfl dX9_put_14 ?_
      refine lv_iload_n hx hb dX9_put_17 rfl (lv_at hl 1 rfl) ?_
      refine lv_iload_n hx hb dX9_put_18 rfl (lv_at hl 2 rfl) ?_
      refine va_iast hx hb hK hP hD hS 1 0 rfl rfl (in_of2 c1 c10) dX9_put_19 (fun H locs hP hD hS => ?_)
      have hP : va_P D vwCl [(h0, .inr (7, [.ref h1, .int n, x2, x3])), (h1, .inl (cA, 1000, .inl (upd f k.toNatClampNeg w)))] H := hP
      have hD : va_D A [(h0, .inr (7, [.ref h1, .int n, x2, x3])), (h1, .inl (cA, 1000, .inl (upd f k.toNatClampNeg w)))] := hD
      have hF : (fX9_put f k w) = (upd f k.toNatClampNeg w) := by exact ((if_neg c1).trans (if_neg c10))
      subst hAe
      subst hQe
      exact W.vret hx hb hr (fun t ht hW => ⟨⟨_, rfl, ⟨(), trivial, by rw [hF]⟩, by rw [ht]; exact hP, hD⟩, hS.F ht⟩) hS.2.2 dX9_put_20

abbrev rmX9_append : Room := { frames := 1, cells := 0, slots := 0, locals := 22 }
abbrev qX9_append (D : va_G) (sz : Nat) (h0 : Nat) (h1 : Nat) (cA : ClassId) (x2 : Value) (x3 : Value) (n : Int32) (f : Nat → Int32) (w : Int32) : Array Value → State → Outcome → State → Prop := va_Qv (fun w_9 => ∃ _u : Unit, True ∧ w_9 = [(h0, .inr (7, [.ref h1, .int (n + 1), x2, x3])), (h1, .inl (cA, 1000, .inl (fX9_put f n w)))]) (Bq D (va_A [(h0, .inr (7, [.ref h1, .int n, x2, x3])), (h1, .inl (cA, 1000, .inl f))] sz)) (va_A [(h0, .inr (7, [.ref h1, .int n, x2, x3])), (h1, .inl (cA, 1000, .inl f))] sz)
set_option maxHeartbeats 4000000 in
set_option maxRecDepth 100000 in
theorem kX9_append (l : Launch) (D : va_G) (sz : Nat) (h0 : Nat) (h1 : Nat) (cA : ClassId) (x2 : Value) (x3 : Value) (n : Int32) (f : Nat → Int32) (w : Int32) : Met l yX9_append wsX9_append rmX9_append (va_Pc [.ref h0, .int w] (Pw D [(cA, .int)] [(h0, .inr (7, [.ref h1, .int n, x2, x3])), (h1, .inl (cA, 1000, .inl f))] sz)) (qX9_append D sz h0 h1 cA x2 x3 n f w) 0 0 (va_A [(h0, .inr (7, [.ref h1, .int n, x2, x3])), (h1, .inl (cA, 1000, .inl f))] sz) := by
  refine Met.ofW (cc := cX9_append) (maxL := 2) (ret := none) (by decide) rfl ?_
  intro p e s m args below meth c s₁ B hml hv
  obtain ⟨rfl, hsz, hP, hK, hD0, hN⟩ := hv
  have hx := B.exec
  have hb := B.bytes
  have hr := B.returns
  have hts := atoms_spec (ws := wsX9_append) B.pre
  have hown : s.vm.findClass RX9 = some m.cls := findClass_of_methodNamed B.named
  have hlocks := B.notSynchronized
  subst hsz
  obtain ⟨Q, hQe⟩ : ∃ Q, Q = MQ below (qX9_append D s.heap.size h0 h1 cA x2 x3 n f w) ([.ref h0, .int w] : List Value).toArray s 0 0 (va_A [(h0, .inr (7, [.ref h1, .int n, x2, x3])), (h1, .inl (cA, 1000, .inl f))] s.heap.size) := ⟨_, rfl⟩
  rw [← hQe]
  obtain ⟨A, hAe⟩ : ∃ A, A = va_A [(h0, .inr (7, [.ref h1, .int n, x2, x3])), (h1, .inl (cA, 1000, .inl f))] s.heap.size := ⟨_, rfl⟩
  have hD : va_D A [(h0, .inr (7, [.ref h1, .int n, x2, x3])), (h1, .inl (cA, 1000, .inl f))] := by rw [hAe]; exact hD0.self
  have hA : ∀ q : Nat, s.heap.size ≤ q → A q := by rw [hAe]; exact mo_A
  have hS : va_S A s.heap s.heap [] := va_S.rf
  obtain ⟨H, hHe⟩ : ∃ H, H = s.heap := ⟨_, rfl⟩
  obtain ⟨locs, hLe⟩ : ∃ L : List Loc, L = [] := ⟨_, rfl⟩
  have hP : va_P D vwCl [(h0, .inr (7, [.ref h1, .int n, x2, x3])), (h1, .inl (cA, 1000, .inl f))] H := by rw [hHe]; exact hP
  have hS : va_S A s.heap H locs := by rw [hHe, hLe]; exact hS
  have hl := lv_entry ([.ref h0, .int w]) (n := 2) (Nat.le_of_ble_eq_true rfl)
  rw [lg_entry_eq]
  generalize (lg_sl ([.ref h0, .int w]) ++ List.replicate (2 - (lg_sl ([.ref h0, .int w])).length) Slot.unset).toArray = ls at hl ⊢
  have hl : lv_has ls 2 [(0, .ref h0), (1, .int w)] := hl
  refine hStart hHe hLe ?_
  clear hHe hLe
  have w_X9 : ∀ w ∈ wsX90, w ∈ wsX9_append := by decide +kernel
  have f_13 := hts (.fieldLink RX9 13 "ReferenceMover" "size" "I") (by decide +kernel)
  refine lv_aload_n hx hb dX9_append_0 rfl (lv_at hl 0 rfl) ?_
  refine lv_aload_n hx hb dX9_append_1 rfl (lv_at hl 0 rfl) ?_
  refine va_get (D := D) (ci := 7) (v := .int n) (C := RX9) (T := TX9) (N := 4) hx hb hts w_X9 hown hK hP 0 rfl rfl 1 (by decide) f_13 (fun _ h9 => h9) rfl dX9_append_2 ?_
  refine lv_iload_n hx hb dX9_append_5 rfl (lv_at hl 1 rfl) ?_
  have hPc := hP.sub (ws' := [(h0, .inr (7, [.ref h1, .int n, x2, x3])), (h1, .inl (cA, 1000, .inl f))]) [0, 1] rfl
  have hDc := hD.sub (ws' := [(h0, .inr (7, [.ref h1, .int n, x2, x3])), (h1, .inl (cA, 1000, .inl f))]) [0, 1] (by decide) rfl
  have hKc := hK.sub (tys' := [(cA, .int)]) [0] rfl
  refine wk_v (β := Unit) (ok := fun _ => True) (wc := [(h0, .inr (7, [.ref h1, .int n, x2, x3])), (h1, .inl (cA, 1000, .inl f))]) (wr := []) (w1 := fun _ => [(h0, .inr (7, [.ref h1, .int n, x2, x3])), (h1, .inl (cA, 1000, .inl (fX9_put f n w)))]) (ws2 := fun _ => [(h0, .inr (7, [.ref h1, .int n, x2, x3])), (h1, .inl (cA, 1000, .inl (fX9_put f n w)))]) (va_runV (As := [.int n, .int w]) (rest := []) ⟨hx, hb, hml, hown, hts⟩ (kX9_put l D H.size h0 h1 cA x2 x3 n f n w ) (cwV 2 hts gX9_append_X9_put rfl rfl rfl (by decide +kernel) ⟨Nat.le_of_ble_eq_true rfl, Nat.le_of_ble_eq_true rfl⟩) ⟨Pw_blind, (va_recv hKc hPc (ci := 7) (q0 := 0) rfl rfl), fun U hU hW => Pw_at hKc hPc hDc hN hU hW⟩ rfl rfl hl.1 rfl (lv_room (Nat.le_of_ble_eq_true rfl)) dX9_append_6 ⟨Nat.le_of_ble_eq_true rfl, Nat.le_of_ble_eq_true rfl⟩) hP hD hS hA [0, 1] [] [0, 1] rfl rfl (by decide) (by decide) (fun _ => rfl) (by decide) (fun _ _ H locs hP hD hS => ?_)
  have hP : va_P D vwCl [(h0, .inr (7, [.ref h1, .int n, x2, x3])), (h1, .inl (cA, 1000, .inl (fX9_put f n w)))] H := hP
  have hD : va_D A [(h0, .inr (7, [.ref h1, .int n, x2, x3])), (h1, .inl (cA, 1000, .inl (fX9_put f n w)))] := hD
  refine lv_aload_n hx hb dX9_append_9 rfl (lv_at hl 0 rfl) ?_
  refine lv_dup hx hb dX9_append_10 rfl ?_
  refine va_get (D := D) (ci := 7) (v := .int n) (C := RX9) (T := TX9) (N := 4) hx hb hts w_X9 hown hK hP 0 rfl rfl 1 (by decide) f_13 (fun _ h9 => h9) rfl dX9_append_11 ?_
  refine lv_iconst (v := 1) hx hb dX9_append_14 (by decide) ?_
  refine lv_iadd hx hb dX9_append_15 ?_
  refine va_put (D := D) (ci := 7) (v := .int (n + 1)) (ty := .int) (C := RX9) (T := TX9) (N := 4) hx hb hts w_X9 tyX9 tyX9_ok nmX9 hown hK hP hD hS 0 rfl rfl 1 (by decide) f_13 (fun _ h9 => h9) rfl (by decide +kernel) rfl rfl (Nat.le_of_ble_eq_true rfl) dX9_append_16 (fun H locs hP hD hS => ?_)
  have hP : va_P D vwCl [(h0, .inr (7, [.ref h1, .int (n + 1), x2, x3])), (h1, .inl (cA, 1000, .inl (fX9_put f n w)))] H := hP
  have hD : va_D A [(h0, .inr (7, [.ref h1, .int (n + 1), x2, x3])), (h1, .inl (cA, 1000, .inl (fX9_put f n w)))] := hD
  subst hAe
  subst hQe
  exact W.vret hx hb hr (fun t ht hW => ⟨⟨_, rfl, ⟨(), trivial, rfl⟩, by rw [ht]; exact hP, hD⟩, hS.F ht⟩) hS.2.2 dX9_append_19

def fX9_other (n : Int32) (f : Nat → Int32) (w : Int32) : Int32 × Int32 × (Nat → Int32) := if (fX9_isOfKind w 4) = 0 then (if (fX9_isOfKind w 5) = 0 then (if (fX9_hasRoomFor n 1) = 0 then (0, n, f) else ((1, (n + 1), (fX9_put f n w)))) else (0, n, f)) else (0, n, f)
theorem zb_X9_other (n : Int32) (f : Nat → Int32) (w : Int32) : isB (fX9_other n f w).1 := by
  unfold fX9_other
  (try dsimp only)
  repeat' split
  all_goals first | exact Or.inl rfl | exact Or.inr rfl
abbrev rmX9_other : Room := { frames := 2, cells := 0, slots := 0, locals := 43 }
abbrev qX9_other (D : va_G) (sz : Nat) (h0 : Nat) (h1 : Nat) (cA : ClassId) (x2 : Value) (x3 : Value) (n : Int32) (f : Nat → Int32) (w : Int32) : Array Value → State → Outcome → State → Prop := va_Qi (fun r_9 w_9 => ∃ _u : Unit, True ∧ r_9 = (fX9_other n f w).1 ∧ w_9 = [(h0, .inr (7, [.ref h1, .int (fX9_other n f w).2.1, x2, x3])), (h1, .inl (cA, 1000, .inl (fX9_other n f w).2.2))]) (Bq D (va_A [(h0, .inr (7, [.ref h1, .int n, x2, x3])), (h1, .inl (cA, 1000, .inl f))] sz)) (va_A [(h0, .inr (7, [.ref h1, .int n, x2, x3])), (h1, .inl (cA, 1000, .inl f))] sz)
set_option maxHeartbeats 4000000 in
set_option maxRecDepth 100000 in
theorem kX9_other (l : Launch) (D : va_G) (sz : Nat) (h0 : Nat) (h1 : Nat) (cA : ClassId) (x2 : Value) (x3 : Value) (n : Int32) (f : Nat → Int32) (w : Int32) : Met l yX9_other wsX9_other rmX9_other (va_Pc [.ref h0, .int w] (Pw D [(cA, .int)] [(h0, .inr (7, [.ref h1, .int n, x2, x3])), (h1, .inl (cA, 1000, .inl f))] sz)) (qX9_other D sz h0 h1 cA x2 x3 n f w) 0 0 (va_A [(h0, .inr (7, [.ref h1, .int n, x2, x3])), (h1, .inl (cA, 1000, .inl f))] sz) := by
  refine Met.ofW (cc := cX9_other) (maxL := 2) (ret := (some .boolean)) (by decide) rfl ?_
  intro p e s m args below meth c s₁ B hml hv
  obtain ⟨rfl, hsz, hP, hK, hD0, hN⟩ := hv
  have hx := B.exec
  have hb := B.bytes
  have hr := B.returns
  have hts := atoms_spec (ws := wsX9_other) B.pre
  have hown : s.vm.findClass RX9 = some m.cls := findClass_of_methodNamed B.named
  have hlocks := B.notSynchronized
  subst hsz
  obtain ⟨Q, hQe⟩ : ∃ Q, Q = MQ below (qX9_other D s.heap.size h0 h1 cA x2 x3 n f w) ([.ref h0, .int w] : List Value).toArray s 0 0 (va_A [(h0, .inr (7, [.ref h1, .int n, x2, x3])), (h1, .inl (cA, 1000, .inl f))] s.heap.size) := ⟨_, rfl⟩
  rw [← hQe]
  obtain ⟨A, hAe⟩ : ∃ A, A = va_A [(h0, .inr (7, [.ref h1, .int n, x2, x3])), (h1, .inl (cA, 1000, .inl f))] s.heap.size := ⟨_, rfl⟩
  have hD : va_D A [(h0, .inr (7, [.ref h1, .int n, x2, x3])), (h1, .inl (cA, 1000, .inl f))] := by rw [hAe]; exact hD0.self
  have hA : ∀ q : Nat, s.heap.size ≤ q → A q := by rw [hAe]; exact mo_A
  have hS : va_S A s.heap s.heap [] := va_S.rf
  obtain ⟨H, hHe⟩ : ∃ H, H = s.heap := ⟨_, rfl⟩
  obtain ⟨locs, hLe⟩ : ∃ L : List Loc, L = [] := ⟨_, rfl⟩
  have hP : va_P D vwCl [(h0, .inr (7, [.ref h1, .int n, x2, x3])), (h1, .inl (cA, 1000, .inl f))] H := by rw [hHe]; exact hP
  have hS : va_S A s.heap H locs := by rw [hHe, hLe]; exact hS
  have hl := lv_entry ([.ref h0, .int w]) (n := 2) (Nat.le_of_ble_eq_true rfl)
  rw [lg_entry_eq]
  generalize (lg_sl ([.ref h0, .int w]) ++ List.replicate (2 - (lg_sl ([.ref h0, .int w])).length) Slot.unset).toArray = ls at hl ⊢
  have hl : lv_has ls 2 [(0, .ref h0), (1, .int w)] := hl
  refine hStart hHe hLe ?_
  clear hHe hLe
  refine lv_iload_n hx hb dX9_other_0 rfl (lv_at hl 1 rfl) ?_
  refine lv_iconst (v := 4) hx hb dX9_other_1 (by decide) ?_
  have hPc := hP.sub (ws' := []) [] rfl
  have hDc := hD.sub (ws' := []) [] (by decide) rfl
  have hKc := hK.sub (tys' := []) [] rfl
  refine rd_i (va_runS (As := [.int w, .int 4]) (rest := []) ⟨hx, hb, hml, hown, hts⟩ (kX9_isOfKind l D H.size w 4 ) (va_cwS 2 hts gX9_other_X9_isOfKind rfl rfl rfl (by decide +kernel) ⟨Nat.le_of_ble_eq_true rfl, Nat.le_of_ble_eq_true rfl⟩) ⟨Pw_blind, fun U hU hW => Pw_at hKc hPc hDc hN hU hW⟩ rfl rfl hl.1 rfl (lv_room (Nat.le_of_ble_eq_true rfl)) dX9_other_2 ⟨Nat.le_of_ble_eq_true rfl, Nat.le_of_ble_eq_true rfl⟩) ?_
  refine lv_if_ne (tgt := 24) hx hb dX9_other_5 (by decide) (fun c5 => ?_) (fun c5 => ?_)
  · refine lv_iconst (v := 0) hx hb dX9_other_24 (by decide) ?_
    have hF : (fX9_other n f w) = (0, n, f) := by exact (if_neg c5)
    subst hAe
    subst hQe
    exact W.zret (v := 0) hx hb hr rfl (fun t ht hW => ⟨⟨_, _, rfl, ⟨(), trivial, by rw [hF], by rw [hF]⟩, by rw [ht]; exact hP, hD⟩, hS.F ht⟩) hS.2.2 dX9_other_25
  · refine lv_iload_n hx hb dX9_other_8 rfl (lv_at hl 1 rfl) ?_
    refine lv_iconst (v := 5) hx hb dX9_other_9 (by decide) ?_
    have hPc := hP.sub (ws' := []) [] rfl
    have hDc := hD.sub (ws' := []) [] (by decide) rfl
    have hKc := hK.sub (tys' := []) [] rfl
    refine rd_i (va_runS (As := [.int w, .int 5]) (rest := []) ⟨hx, hb, hml, hown, hts⟩ (kX9_isOfKind l D H.size w 5 ) (va_cwS 2 hts gX9_other_X9_isOfKind rfl rfl rfl (by decide +kernel) ⟨Nat.le_of_ble_eq_true rfl, Nat.le_of_ble_eq_true rfl⟩) ⟨Pw_blind, fun U hU hW => Pw_at hKc hPc hDc hN hU hW⟩ rfl rfl hl.1 rfl (lv_room (Nat.le_of_ble_eq_true rfl)) dX9_other_10 ⟨Nat.le_of_ble_eq_true rfl, Nat.le_of_ble_eq_true rfl⟩) ?_
    refine lv_if_ne (tgt := 24) hx hb dX9_other_13 (by decide) (fun c13 => ?_) (fun c13 => ?_)
    · refine lv_iconst (v := 0) hx hb dX9_other_24 (by decide) ?_
      have hF : (fX9_other n f w) = (0, n, f) := by exact ((if_pos c5).trans (if_neg c13))
      subst hAe
      subst hQe
      exact W.zret (v := 0) hx hb hr rfl (fun t ht hW => ⟨⟨_, _, rfl, ⟨(), trivial, by rw [hF], by rw [hF]⟩, by rw [ht]; exact hP, hD⟩, hS.F ht⟩) hS.2.2 dX9_other_25
    · refine lv_aload_n hx hb dX9_other_16 rfl (lv_at hl 0 rfl) ?_
      refine lv_iconst (v := 1) hx hb dX9_other_17 (by decide) ?_
      have hPc := hP.sub (ws' := [(h0, .inr (7, [.ref h1, .int n, x2, x3])), (h1, .inl (cA, 1000, .inl f))]) [0, 1] rfl
      have hDc := hD.sub (ws' := [(h0, .inr (7, [.ref h1, .int n, x2, x3])), (h1, .inl (cA, 1000, .inl f))]) [0, 1] (by decide) rfl
      have hKc := hK.sub (tys' := [(cA, .int)]) [0] rfl
      refine rd_i (va_runV (As := [.int 1]) (rest := []) ⟨hx, hb, hml, hown, hts⟩ (kX9_hasRoomFor l D H.size h0 h1 cA x2 x3 n f 1 ) (cwV 1 hts gX9_other_X9_hasRoomFor rfl rfl rfl (by decide +kernel) ⟨Nat.le_of_ble_eq_true rfl, Nat.le_of_ble_eq_true rfl⟩) ⟨Pw_blind, (va_recv hKc hPc (ci := 7) (q0 := 0) rfl rfl), fun U hU hW => Pw_at hKc hPc hDc hN hU hW⟩ rfl rfl hl.1 rfl (lv_room (Nat.le_of_ble_eq_true rfl)) dX9_other_18 ⟨Nat.le_of_ble_eq_true rfl, Nat.le_of_ble_eq_true rfl⟩) ?_
      refine lv_if_ne (tgt := 26) hx hb dX9_other_21 (by decide) (fun c21 => ?_) (fun c21 => ?_)
      · refine lv_aload_n hx hb dX9_other_26 rfl (lv_at hl 0 rfl) ?_
        refine lv_iload_n hx hb dX9_other_27 rfl (lv_at hl 1 rfl) ?_
        have hPc := hP.sub (ws' := [(h0, .inr (7, [.ref h1, .int n, x2, x3])), (h1, .inl (cA, 1000, .inl f))]) [0, 1] rfl
        have hDc := hD.sub (ws' := [(h0, .inr (7, [.ref h1, .int n, x2, x3])), (h1, .inl (cA, 1000, .inl f))]) [0, 1] (by decide) rfl
        have hKc := hK.sub (tys' := [(cA, .int)]) [0] rfl
        refine wk_v (β := Unit) (ok := fun _ => True) (wc := [(h0, .inr (7, [.ref h1, .int n, x2, x3])), (h1, .inl (cA, 1000, .inl f))]) (wr := []) (w1 := fun _ => [(h0, .inr (7, [.ref h1, .int (n + 1), x2, x3])), (h1, .inl (cA, 1000, .inl (fX9_put f n w)))]) (ws2 := fun _ => [(h0, .inr (7, [.ref h1, .int (n + 1), x2, x3])), (h1, .inl (cA, 1000, .inl (fX9_put f n w)))]) (va_runV (As := [.int w]) (rest := []) ⟨hx, hb, hml, hown, hts⟩ (kX9_append l D H.size h0 h1 cA x2 x3 n f w ) (cwV 1 hts gX9_other_X9_append rfl rfl rfl (by decide +kernel) ⟨Nat.le_of_ble_eq_true rfl, Nat.le_of_ble_eq_true rfl⟩) ⟨Pw_blind, (va_recv hKc hPc (ci := 7) (q0 := 0) rfl rfl), fun U hU hW => Pw_at hKc hPc hDc hN hU hW⟩ rfl rfl hl.1 rfl (lv_room (Nat.le_of_ble_eq_true rfl)) dX9_other_28 ⟨Nat.le_of_ble_eq_true rfl, Nat.le_of_ble_eq_true rfl⟩) hP hD hS hA [0, 1] [] [0, 1] rfl rfl (by decide) (by decide) (fun _ => rfl) (by decide) (fun _ _ H locs hP hD hS => ?_)
        have hP : va_P D vwCl [(h0, .inr (7, [.ref h1, .int (n + 1), x2, x3])), (h1, .inl (cA, 1000, .inl (fX9_put f n w)))] H := hP
        have hD : va_D A [(h0, .inr (7, [.ref h1, .int (n + 1), x2, x3])), (h1, .inl (cA, 1000, .inl (fX9_put f n w)))] := hD
        refine lv_iconst (v := 1) hx hb dX9_other_31 (by decide) ?_
        have hF : (fX9_other n f w) = (1, (n + 1), (fX9_put f n w)) := by exact ((if_pos c5).trans ((if_pos c13).trans (if_neg c21)))
        subst hAe
        subst hQe
        exact W.zret (v := 1) hx hb hr rfl (fun t ht hW => ⟨⟨_, _, rfl, ⟨(), trivial, by rw [hF], by rw [hF]⟩, by rw [ht]; exact hP, hD⟩, hS.F ht⟩) hS.2.2 dX9_other_32
      · refine lv_iconst (v := 0) hx hb dX9_other_24 (by decide) ?_
        have hF : (fX9_other n f w) = (0, n, f) := by exact ((if_pos c5).trans ((if_pos c13).trans (if_pos c21)))
        subst hAe
        subst hQe
        exact W.zret (v := 0) hx hb hr rfl (fun t ht hW => ⟨⟨_, _, rfl, ⟨(), trivial, by rw [hF], by rw [hF]⟩, by rw [ht]; exact hP, hD⟩, hS.F ht⟩) hS.2.2 dX9_other_25

def fX9_place (n : Int32) (f : Nat → Int32) (p1 : Int32) (p2 : Int32) (p3 : Int32) (p4 : Int32) : Int32 × Int32 × (Nat → Int32) := if p1 < 0 then (0, n, f) else (if 3 < p1 then (0, n, f) else (if (fX9_isSheetOrNone p2) = 0 then (0, n, f) else (if (fX9_isLine p3 1048576) = 0 then (0, n, f) else (if (fX9_isLine p4 16384) = 0 then (0, n, f) else (if (fX9_hasRoomFor n 4) = 0 then (0, n, f) else ((1, ((((n + 1) + 1) + 1) + 1), (fX9_put (fX9_put (fX9_put (fX9_put f n (4 + (16 * p1))) (n + 1) p2) ((n + 1) + 1) p3) (((n + 1) + 1) + 1) p4))))))))
theorem zb_X9_place (n : Int32) (f : Nat → Int32) (p1 : Int32) (p2 : Int32) (p3 : Int32) (p4 : Int32) : isB (fX9_place n f p1 p2 p3 p4).1 := by
  unfold fX9_place
  (try dsimp only)
  repeat' split
  all_goals first | exact Or.inl rfl | exact Or.inr rfl
abbrev rmX9_place : Room := { frames := 2, cells := 0, slots := 0, locals := 43 }
abbrev qX9_place (D : va_G) (sz : Nat) (h0 : Nat) (h1 : Nat) (cA : ClassId) (x2 : Value) (x3 : Value) (n : Int32) (f : Nat → Int32) (p1 : Int32) (p2 : Int32) (p3 : Int32) (p4 : Int32) : Array Value → State → Outcome → State → Prop := va_Qi (fun r_9 w_9 => ∃ _u : Unit, True ∧ r_9 = (fX9_place n f p1 p2 p3 p4).1 ∧ w_9 = [(h0, .inr (7, [.ref h1, .int (fX9_place n f p1 p2 p3 p4).2.1, x2, x3])), (h1, .inl (cA, 1000, .inl (fX9_place n f p1 p2 p3 p4).2.2))]) (Bq D (va_A [(h0, .inr (7, [.ref h1, .int n, x2, x3])), (h1, .inl (cA, 1000, .inl f))] sz)) (va_A [(h0, .inr (7, [.ref h1, .int n, x2, x3])), (h1, .inl (cA, 1000, .inl f))] sz)
set_option maxHeartbeats 4000000 in
set_option maxRecDepth 100000 in
theorem kX9_place (l : Launch) (D : va_G) (sz : Nat) (h0 : Nat) (h1 : Nat) (cA : ClassId) (x2 : Value) (x3 : Value) (n : Int32) (f : Nat → Int32) (p1 : Int32) (p2 : Int32) (p3 : Int32) (p4 : Int32) : Met l yX9_place wsX9_place rmX9_place (va_Pc [.ref h0, .int p1, .int p2, .int p3, .int p4] (Pw D [(cA, .int)] [(h0, .inr (7, [.ref h1, .int n, x2, x3])), (h1, .inl (cA, 1000, .inl f))] sz)) (qX9_place D sz h0 h1 cA x2 x3 n f p1 p2 p3 p4) 0 0 (va_A [(h0, .inr (7, [.ref h1, .int n, x2, x3])), (h1, .inl (cA, 1000, .inl f))] sz) := by
  refine Met.ofW (cc := cX9_place) (maxL := 5) (ret := (some .boolean)) (by decide) rfl ?_
  intro p e s m args below meth c s₁ B hml hv
  obtain ⟨rfl, hsz, hP, hK, hD0, hN⟩ := hv
  have hx := B.exec
  have hb := B.bytes
  have hr := B.returns
  have hts := atoms_spec (ws := wsX9_place) B.pre
  have hown : s.vm.findClass RX9 = some m.cls := findClass_of_methodNamed B.named
  have hlocks := B.notSynchronized
  subst hsz
  obtain ⟨Q, hQe⟩ : ∃ Q, Q = MQ below (qX9_place D s.heap.size h0 h1 cA x2 x3 n f p1 p2 p3 p4) ([.ref h0, .int p1, .int p2, .int p3, .int p4] : List Value).toArray s 0 0 (va_A [(h0, .inr (7, [.ref h1, .int n, x2, x3])), (h1, .inl (cA, 1000, .inl f))] s.heap.size) := ⟨_, rfl⟩
  rw [← hQe]
  obtain ⟨A, hAe⟩ : ∃ A, A = va_A [(h0, .inr (7, [.ref h1, .int n, x2, x3])), (h1, .inl (cA, 1000, .inl f))] s.heap.size := ⟨_, rfl⟩
  have hD : va_D A [(h0, .inr (7, [.ref h1, .int n, x2, x3])), (h1, .inl (cA, 1000, .inl f))] := by rw [hAe]; exact hD0.self
  have hA : ∀ q : Nat, s.heap.size ≤ q → A q := by rw [hAe]; exact mo_A
  have hS : va_S A s.heap s.heap [] := va_S.rf
  obtain ⟨H, hHe⟩ : ∃ H, H = s.heap := ⟨_, rfl⟩
  obtain ⟨locs, hLe⟩ : ∃ L : List Loc, L = [] := ⟨_, rfl⟩
  have hP : va_P D vwCl [(h0, .inr (7, [.ref h1, .int n, x2, x3])), (h1, .inl (cA, 1000, .inl f))] H := by rw [hHe]; exact hP
  have hS : va_S A s.heap H locs := by rw [hHe, hLe]; exact hS
  have hl := lv_entry ([.ref h0, .int p1, .int p2, .int p3, .int p4]) (n := 5) (Nat.le_of_ble_eq_true rfl)
  rw [lg_entry_eq]
  generalize (lg_sl ([.ref h0, .int p1, .int p2, .int p3, .int p4]) ++ List.replicate (5 - (lg_sl ([.ref h0, .int p1, .int p2, .int p3, .int p4])).length) Slot.unset).toArray = ls at hl ⊢
  have hl : lv_has ls 5 [(0, .ref h0), (1, .int p1), (2, .int p2), (3, .int p3), (4, .int p4)] := hl
  refine hStart hHe hLe ?_
  clear hHe hLe
  have k_48 := hts (.constant RX9 48 (1048576)) (by decide +kernel)
  refine lv_iload_n hx hb dX9_place_0 rfl (lv_at hl 1 rfl) ?_
  refine lv_if_lt (tgt := 44) hx hb dX9_place_1 (by decide) (fun c1 => ?_) (fun c1 => ?_)
  · refine lv_iconst (v := 0) hx hb dX9_place_44 (by decide) ?_
    have hF : (fX9_place n f p1 p2 p3 p4) = (0, n, f) := by exact (if_pos c1)
    subst hAe
    subst hQe
    exact W.zret (v := 0) hx hb hr rfl (fun t ht hW => ⟨⟨_, _, rfl, ⟨(), trivial, by rw [hF], by rw [hF]⟩, by rw [ht]; exact hP, hD⟩, hS.F ht⟩) hS.2.2 dX9_place_45
  · refine lv_iload_n hx hb dX9_place_4 rfl (lv_at hl 1 rfl) ?_
    refine lv_iconst (v := 3) hx hb dX9_place_5 (by decide) ?_
    refine lv_icmp_gt (tgt := 44) hx hb dX9_place_6 (by decide) (fun c6 => ?_) (fun c6 => ?_)
    · refine lv_iconst (v := 0) hx hb dX9_place_44 (by decide) ?_
      have hF : (fX9_place n f p1 p2 p3 p4) = (0, n, f) := by exact ((if_neg c1).trans (if_pos c6))
      subst hAe
      subst hQe
      exact W.zret (v := 0) hx hb hr rfl (fun t ht hW => ⟨⟨_, _, rfl, ⟨(), trivial, by rw [hF], by rw [hF]⟩, by rw [ht]; exact hP, hD⟩, hS.F ht⟩) hS.2.2 dX9_place_45
    · refine lv_iload_n hx hb dX9_place_9 rfl (lv_at hl 2 rfl) ?_
      have hPc := hP.sub (ws' := []) [] rfl
      have hDc := hD.sub (ws' := []) [] (by decide) rfl
      have hKc := hK.sub (tys' := []) [] rfl
      refine rd_i (va_runS (As := [.int p2]) (rest := []) ⟨hx, hb, hml, hown, hts⟩ (kX9_isSheetOrNone l D H.size p2 ) (va_cwS 1 hts gX9_place_X9_isSheetOrNone rfl rfl rfl (by decide +kernel) ⟨Nat.le_of_ble_eq_true rfl, Nat.le_of_ble_eq_true rfl⟩) ⟨Pw_blind, fun U hU hW => Pw_at hKc hPc hDc hN hU hW⟩ rfl rfl hl.1 rfl (lv_room (Nat.le_of_ble_eq_true rfl)) dX9_place_10 ⟨Nat.le_of_ble_eq_true rfl, Nat.le_of_ble_eq_true rfl⟩) ?_
      refine lv_if_eq (tgt := 44) hx hb dX9_place_13 (by decide) (fun c13 => ?_) (fun c13 => ?_)
      · refine lv_iconst (v := 0) hx hb dX9_place_44 (by decide) ?_
        have hF : (fX9_place n f p1 p2 p3 p4) = (0, n, f) := by exact ((if_neg c1).trans ((if_neg c6).trans (if_pos c13)))
        subst hAe
        subst hQe
        exact W.zret (v := 0) hx hb hr rfl (fun t ht hW => ⟨⟨_, _, rfl, ⟨(), trivial, by rw [hF], by rw [hF]⟩, by rw [ht]; exact hP, hD⟩, hS.F ht⟩) hS.2.2 dX9_place_45
      · refine lv_iload_n hx hb dX9_place_16 rfl (lv_at hl 3 rfl) ?_
        refine lv_ldc (v := 1048576) hx hb hown k_48 dX9_place_17 ?_
        have hPc := hP.sub (ws' := []) [] rfl
        have hDc := hD.sub (ws' := []) [] (by decide) rfl
        have hKc := hK.sub (tys' := []) [] rfl
        refine rd_i (va_runS (As := [.int p3, .int 1048576]) (rest := []) ⟨hx, hb, hml, hown, hts⟩ (kX9_isLine l D H.size p3 1048576 ) (va_cwS 2 hts gX9_place_X9_isLine rfl rfl rfl (by decide +kernel) ⟨Nat.le_of_ble_eq_true rfl, Nat.le_of_ble_eq_true rfl⟩) ⟨Pw_blind, fun U hU hW => Pw_at hKc hPc hDc hN hU hW⟩ rfl rfl hl.1 rfl (lv_room (Nat.le_of_ble_eq_true rfl)) dX9_place_19 ⟨Nat.le_of_ble_eq_true rfl, Nat.le_of_ble_eq_true rfl⟩) ?_
        refine lv_if_eq (tgt := 44) hx hb dX9_place_22 (by decide) (fun c22 => ?_) (fun c22 => ?_)
        · refine lv_iconst (v := 0) hx hb dX9_place_44 (by decide) ?_
          have hF : (fX9_place n f p1 p2 p3 p4) = (0, n, f) := by exact ((if_neg c1).trans ((if_neg c6).trans ((if_neg c13).trans (if_pos c22))))
          subst hAe
          subst hQe
          exact W.zret (v := 0) hx hb hr rfl (fun t ht hW => ⟨⟨_, _, rfl, ⟨(), trivial, by rw [hF], by rw [hF]⟩, by rw [ht]; exact hP, hD⟩, hS.F ht⟩) hS.2.2 dX9_place_45
        · refine lv_iload hx hb dX9_place_25 (lv_at hl 4 rfl) ?_
          refine lv_sipush (v := 16384) hx hb dX9_place_27 (by decide) ?_
          have hPc := hP.sub (ws' := []) [] rfl
          have hDc := hD.sub (ws' := []) [] (by decide) rfl
          have hKc := hK.sub (tys' := []) [] rfl
          refine rd_i (va_runS (As := [.int p4, .int 16384]) (rest := []) ⟨hx, hb, hml, hown, hts⟩ (kX9_isLine l D H.size p4 16384 ) (va_cwS 2 hts gX9_place_X9_isLine rfl rfl rfl (by decide +kernel) ⟨Nat.le_of_ble_eq_true rfl, Nat.le_of_ble_eq_true rfl⟩) ⟨Pw_blind, fun U hU hW => Pw_at hKc hPc hDc hN hU hW⟩ rfl rfl hl.1 rfl (lv_room (Nat.le_of_ble_eq_true rfl)) dX9_place_30 ⟨Nat.le_of_ble_eq_true rfl, Nat.le_of_ble_eq_true rfl⟩) ?_
          refine lv_if_eq (tgt := 44) hx hb dX9_place_33 (by decide) (fun c33 => ?_) (fun c33 => ?_)
          · refine lv_iconst (v := 0) hx hb dX9_place_44 (by decide) ?_
            have hF : (fX9_place n f p1 p2 p3 p4) = (0, n, f) := by exact ((if_neg c1).trans ((if_neg c6).trans ((if_neg c13).trans ((if_neg c22).trans (if_pos c33)))))
            subst hAe
            subst hQe
            exact W.zret (v := 0) hx hb hr rfl (fun t ht hW => ⟨⟨_, _, rfl, ⟨(), trivial, by rw [hF], by rw [hF]⟩, by rw [ht]; exact hP, hD⟩, hS.F ht⟩) hS.2.2 dX9_place_45
          · refine lv_aload_n hx hb dX9_place_36 rfl (lv_at hl 0 rfl) ?_
            refine lv_iconst (v := 4) hx hb dX9_place_37 (by decide) ?_
            have hPc := hP.sub (ws' := [(h0, .inr (7, [.ref h1, .int n, x2, x3])), (h1, .inl (cA, 1000, .inl f))]) [0, 1] rfl
            have hDc := hD.sub (ws' := [(h0, .inr (7, [.ref h1, .int n, x2, x3])), (h1, .inl (cA, 1000, .inl f))]) [0, 1] (by decide) rfl
            have hKc := hK.sub (tys' := [(cA, .int)]) [0] rfl
            refine rd_i (va_runV (As := [.int 4]) (rest := []) ⟨hx, hb, hml, hown, hts⟩ (kX9_hasRoomFor l D H.size h0 h1 cA x2 x3 n f 4 ) (cwV 1 hts gX9_place_X9_hasRoomFor rfl rfl rfl (by decide +kernel) ⟨Nat.le_of_ble_eq_true rfl, Nat.le_of_ble_eq_true rfl⟩) ⟨Pw_blind, (va_recv hKc hPc (ci := 7) (q0 := 0) rfl rfl), fun U hU hW => Pw_at hKc hPc hDc hN hU hW⟩ rfl rfl hl.1 rfl (lv_room (Nat.le_of_ble_eq_true rfl)) dX9_place_38 ⟨Nat.le_of_ble_eq_true rfl, Nat.le_of_ble_eq_true rfl⟩) ?_
            refine lv_if_ne (tgt := 46) hx hb dX9_place_41 (by decide) (fun c41 => ?_) (fun c41 => ?_)
            · refine lv_aload_n hx hb dX9_place_46 rfl (lv_at hl 0 rfl) ?_
              refine lv_iconst (v := 4) hx hb dX9_place_47 (by decide) ?_
              refine lv_bipush (v := 16) hx hb dX9_place_48 (by decide) ?_
              refine lv_iload_n hx hb dX9_place_50 rfl (lv_at hl 1 rfl) ?_
              refine lv_imul hx hb dX9_place_51 ?_
              refine lv_iadd hx hb dX9_place_52 ?_
              have hPc := hP.sub (ws' := [(h0, .inr (7, [.ref h1, .int n, x2, x3])), (h1, .inl (cA, 1000, .inl f))]) [0, 1] rfl
              have hDc := hD.sub (ws' := [(h0, .inr (7, [.ref h1, .int n, x2, x3])), (h1, .inl (cA, 1000, .inl f))]) [0, 1] (by decide) rfl
              have hKc := hK.sub (tys' := [(cA, .int)]) [0] rfl
              refine wk_v (β := Unit) (ok := fun _ => True) (wc := [(h0, .inr (7, [.ref h1, .int n, x2, x3])), (h1, .inl (cA, 1000, .inl f))]) (wr := []) (w1 := fun _ => [(h0, .inr (7, [.ref h1, .int (n + 1), x2, x3])), (h1, .inl (cA, 1000, .inl (fX9_put f n (4 + (16 * p1)))))]) (ws2 := fun _ => [(h0, .inr (7, [.ref h1, .int (n + 1), x2, x3])), (h1, .inl (cA, 1000, .inl (fX9_put f n (4 + (16 * p1)))))]) (va_runV (As := [.int (4 + (16 * p1))]) (rest := []) ⟨hx, hb, hml, hown, hts⟩ (kX9_append l D H.size h0 h1 cA x2 x3 n f (4 + (16 * p1)) ) (cwV 1 hts gX9_place_X9_append rfl rfl rfl (by decide +kernel) ⟨Nat.le_of_ble_eq_true rfl, Nat.le_of_ble_eq_true rfl⟩) ⟨Pw_blind, (va_recv hKc hPc (ci := 7) (q0 := 0) rfl rfl), fun U hU hW => Pw_at hKc hPc hDc hN hU hW⟩ rfl rfl hl.1 rfl (lv_room (Nat.le_of_ble_eq_true rfl)) dX9_place_53 ⟨Nat.le_of_ble_eq_true rfl, Nat.le_of_ble_eq_true rfl⟩) hP hD hS hA [0, 1] [] [0, 1] rfl rfl (by decide) (by decide) (fun _ => rfl) (by decide) (fun _ _ H locs hP hD hS => ?_)
              have hP : va_P D vwCl [(h0, .inr (7, [.ref h1, .int (n + 1), x2, x3])), (h1, .inl (cA, 1000, .inl (fX9_put f n (4 + (16 * p1)))))] H := hP
              have hD : va_D A [(h0, .inr (7, [.ref h1, .int (n + 1), x2, x3])), (h1, .inl (cA, 1000, .inl (fX9_put f n (4 + (16 * p1)))))] := hD
              refine lv_aload_n hx hb dX9_place_56 rfl (lv_at hl 0 rfl) ?_
              refine lv_iload_n hx hb dX9_place_57 rfl (lv_at hl 2 rfl) ?_
              have hPc := hP.sub (ws' := [(h0, .inr (7, [.ref h1, .int (n + 1), x2, x3])), (h1, .inl (cA, 1000, .inl (fX9_put f n (4 + (16 * p1)))))]) [0, 1] rfl
              have hDc := hD.sub (ws' := [(h0, .inr (7, [.ref h1, .int (n + 1), x2, x3])), (h1, .inl (cA, 1000, .inl (fX9_put f n (4 + (16 * p1)))))]) [0, 1] (by decide) rfl
              have hKc := hK.sub (tys' := [(cA, .int)]) [0] rfl
              refine wk_v (β := Unit) (ok := fun _ => True) (wc := [(h0, .inr (7, [.ref h1, .int (n + 1), x2, x3])), (h1, .inl (cA, 1000, .inl (fX9_put f n (4 + (16 * p1)))))]) (wr := []) (w1 := fun _ => [(h0, .inr (7, [.ref h1, .int ((n + 1) + 1), x2, x3])), (h1, .inl (cA, 1000, .inl (fX9_put (fX9_put f n (4 + (16 * p1))) (n + 1) p2)))]) (ws2 := fun _ => [(h0, .inr (7, [.ref h1, .int ((n + 1) + 1), x2, x3])), (h1, .inl (cA, 1000, .inl (fX9_put (fX9_put f n (4 + (16 * p1))) (n + 1) p2)))]) (va_runV (As := [.int p2]) (rest := []) ⟨hx, hb, hml, hown, hts⟩ (kX9_append l D H.size h0 h1 cA x2 x3 (n + 1) (fX9_put f n (4 + (16 * p1))) p2 ) (cwV 1 hts gX9_place_X9_append rfl rfl rfl (by decide +kernel) ⟨Nat.le_of_ble_eq_true rfl, Nat.le_of_ble_eq_true rfl⟩) ⟨Pw_blind, (va_recv hKc hPc (ci := 7) (q0 := 0) rfl rfl), fun U hU hW => Pw_at hKc hPc hDc hN hU hW⟩ rfl rfl hl.1 rfl (lv_room (Nat.le_of_ble_eq_true rfl)) dX9_place_58 ⟨Nat.le_of_ble_eq_true rfl, Nat.le_of_ble_eq_true rfl⟩) hP hD hS hA [0, 1] [] [0, 1] rfl rfl (by decide) (by decide) (fun _ => rfl) (by decide) (fun _ _ H locs hP hD hS => ?_)
              have hP : va_P D vwCl [(h0, .inr (7, [.ref h1, .int ((n + 1) + 1), x2, x3])), (h1, .inl (cA, 1000, .inl (fX9_put (fX9_put f n (4 + (16 * p1))) (n + 1) p2)))] H := hP
              have hD : va_D A [(h0, .inr (7, [.ref h1, .int ((n + 1) + 1), x2, x3])), (h1, .inl (cA, 1000, .inl (fX9_put (fX9_put f n (4 + (16 * p1))) (n + 1) p2)))] := hD
              refine lv_aload_n hx hb dX9_place_61 rfl (lv_at hl 0 rfl) ?_
              refine lv_iload_n hx hb dX9_place_62 rfl (lv_at hl 3 rfl) ?_
              have hPc := hP.sub (ws' := [(h0, .inr (7, [.ref h1, .int ((n + 1) + 1), x2, x3])), (h1, .inl (cA, 1000, .inl (fX9_put (fX9_put f n (4 + (16 * p1))) (n + 1) p2)))]) [0, 1] rfl
              have hDc := hD.sub (ws' := [(h0, .inr (7, [.ref h1, .int ((n + 1) + 1), x2, x3])), (h1, .inl (cA, 1000, .inl (fX9_put (fX9_put f n (4 + (16 * p1))) (n + 1) p2)))]) [0, 1] (by decide) rfl
              have hKc := hK.sub (tys' := [(cA, .int)]) [0] rfl
              refine wk_v (β := Unit) (ok := fun _ => True) (wc := [(h0, .inr (7, [.ref h1, .int ((n + 1) + 1), x2, x3])), (h1, .inl (cA, 1000, .inl (fX9_put (fX9_put f n (4 + (16 * p1))) (n + 1) p2)))]) (wr := []) (w1 := fun _ => [(h0, .inr (7, [.ref h1, .int (((n + 1) + 1) + 1), x2, x3])), (h1, .inl (cA, 1000, .inl (fX9_put (fX9_put (fX9_put f n (4 + (16 * p1))) (n + 1) p2) ((n + 1) + 1) p3)))]) (ws2 := fun _ => [(h0, .inr (7, [.ref h1, .int (((n + 1) + 1) + 1), x2, x3])), (h1, .inl (cA, 1000, .inl (fX9_put (fX9_put (fX9_put f n (4 + (16 * p1))) (n + 1) p2) ((n + 1) + 1) p3)))]) (va_runV (As := [.int p3]) (rest := []) ⟨hx, hb, hml, hown, hts⟩ (kX9_append l D H.size h0 h1 cA x2 x3 ((n + 1) + 1) (fX9_put (fX9_put f n (4 + (16 * p1))) (n + 1) p2) p3 ) (cwV 1 hts gX9_place_X9_append rfl rfl rfl (by decide +kernel) ⟨Nat.le_of_ble_eq_true rfl, Nat.le_of_ble_eq_true rfl⟩) ⟨Pw_blind, (va_recv hKc hPc (ci := 7) (q0 := 0) rfl rfl), fun U hU hW => Pw_at hKc hPc hDc hN hU hW⟩ rfl rfl hl.1 rfl (lv_room (Nat.le_of_ble_eq_true rfl)) dX9_place_63 ⟨Nat.le_of_ble_eq_true rfl, Nat.le_of_ble_eq_true rfl⟩) hP hD hS hA [0, 1] [] [0, 1] rfl rfl (by decide) (by decide) (fun _ => rfl) (by decide) (fun _ _ H locs hP hD hS => ?_)
              have hP : va_P D vwCl [(h0, .inr (7, [.ref h1, .int (((n + 1) + 1) + 1), x2, x3])), (h1, .inl (cA, 1000, .inl (fX9_put (fX9_put (fX9_put f n (4 + (16 * p1))) (n + 1) p2) ((n + 1) + 1) p3)))] H := hP
              have hD : va_D A [(h0, .inr (7, [.ref h1, .int (((n + 1) + 1) + 1), x2, x3])), (h1, .inl (cA, 1000, .inl (fX9_put (fX9_put (fX9_put f n (4 + (16 * p1))) (n + 1) p2) ((n + 1) + 1) p3)))] := hD
              refine lv_aload_n hx hb dX9_place_66 rfl (lv_at hl 0 rfl) ?_
              refine lv_iload hx hb dX9_place_67 (lv_at hl 4 rfl) ?_
              have hPc := hP.sub (ws' := [(h0, .inr (7, [.ref h1, .int (((n + 1) + 1) + 1), x2, x3])), (h1, .inl (cA, 1000, .inl (fX9_put (fX9_put (fX9_put f n (4 + (16 * p1))) (n + 1) p2) ((n + 1) + 1) p3)))]) [0, 1] rfl
              have hDc := hD.sub (ws' := [(h0, .inr (7, [.ref h1, .int (((n + 1) + 1) + 1), x2, x3])), (h1, .inl (cA, 1000, .inl (fX9_put (fX9_put (fX9_put f n (4 + (16 * p1))) (n + 1) p2) ((n + 1) + 1) p3)))]) [0, 1] (by decide) rfl
              have hKc := hK.sub (tys' := [(cA, .int)]) [0] rfl
              refine wk_v (β := Unit) (ok := fun _ => True) (wc := [(h0, .inr (7, [.ref h1, .int (((n + 1) + 1) + 1), x2, x3])), (h1, .inl (cA, 1000, .inl (fX9_put (fX9_put (fX9_put f n (4 + (16 * p1))) (n + 1) p2) ((n + 1) + 1) p3)))]) (wr := []) (w1 := fun _ => [(h0, .inr (7, [.ref h1, .int ((((n + 1) + 1) + 1) + 1), x2, x3])), (h1, .inl (cA, 1000, .inl (fX9_put (fX9_put (fX9_put (fX9_put f n (4 + (16 * p1))) (n + 1) p2) ((n + 1) + 1) p3) (((n + 1) + 1) + 1) p4)))]) (ws2 := fun _ => [(h0, .inr (7, [.ref h1, .int ((((n + 1) + 1) + 1) + 1), x2, x3])), (h1, .inl (cA, 1000, .inl (fX9_put (fX9_put (fX9_put (fX9_put f n (4 + (16 * p1))) (n + 1) p2) ((n + 1) + 1) p3) (((n + 1) + 1) + 1) p4)))]) (va_runV (As := [.int p4]) (rest := []) ⟨hx, hb, hml, hown, hts⟩ (kX9_append l D H.size h0 h1 cA x2 x3 (((n + 1) + 1) + 1) (fX9_put (fX9_put (fX9_put f n (4 + (16 * p1))) (n + 1) p2) ((n + 1) + 1) p3) p4 ) (cwV 1 hts gX9_place_X9_append rfl rfl rfl (by decide +kernel) ⟨Nat.le_of_ble_eq_true rfl, Nat.le_of_ble_eq_true rfl⟩) ⟨Pw_blind, (va_recv hKc hPc (ci := 7) (q0 := 0) rfl rfl), fun U hU hW => Pw_at hKc hPc hDc hN hU hW⟩ rfl rfl hl.1 rfl (lv_room (Nat.le_of_ble_eq_true rfl)) dX9_place_69 ⟨Nat.le_of_ble_eq_true rfl, Nat.le_of_ble_eq_true rfl⟩) hP hD hS hA [0, 1] [] [0, 1] rfl rfl (by decide) (by decide) (fun _ => rfl) (by decide) (fun _ _ H locs hP hD hS => ?_)
              have hP : va_P D vwCl [(h0, .inr (7, [.ref h1, .int ((((n + 1) + 1) + 1) + 1), x2, x3])), (h1, .inl (cA, 1000, .inl (fX9_put (fX9_put (fX9_put (fX9_put f n (4 + (16 * p1))) (n + 1) p2) ((n + 1) + 1) p3) (((n + 1) + 1) + 1) p4)))] H := hP
              have hD : va_D A [(h0, .inr (7, [.ref h1, .int ((((n + 1) + 1) + 1) + 1), x2, x3])), (h1, .inl (cA, 1000, .inl (fX9_put (fX9_put (fX9_put (fX9_put f n (4 + (16 * p1))) (n + 1) p2) ((n + 1) + 1) p3) (((n + 1) + 1) + 1) p4)))] := hD
              refine lv_iconst (v := 1) hx hb dX9_place_72 (by decide) ?_
              have hF : (fX9_place n f p1 p2 p3 p4) = (1, ((((n + 1) + 1) + 1) + 1), (fX9_put (fX9_put (fX9_put (fX9_put f n (4 + (16 * p1))) (n + 1) p2) ((n + 1) + 1) p3) (((n + 1) + 1) + 1) p4)) := by exact ((if_neg c1).trans ((if_neg c6).trans ((if_neg c13).trans ((if_neg c22).trans ((if_neg c33).trans (if_neg c41))))))
              subst hAe
              subst hQe
              exact W.zret (v := 1) hx hb hr rfl (fun t ht hW => ⟨⟨_, _, rfl, ⟨(), trivial, by rw [hF], by rw [hF]⟩, by rw [ht]; exact hP, hD⟩, hS.F ht⟩) hS.2.2 dX9_place_73
            · refine lv_iconst (v := 0) hx hb dX9_place_44 (by decide) ?_
              have hF : (fX9_place n f p1 p2 p3 p4) = (0, n, f) := by exact ((if_neg c1).trans ((if_neg c6).trans ((if_neg c13).trans ((if_neg c22).trans ((if_neg c33).trans (if_pos c41))))))
              subst hAe
              subst hQe
              exact W.zret (v := 0) hx hb hr rfl (fun t ht hW => ⟨⟨_, _, rfl, ⟨(), trivial, by rw [hF], by rw [hF]⟩, by rw [ht]; exact hP, hD⟩, hS.F ht⟩) hS.2.2 dX9_place_45

def fX9_range (n : Int32) (f : Nat → Int32) (p1 : Int32) (p2 : Int32) (p3 : Int32) (p4 : Int32) (p5 : Int32) (p6 : Int32) : Int32 × Int32 × (Nat → Int32) := if p1 < 0 then (0, n, f) else (if 47 < p1 then (0, n, f) else (if (fX9_isSheetOrNone p2) = 0 then (0, n, f) else (if (fX9_areLines p3 p5 1048576) = 0 then (0, n, f) else (if (fX9_areLines p4 p6 16384) = 0 then (0, n, f) else (if (fX9_hasRoomFor n 6) = 0 then (0, n, f) else (if (fX9_has p1 16) = 0 then (if (fX9_has p1 32) = 0 then ((1, ((((((n + 1) + 1) + 1) + 1) + 1) + 1), (fX9_put (fX9_put (fX9_put (fX9_put (fX9_put (fX9_put f n (5 + (16 * p1))) (n + 1) p2) ((n + 1) + 1) p3) (((n + 1) + 1) + 1) p4) ((((n + 1) + 1) + 1) + 1) p5) (((((n + 1) + 1) + 1) + 1) + 1) p6))) else (if (fX9_areAllLines p4 p6 16384) = 0 then (0, n, f) else ((1, ((((((n + 1) + 1) + 1) + 1) + 1) + 1), (fX9_put (fX9_put (fX9_put (fX9_put (fX9_put (fX9_put f n (5 + (16 * p1))) (n + 1) p2) ((n + 1) + 1) p3) (((n + 1) + 1) + 1) p4) ((((n + 1) + 1) + 1) + 1) p5) (((((n + 1) + 1) + 1) + 1) + 1) p6))))) else (if (fX9_areAllLines p3 p5 1048576) = 0 then (0, n, f) else (if (fX9_has p1 32) = 0 then ((1, ((((((n + 1) + 1) + 1) + 1) + 1) + 1), (fX9_put (fX9_put (fX9_put (fX9_put (fX9_put (fX9_put f n (5 + (16 * p1))) (n + 1) p2) ((n + 1) + 1) p3) (((n + 1) + 1) + 1) p4) ((((n + 1) + 1) + 1) + 1) p5) (((((n + 1) + 1) + 1) + 1) + 1) p6))) else (if (fX9_areAllLines p4 p6 16384) = 0 then (0, n, f) else ((1, ((((((n + 1) + 1) + 1) + 1) + 1) + 1), (fX9_put (fX9_put (fX9_put (fX9_put (fX9_put (fX9_put f n (5 + (16 * p1))) (n + 1) p2) ((n + 1) + 1) p3) (((n + 1) + 1) + 1) p4) ((((n + 1) + 1) + 1) + 1) p5) (((((n + 1) + 1) + 1) + 1) + 1) p6))))))))))))
theorem zb_X9_range (n : Int32) (f : Nat → Int32) (p1 : Int32) (p2 : Int32) (p3 : Int32) (p4 : Int32) (p5 : Int32) (p6 : Int32) : isB (fX9_range n f p1 p2 p3 p4 p5 p6).1 := by
  unfold fX9_range
  (try dsimp only)
  repeat' split
  all_goals first | exact Or.inl rfl | exact Or.inr rfl
abbrev rmX9_range : Room := { frames := 2, cells := 0, slots := 0, locals := 43 }
abbrev qX9_range (D : va_G) (sz : Nat) (h0 : Nat) (h1 : Nat) (cA : ClassId) (x2 : Value) (x3 : Value) (n : Int32) (f : Nat → Int32) (p1 : Int32) (p2 : Int32) (p3 : Int32) (p4 : Int32) (p5 : Int32) (p6 : Int32) : Array Value → State → Outcome → State → Prop := va_Qi (fun r_9 w_9 => ∃ _u : Unit, True ∧ r_9 = (fX9_range n f p1 p2 p3 p4 p5 p6).1 ∧ w_9 = [(h0, .inr (7, [.ref h1, .int (fX9_range n f p1 p2 p3 p4 p5 p6).2.1, x2, x3])), (h1, .inl (cA, 1000, .inl (fX9_range n f p1 p2 p3 p4 p5 p6).2.2))]) (Bq D (va_A [(h0, .inr (7, [.ref h1, .int n, x2, x3])), (h1, .inl (cA, 1000, .inl f))] sz)) (va_A [(h0, .inr (7, [.ref h1, .int n, x2, x3])), (h1, .inl (cA, 1000, .inl f))] sz)
set_option maxHeartbeats 4000000 in
set_option maxRecDepth 100000 in
theorem kX9_range (l : Launch) (D : va_G) (sz : Nat) (h0 : Nat) (h1 : Nat) (cA : ClassId) (x2 : Value) (x3 : Value) (n : Int32) (f : Nat → Int32) (p1 : Int32) (p2 : Int32) (p3 : Int32) (p4 : Int32) (p5 : Int32) (p6 : Int32) : Met l yX9_range wsX9_range rmX9_range (va_Pc [.ref h0, .int p1, .int p2, .int p3, .int p4, .int p5, .int p6] (Pw D [(cA, .int)] [(h0, .inr (7, [.ref h1, .int n, x2, x3])), (h1, .inl (cA, 1000, .inl f))] sz)) (qX9_range D sz h0 h1 cA x2 x3 n f p1 p2 p3 p4 p5 p6) 0 0 (va_A [(h0, .inr (7, [.ref h1, .int n, x2, x3])), (h1, .inl (cA, 1000, .inl f))] sz) := by
  refine Met.ofW (cc := cX9_range) (maxL := 7) (ret := (some .boolean)) (by decide) rfl ?_
  intro p e s m args below meth c s₁ B hml hv
  obtain ⟨rfl, hsz, hP, hK, hD0, hN⟩ := hv
  have hx := B.exec
  have hb := B.bytes
  have hr := B.returns
  have hts := atoms_spec (ws := wsX9_range) B.pre
  have hown : s.vm.findClass RX9 = some m.cls := findClass_of_methodNamed B.named
  have hlocks := B.notSynchronized
  subst hsz
  obtain ⟨Q, hQe⟩ : ∃ Q, Q = MQ below (qX9_range D s.heap.size h0 h1 cA x2 x3 n f p1 p2 p3 p4 p5 p6) ([.ref h0, .int p1, .int p2, .int p3, .int p4, .int p5, .int p6] : List Value).toArray s 0 0 (va_A [(h0, .inr (7, [.ref h1, .int n, x2, x3])), (h1, .inl (cA, 1000, .inl f))] s.heap.size) := ⟨_, rfl⟩
  rw [← hQe]
  obtain ⟨A, hAe⟩ : ∃ A, A = va_A [(h0, .inr (7, [.ref h1, .int n, x2, x3])), (h1, .inl (cA, 1000, .inl f))] s.heap.size := ⟨_, rfl⟩
  have hD : va_D A [(h0, .inr (7, [.ref h1, .int n, x2, x3])), (h1, .inl (cA, 1000, .inl f))] := by rw [hAe]; exact hD0.self
  have hA : ∀ q : Nat, s.heap.size ≤ q → A q := by rw [hAe]; exact mo_A
  have hS : va_S A s.heap s.heap [] := va_S.rf
  obtain ⟨H, hHe⟩ : ∃ H, H = s.heap := ⟨_, rfl⟩
  obtain ⟨locs, hLe⟩ : ∃ L : List Loc, L = [] := ⟨_, rfl⟩
  have hP : va_P D vwCl [(h0, .inr (7, [.ref h1, .int n, x2, x3])), (h1, .inl (cA, 1000, .inl f))] H := by rw [hHe]; exact hP
  have hS : va_S A s.heap H locs := by rw [hHe, hLe]; exact hS
  have hl := lv_entry ([.ref h0, .int p1, .int p2, .int p3, .int p4, .int p5, .int p6]) (n := 7) (Nat.le_of_ble_eq_true rfl)
  rw [lg_entry_eq]
  generalize (lg_sl ([.ref h0, .int p1, .int p2, .int p3, .int p4, .int p5, .int p6]) ++ List.replicate (7 - (lg_sl ([.ref h0, .int p1, .int p2, .int p3, .int p4, .int p5, .int p6])).length) Slot.unset).toArray = ls at hl ⊢
  have hl : lv_has ls 7 [(0, .ref h0), (1, .int p1), (2, .int p2), (3, .int p3), (4, .int p4), (5, .int p5), (6, .int p6)] := hl
  refine hStart hHe hLe ?_
  clear hHe hLe
  have k_48 := hts (.constant RX9 48 (1048576)) (by decide +kernel)
  refine lv_iload_n hx hb dX9_range_0 rfl (lv_at hl 1 rfl) ?_
  refine lv_if_lt (tgt := 50) hx hb dX9_range_1 (by decide) (fun c1 => ?_) (fun c1 => ?_)
  · refine lv_iconst (v := 0) hx hb dX9_range_50 (by decide) ?_
    have hF : (fX9_range n f p1 p2 p3 p4 p5 p6) = (0, n, f) := by exact (if_pos c1)
    subst hAe
    subst hQe
    exact W.zret (v := 0) hx hb hr rfl (fun t ht hW => ⟨⟨_, _, rfl, ⟨(), trivial, by rw [hF], by rw [hF]⟩, by rw [ht]; exact hP, hD⟩, hS.F ht⟩) hS.2.2 dX9_range_51
  · refine lv_iload_n hx hb dX9_range_4 rfl (lv_at hl 1 rfl) ?_
    refine lv_bipush (v := 47) hx hb dX9_range_5 (by decide) ?_
    refine lv_icmp_gt (tgt := 50) hx hb dX9_range_7 (by decide) (fun c7 => ?_) (fun c7 => ?_)
    · refine lv_iconst (v := 0) hx hb dX9_range_50 (by decide) ?_
      have hF : (fX9_range n f p1 p2 p3 p4 p5 p6) = (0, n, f) := by exact ((if_neg c1).trans (if_pos c7))
      subst hAe
      subst hQe
      exact W.zret (v := 0) hx hb hr rfl (fun t ht hW => ⟨⟨_, _, rfl, ⟨(), trivial, by rw [hF], by rw [hF]⟩, by rw [ht]; exact hP, hD⟩, hS.F ht⟩) hS.2.2 dX9_range_51
    · refine lv_iload_n hx hb dX9_range_10 rfl (lv_at hl 2 rfl) ?_
      have hPc := hP.sub (ws' := []) [] rfl
      have hDc := hD.sub (ws' := []) [] (by decide) rfl
      have hKc := hK.sub (tys' := []) [] rfl
      refine rd_i (va_runS (As := [.int p2]) (rest := []) ⟨hx, hb, hml, hown, hts⟩ (kX9_isSheetOrNone l D H.size p2 ) (va_cwS 1 hts gX9_range_X9_isSheetOrNone rfl rfl rfl (by decide +kernel) ⟨Nat.le_of_ble_eq_true rfl, Nat.le_of_ble_eq_true rfl⟩) ⟨Pw_blind, fun U hU hW => Pw_at hKc hPc hDc hN hU hW⟩ rfl rfl hl.1 rfl (lv_room (Nat.le_of_ble_eq_true rfl)) dX9_range_11 ⟨Nat.le_of_ble_eq_true rfl, Nat.le_of_ble_eq_true rfl⟩) ?_
      refine lv_if_eq (tgt := 50) hx hb dX9_range_14 (by decide) (fun c14 => ?_) (fun c14 => ?_)
      · refine lv_iconst (v := 0) hx hb dX9_range_50 (by decide) ?_
        have hF : (fX9_range n f p1 p2 p3 p4 p5 p6) = (0, n, f) := by exact ((if_neg c1).trans ((if_neg c7).trans (if_pos c14)))
        subst hAe
        subst hQe
        exact W.zret (v := 0) hx hb hr rfl (fun t ht hW => ⟨⟨_, _, rfl, ⟨(), trivial, by rw [hF], by rw [hF]⟩, by rw [ht]; exact hP, hD⟩, hS.F ht⟩) hS.2.2 dX9_range_51
      · refine lv_iload_n hx hb dX9_range_17 rfl (lv_at hl 3 rfl) ?_
        refine lv_iload hx hb dX9_range_18 (lv_at hl 5 rfl) ?_
        refine lv_ldc (v := 1048576) hx hb hown k_48 dX9_range_20 ?_
        have hPc := hP.sub (ws' := []) [] rfl
        have hDc := hD.sub (ws' := []) [] (by decide) rfl
        have hKc := hK.sub (tys' := []) [] rfl
        refine rd_i (va_runS (As := [.int p3, .int p5, .int 1048576]) (rest := []) ⟨hx, hb, hml, hown, hts⟩ (kX9_areLines l D H.size p3 p5 1048576 ) (va_cwS 3 hts gX9_range_X9_areLines rfl rfl rfl (by decide +kernel) ⟨Nat.le_of_ble_eq_true rfl, Nat.le_of_ble_eq_true rfl⟩) ⟨Pw_blind, fun U hU hW => Pw_at hKc hPc hDc hN hU hW⟩ rfl rfl hl.1 rfl (lv_room (Nat.le_of_ble_eq_true rfl)) dX9_range_22 ⟨Nat.le_of_ble_eq_true rfl, Nat.le_of_ble_eq_true rfl⟩) ?_
        refine lv_if_eq (tgt := 50) hx hb dX9_range_25 (by decide) (fun c25 => ?_) (fun c25 => ?_)
        · refine lv_iconst (v := 0) hx hb dX9_range_50 (by decide) ?_
          have hF : (fX9_range n f p1 p2 p3 p4 p5 p6) = (0, n, f) := by exact ((if_neg c1).trans ((if_neg c7).trans ((if_neg c14).trans (if_pos c25))))
          subst hAe
          subst hQe
          exact W.zret (v := 0) hx hb hr rfl (fun t ht hW => ⟨⟨_, _, rfl, ⟨(), trivial, by rw [hF], by rw [hF]⟩, by rw [ht]; exact hP, hD⟩, hS.F ht⟩) hS.2.2 dX9_range_51
        · refine lv_iload hx hb dX9_range_28 (lv_at hl 4 rfl) ?_
          refine lv_iload hx hb dX9_range_30 (lv_at hl 6 rfl) ?_
          refine lv_sipush (v := 16384) hx hb dX9_range_32 (by decide) ?_
          have hPc := hP.sub (ws' := []) [] rfl
          have hDc := hD.sub (ws' := []) [] (by decide) rfl
          have hKc := hK.sub (tys' := []) [] rfl
          refine rd_i (va_runS (As := [.int p4, .int p6, .int 16384]) (rest := []) ⟨hx, hb, hml, hown, hts⟩ (kX9_areLines l D H.size p4 p6 16384 ) (va_cwS 3 hts gX9_range_X9_areLines rfl rfl rfl (by decide +kernel) ⟨Nat.le_of_ble_eq_true rfl, Nat.le_of_ble_eq_true rfl⟩) ⟨Pw_blind, fun U hU hW => Pw_at hKc hPc hDc hN hU hW⟩ rfl rfl hl.1 rfl (lv_room (Nat.le_of_ble_eq_true rfl)) dX9_range_35 ⟨Nat.le_of_ble_eq_true rfl, Nat.le_of_ble_eq_true rfl⟩) ?_
          refine lv_if_eq (tgt := 50) hx hb dX9_range_38 (by decide) (fun c38 => ?_) (fun c38 => ?_)
          · refine lv_iconst (v := 0) hx hb dX9_range_50 (by decide) ?_
            have hF : (fX9_range n f p1 p2 p3 p4 p5 p6) = (0, n, f) := by exact ((if_neg c1).trans ((if_neg c7).trans ((if_neg c14).trans ((if_neg c25).trans (if_pos c38)))))
            subst hAe
            subst hQe
            exact W.zret (v := 0) hx hb hr rfl (fun t ht hW => ⟨⟨_, _, rfl, ⟨(), trivial, by rw [hF], by rw [hF]⟩, by rw [ht]; exact hP, hD⟩, hS.F ht⟩) hS.2.2 dX9_range_51
          · refine lv_aload_n hx hb dX9_range_41 rfl (lv_at hl 0 rfl) ?_
            refine lv_bipush (v := 6) hx hb dX9_range_42 (by decide) ?_
            have hPc := hP.sub (ws' := [(h0, .inr (7, [.ref h1, .int n, x2, x3])), (h1, .inl (cA, 1000, .inl f))]) [0, 1] rfl
            have hDc := hD.sub (ws' := [(h0, .inr (7, [.ref h1, .int n, x2, x3])), (h1, .inl (cA, 1000, .inl f))]) [0, 1] (by decide) rfl
            have hKc := hK.sub (tys' := [(cA, .int)]) [0] rfl
            refine rd_i (va_runV (As := [.int 6]) (rest := []) ⟨hx, hb, hml, hown, hts⟩ (kX9_hasRoomFor l D H.size h0 h1 cA x2 x3 n f 6 ) (cwV 1 hts gX9_range_X9_hasRoomFor rfl rfl rfl (by decide +kernel) ⟨Nat.le_of_ble_eq_true rfl, Nat.le_of_ble_eq_true rfl⟩) ⟨Pw_blind, (va_recv hKc hPc (ci := 7) (q0 := 0) rfl rfl), fun U hU hW => Pw_at hKc hPc hDc hN hU hW⟩ rfl rfl hl.1 rfl (lv_room (Nat.le_of_ble_eq_true rfl)) dX9_range_44 ⟨Nat.le_of_ble_eq_true rfl, Nat.le_of_ble_eq_true rfl⟩) ?_
            refine lv_if_ne (tgt := 52) hx hb dX9_range_47 (by decide) (fun c47 => ?_) (fun c47 => ?_)
            · refine lv_iload_n hx hb dX9_range_52 rfl (lv_at hl 1 rfl) ?_
              refine lv_bipush (v := 16) hx hb dX9_range_53 (by decide) ?_
              have hPc := hP.sub (ws' := []) [] rfl
              have hDc := hD.sub (ws' := []) [] (by decide) rfl
              have hKc := hK.sub (tys' := []) [] rfl
              refine rd_i (va_runS (As := [.int p1, .int 16]) (rest := []) ⟨hx, hb, hml, hown, hts⟩ (kX9_has l D H.size p1 16 ) (va_cwS 2 hts gX9_range_X9_has rfl rfl rfl (by decide +kernel) ⟨Nat.le_of_ble_eq_true rfl, Nat.le_of_ble_eq_true rfl⟩) ⟨Pw_blind, fun U hU hW => Pw_at hKc hPc hDc hN hU hW⟩ rfl rfl hl.1 rfl (lv_room (Nat.le_of_ble_eq_true rfl)) dX9_range_55 ⟨Nat.le_of_ble_eq_true rfl, Nat.le_of_ble_eq_true rfl⟩) ?_
              refine lv_if_eq (tgt := 72) hx hb dX9_range_58 (by decide) (fun c58 => ?_) (fun c58 => ?_)
              · refine lv_iload_n hx hb dX9_range_72 rfl (lv_at hl 1 rfl) ?_
                refine lv_bipush (v := 32) hx hb dX9_range_73 (by decide) ?_
                have hPc := hP.sub (ws' := []) [] rfl
                have hDc := hD.sub (ws' := []) [] (by decide) rfl
                have hKc := hK.sub (tys' := []) [] rfl
                refine rd_i (va_runS (As := [.int p1, .int 32]) (rest := []) ⟨hx, hb, hml, hown, hts⟩ (kX9_has l D H.size p1 32 ) (va_cwS 2 hts gX9_range_X9_has rfl rfl rfl (by decide +kernel) ⟨Nat.le_of_ble_eq_true rfl, Nat.le_of_ble_eq_true rfl⟩) ⟨Pw_blind, fun U hU hW => Pw_at hKc hPc hDc hN hU hW⟩ rfl rfl hl.1 rfl (lv_room (Nat.le_of_ble_eq_true rfl)) dX9_range_75 ⟨Nat.le_of_ble_eq_true rfl, Nat.le_of_ble_eq_true rfl⟩) ?_
                refine lv_if_eq (tgt := 96) hx hb dX9_range_78 (by decide) (fun c78 => ?_) (fun c78 => ?_)
                · refine lv_aload_n hx hb dX9_range_96 rfl (lv_at hl 0 rfl) ?_
                  refine lv_iconst (v := 5) hx hb dX9_range_97 (by decide) ?_
                  refine lv_bipush (v := 16) hx hb dX9_range_98 (by decide) ?_
                  refine lv_iload_n hx hb dX9_range_100 rfl (lv_at hl 1 rfl) ?_
                  refine lv_imul hx hb dX9_range_101 ?_
                  refine lv_iadd hx hb dX9_range_102 ?_
                  have hPc := hP.sub (ws' := [(h0, .inr (7, [.ref h1, .int n, x2, x3])), (h1, .inl (cA, 1000, .inl f))]) [0, 1] rfl
                  have hDc := hD.sub (ws' := [(h0, .inr (7, [.ref h1, .int n, x2, x3])), (h1, .inl (cA, 1000, .inl f))]) [0, 1] (by decide) rfl
                  have hKc := hK.sub (tys' := [(cA, .int)]) [0] rfl
                  refine wk_v (β := Unit) (ok := fun _ => True) (wc := [(h0, .inr (7, [.ref h1, .int n, x2, x3])), (h1, .inl (cA, 1000, .inl f))]) (wr := []) (w1 := fun _ => [(h0, .inr (7, [.ref h1, .int (n + 1), x2, x3])), (h1, .inl (cA, 1000, .inl (fX9_put f n (5 + (16 * p1)))))]) (ws2 := fun _ => [(h0, .inr (7, [.ref h1, .int (n + 1), x2, x3])), (h1, .inl (cA, 1000, .inl (fX9_put f n (5 + (16 * p1)))))]) (va_runV (As := [.int (5 + (16 * p1))]) (rest := []) ⟨hx, hb, hml, hown, hts⟩ (kX9_append l D H.size h0 h1 cA x2 x3 n f (5 + (16 * p1)) ) (cwV 1 hts gX9_range_X9_append rfl rfl rfl (by decide +kernel) ⟨Nat.le_of_ble_eq_true rfl, Nat.le_of_ble_eq_true rfl⟩) ⟨Pw_blind, (va_recv hKc hPc (ci := 7) (q0 := 0) rfl rfl), fun U hU hW => Pw_at hKc hPc hDc hN hU hW⟩ rfl rfl hl.1 rfl (lv_room (Nat.le_of_ble_eq_true rfl)) dX9_range_103 ⟨Nat.le_of_ble_eq_true rfl, Nat.le_of_ble_eq_true rfl⟩) hP hD hS hA [0, 1] [] [0, 1] rfl rfl (by decide) (by decide) (fun _ => rfl) (by decide) (fun _ _ H locs hP hD hS => ?_)
                  have hP : va_P D vwCl [(h0, .inr (7, [.ref h1, .int (n + 1), x2, x3])), (h1, .inl (cA, 1000, .inl (fX9_put f n (5 + (16 * p1)))))] H := hP
                  have hD : va_D A [(h0, .inr (7, [.ref h1, .int (n + 1), x2, x3])), (h1, .inl (cA, 1000, .inl (fX9_put f n (5 + (16 * p1)))))] := hD
                  refine lv_aload_n hx hb dX9_range_106 rfl (lv_at hl 0 rfl) ?_
                  refine lv_iload_n hx hb dX9_range_107 rfl (lv_at hl 2 rfl) ?_
                  have hPc := hP.sub (ws' := [(h0, .inr (7, [.ref h1, .int (n + 1), x2, x3])), (h1, .inl (cA, 1000, .inl (fX9_put f n (5 + (16 * p1)))))]) [0, 1] rfl
                  have hDc := hD.sub (ws' := [(h0, .inr (7, [.ref h1, .int (n + 1), x2, x3])), (h1, .inl (cA, 1000, .inl (fX9_put f n (5 + (16 * p1)))))]) [0, 1] (by decide) rfl
                  have hKc := hK.sub (tys' := [(cA, .int)]) [0] rfl
                  refine wk_v (β := Unit) (ok := fun _ => True) (wc := [(h0, .inr (7, [.ref h1, .int (n + 1), x2, x3])), (h1, .inl (cA, 1000, .inl (fX9_put f n (5 + (16 * p1)))))]) (wr := []) (w1 := fun _ => [(h0, .inr (7, [.ref h1, .int ((n + 1) + 1), x2, x3])), (h1, .inl (cA, 1000, .inl (fX9_put (fX9_put f n (5 + (16 * p1))) (n + 1) p2)))]) (ws2 := fun _ => [(h0, .inr (7, [.ref h1, .int ((n + 1) + 1), x2, x3])), (h1, .inl (cA, 1000, .inl (fX9_put (fX9_put f n (5 + (16 * p1))) (n + 1) p2)))]) (va_runV (As := [.int p2]) (rest := []) ⟨hx, hb, hml, hown, hts⟩ (kX9_append l D H.size h0 h1 cA x2 x3 (n + 1) (fX9_put f n (5 + (16 * p1))) p2 ) (cwV 1 hts gX9_range_X9_append rfl rfl rfl (by decide +kernel) ⟨Nat.le_of_ble_eq_true rfl, Nat.le_of_ble_eq_true rfl⟩) ⟨Pw_blind, (va_recv hKc hPc (ci := 7) (q0 := 0) rfl rfl), fun U hU hW => Pw_at hKc hPc hDc hN hU hW⟩ rfl rfl hl.1 rfl (lv_room (Nat.le_of_ble_eq_true rfl)) dX9_range_108 ⟨Nat.le_of_ble_eq_true rfl, Nat.le_of_ble_eq_true rfl⟩) hP hD hS hA [0, 1] [] [0, 1] rfl rfl (by decide) (by decide) (fun _ => rfl) (by decide) (fun _ _ H locs hP hD hS => ?_)
                  have hP : va_P D vwCl [(h0, .inr (7, [.ref h1, .int ((n + 1) + 1), x2, x3])), (h1, .inl (cA, 1000, .inl (fX9_put (fX9_put f n (5 + (16 * p1))) (n + 1) p2)))] H := hP
                  have hD : va_D A [(h0, .inr (7, [.ref h1, .int ((n + 1) + 1), x2, x3])), (h1, .inl (cA, 1000, .inl (fX9_put (fX9_put f n (5 + (16 * p1))) (n + 1) p2)))] := hD
                  refine lv_aload_n hx hb dX9_range_111 rfl (lv_at hl 0 rfl) ?_
                  refine lv_iload_n hx hb dX9_range_112 rfl (lv_at hl 3 rfl) ?_
                  have hPc := hP.sub (ws' := [(h0, .inr (7, [.ref h1, .int ((n + 1) + 1), x2, x3])), (h1, .inl (cA, 1000, .inl (fX9_put (fX9_put f n (5 + (16 * p1))) (n + 1) p2)))]) [0, 1] rfl
                  have hDc := hD.sub (ws' := [(h0, .inr (7, [.ref h1, .int ((n + 1) + 1), x2, x3])), (h1, .inl (cA, 1000, .inl (fX9_put (fX9_put f n (5 + (16 * p1))) (n + 1) p2)))]) [0, 1] (by decide) rfl
                  have hKc := hK.sub (tys' := [(cA, .int)]) [0] rfl
                  refine wk_v (β := Unit) (ok := fun _ => True) (wc := [(h0, .inr (7, [.ref h1, .int ((n + 1) + 1), x2, x3])), (h1, .inl (cA, 1000, .inl (fX9_put (fX9_put f n (5 + (16 * p1))) (n + 1) p2)))]) (wr := []) (w1 := fun _ => [(h0, .inr (7, [.ref h1, .int (((n + 1) + 1) + 1), x2, x3])), (h1, .inl (cA, 1000, .inl (fX9_put (fX9_put (fX9_put f n (5 + (16 * p1))) (n + 1) p2) ((n + 1) + 1) p3)))]) (ws2 := fun _ => [(h0, .inr (7, [.ref h1, .int (((n + 1) + 1) + 1), x2, x3])), (h1, .inl (cA, 1000, .inl (fX9_put (fX9_put (fX9_put f n (5 + (16 * p1))) (n + 1) p2) ((n + 1) + 1) p3)))]) (va_runV (As := [.int p3]) (rest := []) ⟨hx, hb, hml, hown, hts⟩ (kX9_append l D H.size h0 h1 cA x2 x3 ((n + 1) + 1) (fX9_put (fX9_put f n (5 + (16 * p1))) (n + 1) p2) p3 ) (cwV 1 hts gX9_range_X9_append rfl rfl rfl (by decide +kernel) ⟨Nat.le_of_ble_eq_true rfl, Nat.le_of_ble_eq_true rfl⟩) ⟨Pw_blind, (va_recv hKc hPc (ci := 7) (q0 := 0) rfl rfl), fun U hU hW => Pw_at hKc hPc hDc hN hU hW⟩ rfl rfl hl.1 rfl (lv_room (Nat.le_of_ble_eq_true rfl)) dX9_range_113 ⟨Nat.le_of_ble_eq_true rfl, Nat.le_of_ble_eq_true rfl⟩) hP hD hS hA [0, 1] [] [0, 1] rfl rfl (by decide) (by decide) (fun _ => rfl) (by decide) (fun _ _ H locs hP hD hS => ?_)
                  have hP : va_P D vwCl [(h0, .inr (7, [.ref h1, .int (((n + 1) + 1) + 1), x2, x3])), (h1, .inl (cA, 1000, .inl (fX9_put (fX9_put (fX9_put f n (5 + (16 * p1))) (n + 1) p2) ((n + 1) + 1) p3)))] H := hP
                  have hD : va_D A [(h0, .inr (7, [.ref h1, .int (((n + 1) + 1) + 1), x2, x3])), (h1, .inl (cA, 1000, .inl (fX9_put (fX9_put (fX9_put f n (5 + (16 * p1))) (n + 1) p2) ((n + 1) + 1) p3)))] := hD
                  refine lv_aload_n hx hb dX9_range_116 rfl (lv_at hl 0 rfl) ?_
                  refine lv_iload hx hb dX9_range_117 (lv_at hl 4 rfl) ?_
                  have hPc := hP.sub (ws' := [(h0, .inr (7, [.ref h1, .int (((n + 1) + 1) + 1), x2, x3])), (h1, .inl (cA, 1000, .inl (fX9_put (fX9_put (fX9_put f n (5 + (16 * p1))) (n + 1) p2) ((n + 1) + 1) p3)))]) [0, 1] rfl
                  have hDc := hD.sub (ws' := [(h0, .inr (7, [.ref h1, .int (((n + 1) + 1) + 1), x2, x3])), (h1, .inl (cA, 1000, .inl (fX9_put (fX9_put (fX9_put f n (5 + (16 * p1))) (n + 1) p2) ((n + 1) + 1) p3)))]) [0, 1] (by decide) rfl
                  have hKc := hK.sub (tys' := [(cA, .int)]) [0] rfl
                  refine wk_v (β := Unit) (ok := fun _ => True) (wc := [(h0, .inr (7, [.ref h1, .int (((n + 1) + 1) + 1), x2, x3])), (h1, .inl (cA, 1000, .inl (fX9_put (fX9_put (fX9_put f n (5 + (16 * p1))) (n + 1) p2) ((n + 1) + 1) p3)))]) (wr := []) (w1 := fun _ => [(h0, .inr (7, [.ref h1, .int ((((n + 1) + 1) + 1) + 1), x2, x3])), (h1, .inl (cA, 1000, .inl (fX9_put (fX9_put (fX9_put (fX9_put f n (5 + (16 * p1))) (n + 1) p2) ((n + 1) + 1) p3) (((n + 1) + 1) + 1) p4)))]) (ws2 := fun _ => [(h0, .inr (7, [.ref h1, .int ((((n + 1) + 1) + 1) + 1), x2, x3])), (h1, .inl (cA, 1000, .inl (fX9_put (fX9_put (fX9_put (fX9_put f n (5 + (16 * p1))) (n + 1) p2) ((n + 1) + 1) p3) (((n + 1) + 1) + 1) p4)))]) (va_runV (As := [.int p4]) (rest := []) ⟨hx, hb, hml, hown, hts⟩ (kX9_append l D H.size h0 h1 cA x2 x3 (((n + 1) + 1) + 1) (fX9_put (fX9_put (fX9_put f n (5 + (16 * p1))) (n + 1) p2) ((n + 1) + 1) p3) p4 ) (cwV 1 hts gX9_range_X9_append rfl rfl rfl (by decide +kernel) ⟨Nat.le_of_ble_eq_true rfl, Nat.le_of_ble_eq_true rfl⟩) ⟨Pw_blind, (va_recv hKc hPc (ci := 7) (q0 := 0) rfl rfl), fun U hU hW => Pw_at hKc hPc hDc hN hU hW⟩ rfl rfl hl.1 rfl (lv_room (Nat.le_of_ble_eq_true rfl)) dX9_range_119 ⟨Nat.le_of_ble_eq_true rfl, Nat.le_of_ble_eq_true rfl⟩) hP hD hS hA [0, 1] [] [0, 1] rfl rfl (by decide) (by decide) (fun _ => rfl) (by decide) (fun _ _ H locs hP hD hS => ?_)
                  have hP : va_P D vwCl [(h0, .inr (7, [.ref h1, .int ((((n + 1) + 1) + 1) + 1), x2, x3])), (h1, .inl (cA, 1000, .inl (fX9_put (fX9_put (fX9_put (fX9_put f n (5 + (16 * p1))) (n + 1) p2) ((n + 1) + 1) p3) (((n + 1) + 1) + 1) p4)))] H := hP
                  have hD : va_D A [(h0, .inr (7, [.ref h1, .int ((((n + 1) + 1) + 1) + 1), x2, x3])), (h1, .inl (cA, 1000, .inl (fX9_put (fX9_put (fX9_put (fX9_put f n (5 + (16 * p1))) (n + 1) p2) ((n + 1) + 1) p3) (((n + 1) + 1) + 1) p4)))] := hD
                  refine lv_aload_n hx hb dX9_range_122 rfl (lv_at hl 0 rfl) ?_
                  refine lv_iload hx hb dX9_range_123 (lv_at hl 5 rfl) ?_
                  have hPc := hP.sub (ws' := [(h0, .inr (7, [.ref h1, .int ((((n + 1) + 1) + 1) + 1), x2, x3])), (h1, .inl (cA, 1000, .inl (fX9_put (fX9_put (fX9_put (fX9_put f n (5 + (16 * p1))) (n + 1) p2) ((n + 1) + 1) p3) (((n + 1) + 1) + 1) p4)))]) [0, 1] rfl
                  have hDc := hD.sub (ws' := [(h0, .inr (7, [.ref h1, .int ((((n + 1) + 1) + 1) + 1), x2, x3])), (h1, .inl (cA, 1000, .inl (fX9_put (fX9_put (fX9_put (fX9_put f n (5 + (16 * p1))) (n + 1) p2) ((n + 1) + 1) p3) (((n + 1) + 1) + 1) p4)))]) [0, 1] (by decide) rfl
                  have hKc := hK.sub (tys' := [(cA, .int)]) [0] rfl
                  refine wk_v (β := Unit) (ok := fun _ => True) (wc := [(h0, .inr (7, [.ref h1, .int ((((n + 1) + 1) + 1) + 1), x2, x3])), (h1, .inl (cA, 1000, .inl (fX9_put (fX9_put (fX9_put (fX9_put f n (5 + (16 * p1))) (n + 1) p2) ((n + 1) + 1) p3) (((n + 1) + 1) + 1) p4)))]) (wr := []) (w1 := fun _ => [(h0, .inr (7, [.ref h1, .int (((((n + 1) + 1) + 1) + 1) + 1), x2, x3])), (h1, .inl (cA, 1000, .inl (fX9_put (fX9_put (fX9_put (fX9_put (fX9_put f n (5 + (16 * p1))) (n + 1) p2) ((n + 1) + 1) p3) (((n + 1) + 1) + 1) p4) ((((n + 1) + 1) + 1) + 1) p5)))]) (ws2 := fun _ => [(h0, .inr (7, [.ref h1, .int (((((n + 1) + 1) + 1) + 1) + 1), x2, x3])), (h1, .inl (cA, 1000, .inl (fX9_put (fX9_put (fX9_put (fX9_put (fX9_put f n (5 + (16 * p1))) (n + 1) p2) ((n + 1) + 1) p3) (((n + 1) + 1) + 1) p4) ((((n + 1) + 1) + 1) + 1) p5)))]) (va_runV (As := [.int p5]) (rest := []) ⟨hx, hb, hml, hown, hts⟩ (kX9_append l D H.size h0 h1 cA x2 x3 ((((n + 1) + 1) + 1) + 1) (fX9_put (fX9_put (fX9_put (fX9_put f n (5 + (16 * p1))) (n + 1) p2) ((n + 1) + 1) p3) (((n + 1) + 1) + 1) p4) p5 ) (cwV 1 hts gX9_range_X9_append rfl rfl rfl (by decide +kernel) ⟨Nat.le_of_ble_eq_true rfl, Nat.le_of_ble_eq_true rfl⟩) ⟨Pw_blind, (va_recv hKc hPc (ci := 7) (q0 := 0) rfl rfl), fun U hU hW => Pw_at hKc hPc hDc hN hU hW⟩ rfl rfl hl.1 rfl (lv_room (Nat.le_of_ble_eq_true rfl)) dX9_range_125 ⟨Nat.le_of_ble_eq_true rfl, Nat.le_of_ble_eq_true rfl⟩) hP hD hS hA [0, 1] [] [0, 1] rfl rfl (by decide) (by decide) (fun _ => rfl) (by decide) (fun _ _ H locs hP hD hS => ?_)
                  have hP : va_P D vwCl [(h0, .inr (7, [.ref h1, .int (((((n + 1) + 1) + 1) + 1) + 1), x2, x3])), (h1, .inl (cA, 1000, .inl (fX9_put (fX9_put (fX9_put (fX9_put (fX9_put f n (5 + (16 * p1))) (n + 1) p2) ((n + 1) + 1) p3) (((n + 1) + 1) + 1) p4) ((((n + 1) + 1) + 1) + 1) p5)))] H := hP
                  have hD : va_D A [(h0, .inr (7, [.ref h1, .int (((((n + 1) + 1) + 1) + 1) + 1), x2, x3])), (h1, .inl (cA, 1000, .inl (fX9_put (fX9_put (fX9_put (fX9_put (fX9_put f n (5 + (16 * p1))) (n + 1) p2) ((n + 1) + 1) p3) (((n + 1) + 1) + 1) p4) ((((n + 1) + 1) + 1) + 1) p5)))] := hD
                  refine lv_aload_n hx hb dX9_range_128 rfl (lv_at hl 0 rfl) ?_
                  refine lv_iload hx hb dX9_range_129 (lv_at hl 6 rfl) ?_
                  have hPc := hP.sub (ws' := [(h0, .inr (7, [.ref h1, .int (((((n + 1) + 1) + 1) + 1) + 1), x2, x3])), (h1, .inl (cA, 1000, .inl (fX9_put (fX9_put (fX9_put (fX9_put (fX9_put f n (5 + (16 * p1))) (n + 1) p2) ((n + 1) + 1) p3) (((n + 1) + 1) + 1) p4) ((((n + 1) + 1) + 1) + 1) p5)))]) [0, 1] rfl
                  have hDc := hD.sub (ws' := [(h0, .inr (7, [.ref h1, .int (((((n + 1) + 1) + 1) + 1) + 1), x2, x3])), (h1, .inl (cA, 1000, .inl (fX9_put (fX9_put (fX9_put (fX9_put (fX9_put f n (5 + (16 * p1))) (n + 1) p2) ((n + 1) + 1) p3) (((n + 1) + 1) + 1) p4) ((((n + 1) + 1) + 1) + 1) p5)))]) [0, 1] (by decide) rfl
                  have hKc := hK.sub (tys' := [(cA, .int)]) [0] rfl
                  refine wk_v (β := Unit) (ok := fun _ => True) (wc := [(h0, .inr (7, [.ref h1, .int (((((n + 1) + 1) + 1) + 1) + 1), x2, x3])), (h1, .inl (cA, 1000, .inl (fX9_put (fX9_put (fX9_put (fX9_put (fX9_put f n (5 + (16 * p1))) (n + 1) p2) ((n + 1) + 1) p3) (((n + 1) + 1) + 1) p4) ((((n + 1) + 1) + 1) + 1) p5)))]) (wr := []) (w1 := fun _ => [(h0, .inr (7, [.ref h1, .int ((((((n + 1) + 1) + 1) + 1) + 1) + 1), x2, x3])), (h1, .inl (cA, 1000, .inl (fX9_put (fX9_put (fX9_put (fX9_put (fX9_put (fX9_put f n (5 + (16 * p1))) (n + 1) p2) ((n + 1) + 1) p3) (((n + 1) + 1) + 1) p4) ((((n + 1) + 1) + 1) + 1) p5) (((((n + 1) + 1) + 1) + 1) + 1) p6)))]) (ws2 := fun _ => [(h0, .inr (7, [.ref h1, .int ((((((n + 1) + 1) + 1) + 1) + 1) + 1), x2, x3])), (h1, .inl (cA, 1000, .inl (fX9_put (fX9_put (fX9_put (fX9_put (fX9_put (fX9_put f n (5 + (16 * p1))) (n + 1) p2) ((n + 1) + 1) p3) (((n + 1) + 1) + 1) p4) ((((n + 1) + 1) + 1) + 1) p5) (((((n + 1) + 1) + 1) + 1) + 1) p6)))]) (va_runV (As := [.int p6]) (rest := []) ⟨hx, hb, hml, hown, hts⟩ (kX9_append l D H.size h0 h1 cA x2 x3 (((((n + 1) + 1) + 1) + 1) + 1) (fX9_put (fX9_put (fX9_put (fX9_put (fX9_put f n (5 + (16 * p1))) (n + 1) p2) ((n + 1) + 1) p3) (((n + 1) + 1) + 1) p4) ((((n + 1) + 1) + 1) + 1) p5) p6 ) (cwV 1 hts gX9_range_X9_append rfl rfl rfl (by decide +kernel) ⟨Nat.le_of_ble_eq_true rfl, Nat.le_of_ble_eq_true rfl⟩) ⟨Pw_blind, (va_recv hKc hPc (ci := 7) (q0 := 0) rfl rfl), fun U hU hW => Pw_at hKc hPc hDc hN hU hW⟩ rfl rfl hl.1 rfl (lv_room (Nat.le_of_ble_eq_true rfl)) dX9_range_131 ⟨Nat.le_of_ble_eq_true rfl, Nat.le_of_ble_eq_true rfl⟩) hP hD hS hA [0, 1] [] [0, 1] rfl rfl (by decide) (by decide) (fun _ => rfl) (by decide) (fun _ _ H locs hP hD hS => ?_)
                  have hP : va_P D vwCl [(h0, .inr (7, [.ref h1, .int ((((((n + 1) + 1) + 1) + 1) + 1) + 1), x2, x3])), (h1, .inl (cA, 1000, .inl (fX9_put (fX9_put (fX9_put (fX9_put (fX9_put (fX9_put f n (5 + (16 * p1))) (n + 1) p2) ((n + 1) + 1) p3) (((n + 1) + 1) + 1) p4) ((((n + 1) + 1) + 1) + 1) p5) (((((n + 1) + 1) + 1) + 1) + 1) p6)))] H := hP
                  have hD : va_D A [(h0, .inr (7, [.ref h1, .int ((((((n + 1) + 1) + 1) + 1) + 1) + 1), x2, x3])), (h1, .inl (cA, 1000, .inl (fX9_put (fX9_put (fX9_put (fX9_put (fX9_put (fX9_put f n (5 + (16 * p1))) (n + 1) p2) ((n + 1) + 1) p3) (((n + 1) + 1) + 1) p4) ((((n + 1) + 1) + 1) + 1) p5) (((((n + 1) + 1) + 1) + 1) + 1) p6)))] := hD
                  refine lv_iconst (v := 1) hx hb dX9_range_134 (by decide) ?_
                  have hF : (fX9_range n f p1 p2 p3 p4 p5 p6) = (1, ((((((n + 1) + 1) + 1) + 1) + 1) + 1), (fX9_put (fX9_put (fX9_put (fX9_put (fX9_put (fX9_put f n (5 + (16 * p1))) (n + 1) p2) ((n + 1) + 1) p3) (((n + 1) + 1) + 1) p4) ((((n + 1) + 1) + 1) + 1) p5) (((((n + 1) + 1) + 1) + 1) + 1) p6)) := by exact ((if_neg c1).trans ((if_neg c7).trans ((if_neg c14).trans ((if_neg c25).trans ((if_neg c38).trans ((if_neg c47).trans ((if_pos c58).trans (if_pos c78))))))))
                  subst hAe
                  subst hQe
                  exact W.zret (v := 1) hx hb hr rfl (fun t ht hW => ⟨⟨_, _, rfl, ⟨(), trivial, by rw [hF], by rw [hF]⟩, by rw [ht]; exact hP, hD⟩, hS.F ht⟩) hS.2.2 dX9_range_135
                · refine lv_iload hx hb dX9_range_81 (lv_at hl 4 rfl) ?_
                  refine lv_iload hx hb dX9_range_83 (lv_at hl 6 rfl) ?_
                  refine lv_sipush (v := 16384) hx hb dX9_range_85 (by decide) ?_
                  have hPc := hP.sub (ws' := []) [] rfl
                  have hDc := hD.sub (ws' := []) [] (by decide) rfl
                  have hKc := hK.sub (tys' := []) [] rfl
                  refine rd_i (va_runS (As := [.int p4, .int p6, .int 16384]) (rest := []) ⟨hx, hb, hml, hown, hts⟩ (kX9_areAllLines l D H.size p4 p6 16384 ) (va_cwS 3 hts gX9_range_X9_areAllLines rfl rfl rfl (by decide +kernel) ⟨Nat.le_of_ble_eq_true rfl, Nat.le_of_ble_eq_true rfl⟩) ⟨Pw_blind, fun U hU hW => Pw_at hKc hPc hDc hN hU hW⟩ rfl rfl hl.1 rfl (lv_room (Nat.le_of_ble_eq_true rfl)) dX9_range_88 ⟨Nat.le_of_ble_eq_true rfl, Nat.le_of_ble_eq_true rfl⟩) ?_
                  refine lv_if_ne (tgt := 96) hx hb dX9_range_91 (by decide) (fun c91 => ?_) (fun c91 => ?_)
                  · refine lv_aload_n hx hb dX9_range_96 rfl (lv_at hl 0 rfl) ?_
                    refine lv_iconst (v := 5) hx hb dX9_range_97 (by decide) ?_
                    refine lv_bipush (v := 16) hx hb dX9_range_98 (by decide) ?_
                    refine lv_iload_n hx hb dX9_range_100 rfl (lv_at hl 1 rfl) ?_
                    refine lv_imul hx hb dX9_range_101 ?_
                    refine lv_iadd hx hb dX9_range_102 ?_
                    have hPc := hP.sub (ws' := [(h0, .inr (7, [.ref h1, .int n, x2, x3])), (h1, .inl (cA, 1000, .inl f))]) [0, 1] rfl
                    have hDc := hD.sub (ws' := [(h0, .inr (7, [.ref h1, .int n, x2, x3])), (h1, .inl (cA, 1000, .inl f))]) [0, 1] (by decide) rfl
                    have hKc := hK.sub (tys' := [(cA, .int)]) [0] rfl
                    refine wk_v (β := Unit) (ok := fun _ => True) (wc := [(h0, .inr (7, [.ref h1, .int n, x2, x3])), (h1, .inl (cA, 1000, .inl f))]) (wr := []) (w1 := fun _ => [(h0, .inr (7, [.ref h1, .int (n + 1), x2, x3])), (h1, .inl (cA, 1000, .inl (fX9_put f n (5 + (16 * p1)))))]) (ws2 := fun _ => [(h0, .inr (7, [.ref h1, .int (n + 1), x2, x3])), (h1, .inl (cA, 1000, .inl (fX9_put f n (5 + (16 * p1)))))]) (va_runV (As := [.int (5 + (16 * p1))]) (rest := []) ⟨hx, hb, hml, hown, hts⟩ (kX9_append l D H.size h0 h1 cA x2 x3 n f (5 + (16 * p1)) ) (cwV 1 hts gX9_range_X9_append rfl rfl rfl (by decide +kernel) ⟨Nat.le_of_ble_eq_true rfl, Nat.le_of_ble_eq_true rfl⟩) ⟨Pw_blind, (va_recv hKc hPc (ci := 7) (q0 := 0) rfl rfl), fun U hU hW => Pw_at hKc hPc hDc hN hU hW⟩ rfl rfl hl.1 rfl (lv_room (Nat.le_of_ble_eq_true rfl)) dX9_range_103 ⟨Nat.le_of_ble_eq_true rfl, Nat.le_of_ble_eq_true rfl⟩) hP hD hS hA [0, 1] [] [0, 1] rfl rfl (by decide) (by decide) (fun _ => rfl) (by decide) (fun _ _ H locs hP hD hS => ?_)
                    have hP : va_P D vwCl [(h0, .inr (7, [.ref h1, .int (n + 1), x2, x3])), (h1, .inl (cA, 1000, .inl (fX9_put f n (5 + (16 * p1)))))] H := hP
                    have hD : va_D A [(h0, .inr (7, [.ref h1, .int (n + 1), x2, x3])), (h1, .inl (cA, 1000, .inl (fX9_put f n (5 + (16 * p1)))))] := hD
                    refine lv_aload_n hx hb dX9_range_106 rfl (lv_at hl 0 rfl) ?_
                    refine lv_iload_n hx hb dX9_range_107 rfl (lv_at hl 2 rfl) ?_
                    have hPc := hP.sub (ws' := [(h0, .inr (7, [.ref h1, .int (n + 1), x2, x3])), (h1, .inl (cA, 1000, .inl (fX9_put f n (5 + (16 * p1)))))]) [0, 1] rfl
                    have hDc := hD.sub (ws' := [(h0, .inr (7, [.ref h1, .int (n + 1), x2, x3])), (h1, .inl (cA, 1000, .inl (fX9_put f n (5 + (16 * p1)))))]) [0, 1] (by decide) rfl
                    have hKc := hK.sub (tys' := [(cA, .int)]) [0] rfl
                    refine wk_v (β := Unit) (ok := fun _ => True) (wc := [(h0, .inr (7, [.ref h1, .int (n + 1), x2, x3])), (h1, .inl (cA, 1000, .inl (fX9_put f n (5 + (16 * p1)))))]) (wr := []) (w1 := fun _ => [(h0, .inr (7, [.ref h1, .int ((n + 1) + 1), x2, x3])), (h1, .inl (cA, 1000, .inl (fX9_put (fX9_put f n (5 + (16 * p1))) (n + 1) p2)))]) (ws2 := fun _ => [(h0, .inr (7, [.ref h1, .int ((n + 1) + 1), x2, x3])), (h1, .inl (cA, 1000, .inl (fX9_put (fX9_put f n (5 + (16 * p1))) (n + 1) p2)))]) (va_runV (As := [.int p2]) (rest := []) ⟨hx, hb, hml, hown, hts⟩ (kX9_append l D H.size h0 h1 cA x2 x3 (n + 1) (fX9_put f n (5 + (16 * p1))) p2 ) (cwV 1 hts gX9_range_X9_append rfl rfl rfl (by decide +kernel) ⟨Nat.le_of_ble_eq_true rfl, Nat.le_of_ble_eq_true rfl⟩) ⟨Pw_blind, (va_recv hKc hPc (ci := 7) (q0 := 0) rfl rfl), fun U hU hW => Pw_at hKc hPc hDc hN hU hW⟩ rfl rfl hl.1 rfl (lv_room (Nat.le_of_ble_eq_true rfl)) dX9_range_108 ⟨Nat.le_of_ble_eq_true rfl, Nat.le_of_ble_eq_true rfl⟩) hP hD hS hA [0, 1] [] [0, 1] rfl rfl (by decide) (by decide) (fun _ => rfl) (by decide) (fun _ _ H locs hP hD hS => ?_)
                    have hP : va_P D vwCl [(h0, .inr (7, [.ref h1, .int ((n + 1) + 1), x2, x3])), (h1, .inl (cA, 1000, .inl (fX9_put (fX9_put f n (5 + (16 * p1))) (n + 1) p2)))] H := hP
                    have hD : va_D A [(h0, .inr (7, [.ref h1, .int ((n + 1) + 1), x2, x3])), (h1, .inl (cA, 1000, .inl (fX9_put (fX9_put f n (5 + (16 * p1))) (n + 1) p2)))] := hD
                    refine lv_aload_n hx hb dX9_range_111 rfl (lv_at hl 0 rfl) ?_
                    refine lv_iload_n hx hb dX9_range_112 rfl (lv_at hl 3 rfl) ?_
                    have hPc := hP.sub (ws' := [(h0, .inr (7, [.ref h1, .int ((n + 1) + 1), x2, x3])), (h1, .inl (cA, 1000, .inl (fX9_put (fX9_put f n (5 + (16 * p1))) (n + 1) p2)))]) [0, 1] rfl
                    have hDc := hD.sub (ws' := [(h0, .inr (7, [.ref h1, .int ((n + 1) + 1), x2, x3])), (h1, .inl (cA, 1000, .inl (fX9_put (fX9_put f n (5 + (16 * p1))) (n + 1) p2)))]) [0, 1] (by decide) rfl
                    have hKc := hK.sub (tys' := [(cA, .int)]) [0] rfl
                    refine wk_v (β := Unit) (ok := fun _ => True) (wc := [(h0, .inr (7, [.ref h1, .int ((n + 1) + 1), x2, x3])), (h1, .inl (cA, 1000, .inl (fX9_put (fX9_put f n (5 + (16 * p1))) (n + 1) p2)))]) (wr := []) (w1 := fun _ => [(h0, .inr (7, [.ref h1, .int (((n + 1) + 1) + 1), x2, x3])), (h1, .inl (cA, 1000, .inl (fX9_put (fX9_put (fX9_put f n (5 + (16 * p1))) (n + 1) p2) ((n + 1) + 1) p3)))]) (ws2 := fun _ => [(h0, .inr (7, [.ref h1, .int (((n + 1) + 1) + 1), x2, x3])), (h1, .inl (cA, 1000, .inl (fX9_put (fX9_put (fX9_put f n (5 + (16 * p1))) (n + 1) p2) ((n + 1) + 1) p3)))]) (va_runV (As := [.int p3]) (rest := []) ⟨hx, hb, hml, hown, hts⟩ (kX9_append l D H.size h0 h1 cA x2 x3 ((n + 1) + 1) (fX9_put (fX9_put f n (5 + (16 * p1))) (n + 1) p2) p3 ) (cwV 1 hts gX9_range_X9_append rfl rfl rfl (by decide +kernel) ⟨Nat.le_of_ble_eq_true rfl, Nat.le_of_ble_eq_true rfl⟩) ⟨Pw_blind, (va_recv hKc hPc (ci := 7) (q0 := 0) rfl rfl), fun U hU hW => Pw_at hKc hPc hDc hN hU hW⟩ rfl rfl hl.1 rfl (lv_room (Nat.le_of_ble_eq_true rfl)) dX9_range_113 ⟨Nat.le_of_ble_eq_true rfl, Nat.le_of_ble_eq_true rfl⟩) hP hD hS hA [0, 1] [] [0, 1] rfl rfl (by decide) (by decide) (fun _ => rfl) (by decide) (fun _ _ H locs hP hD hS => ?_)
                    have hP : va_P D vwCl [(h0, .inr (7, [.ref h1, .int (((n + 1) + 1) + 1), x2, x3])), (h1, .inl (cA, 1000, .inl (fX9_put (fX9_put (fX9_put f n (5 + (16 * p1))) (n + 1) p2) ((n + 1) + 1) p3)))] H := hP
                    have hD : va_D A [(h0, .inr (7, [.ref h1, .int (((n + 1) + 1) + 1), x2, x3])), (h1, .inl (cA, 1000, .inl (fX9_put (fX9_put (fX9_put f n (5 + (16 * p1))) (n + 1) p2) ((n + 1) + 1) p3)))] := hD
                    refine lv_aload_n hx hb dX9_range_116 rfl (lv_at hl 0 rfl) ?_
                    refine lv_iload hx hb dX9_range_117 (lv_at hl 4 rfl) ?_
                    have hPc := hP.sub (ws' := [(h0, .inr (7, [.ref h1, .int (((n + 1) + 1) + 1), x2, x3])), (h1, .inl (cA, 1000, .inl (fX9_put (fX9_put (fX9_put f n (5 + (16 * p1))) (n + 1) p2) ((n + 1) + 1) p3)))]) [0, 1] rfl
                    have hDc := hD.sub (ws' := [(h0, .inr (7, [.ref h1, .int (((n + 1) + 1) + 1), x2, x3])), (h1, .inl (cA, 1000, .inl (fX9_put (fX9_put (fX9_put f n (5 + (16 * p1))) (n + 1) p2) ((n + 1) + 1) p3)))]) [0, 1] (by decide) rfl
                    have hKc := hK.sub (tys' := [(cA, .int)]) [0] rfl
                    refine wk_v (β := Unit) (ok := fun _ => True) (wc := [(h0, .inr (7, [.ref h1, .int (((n + 1) + 1) + 1), x2, x3])), (h1, .inl (cA, 1000, .inl (fX9_put (fX9_put (fX9_put f n (5 + (16 * p1))) (n + 1) p2) ((n + 1) + 1) p3)))]) (wr := []) (w1 := fun _ => [(h0, .inr (7, [.ref h1, .int ((((n + 1) + 1) + 1) + 1), x2, x3])), (h1, .inl (cA, 1000, .inl (fX9_put (fX9_put (fX9_put (fX9_put f n (5 + (16 * p1))) (n + 1) p2) ((n + 1) + 1) p3) (((n + 1) + 1) + 1) p4)))]) (ws2 := fun _ => [(h0, .inr (7, [.ref h1, .int ((((n + 1) + 1) + 1) + 1), x2, x3])), (h1, .inl (cA, 1000, .inl (fX9_put (fX9_put (fX9_put (fX9_put f n (5 + (16 * p1))) (n + 1) p2) ((n + 1) + 1) p3) (((n + 1) + 1) + 1) p4)))]) (va_runV (As := [.int p4]) (rest := []) ⟨hx, hb, hml, hown, hts⟩ (kX9_append l D H.size h0 h1 cA x2 x3 (((n + 1) + 1) + 1) (fX9_put (fX9_put (fX9_put f n (5 + (16 * p1))) (n + 1) p2) ((n + 1) + 1) p3) p4 ) (cwV 1 hts gX9_range_X9_append rfl rfl rfl (by decide +kernel) ⟨Nat.le_of_ble_eq_true rfl, Nat.le_of_ble_eq_true rfl⟩) ⟨Pw_blind, (va_recv hKc hPc (ci := 7) (q0 := 0) rfl rfl), fun U hU hW => Pw_at hKc hPc hDc hN hU hW⟩ rfl rfl hl.1 rfl (lv_room (Nat.le_of_ble_eq_true rfl)) dX9_range_119 ⟨Nat.le_of_ble_eq_true rfl, Nat.le_of_ble_eq_true rfl⟩) hP hD hS hA [0, 1] [] [0, 1] rfl rfl (by decide) (by decide) (fun _ => rfl) (by decide) (fun _ _ H locs hP hD hS => ?_)
                    have hP : va_P D vwCl [(h0, .inr (7, [.ref h1, .int ((((n + 1) + 1) + 1) + 1), x2, x3])), (h1, .inl (cA, 1000, .inl (fX9_put (fX9_put (fX9_put (fX9_put f n (5 + (16 * p1))) (n + 1) p2) ((n + 1) + 1) p3) (((n + 1) + 1) + 1) p4)))] H := hP
                    have hD : va_D A [(h0, .inr (7, [.ref h1, .int ((((n + 1) + 1) + 1) + 1), x2, x3])), (h1, .inl (cA, 1000, .inl (fX9_put (fX9_put (fX9_put (fX9_put f n (5 + (16 * p1))) (n + 1) p2) ((n + 1) + 1) p3) (((n + 1) + 1) + 1) p4)))] := hD
                    refine lv_aload_n hx hb dX9_range_122 rfl (lv_at hl 0 rfl) ?_
                    refine lv_iload hx hb dX9_range_123 (lv_at hl 5 rfl) ?_
                    have hPc := hP.sub (ws' := [(h0, .inr (7, [.ref h1, .int ((((n + 1) + 1) + 1) + 1), x2, x3])), (h1, .inl (cA, 1000, .inl (fX9_put (fX9_put (fX9_put (fX9_put f n (5 + (16 * p1))) (n + 1) p2) ((n + 1) + 1) p3) (((n + 1) + 1) + 1) p4)))]) [0, 1] rfl
                    have hDc := hD.sub (ws' := [(h0, .inr (7, [.ref h1, .int ((((n + 1) + 1) + 1) + 1), x2, x3])), (h1, .inl (cA, 1000, .inl (fX9_put (fX9_put (fX9_put (fX9_put f n (5 + (16 * p1))) (n + 1) p2) ((n + 1) + 1) p3) (((n + 1) + 1) + 1) p4)))]) [0, 1] (by decide) rfl
                    have hKc := hK.sub (tys' := [(cA, .int)]) [0] rfl
                    refine wk_v (β := Unit) (ok := fun _ => True) (wc := [(h0, .inr (7, [.ref h1, .int ((((n + 1) + 1) + 1) + 1), x2, x3])), (h1, .inl (cA, 1000, .inl (fX9_put (fX9_put (fX9_put (fX9_put f n (5 + (16 * p1))) (n + 1) p2) ((n + 1) + 1) p3) (((n + 1) + 1) + 1) p4)))]) (wr := []) (w1 := fun _ => [(h0, .inr (7, [.ref h1, .int (((((n + 1) + 1) + 1) + 1) + 1), x2, x3])), (h1, .inl (cA, 1000, .inl (fX9_put (fX9_put (fX9_put (fX9_put (fX9_put f n (5 + (16 * p1))) (n + 1) p2) ((n + 1) + 1) p3) (((n + 1) + 1) + 1) p4) ((((n + 1) + 1) + 1) + 1) p5)))]) (ws2 := fun _ => [(h0, .inr (7, [.ref h1, .int (((((n + 1) + 1) + 1) + 1) + 1), x2, x3])), (h1, .inl (cA, 1000, .inl (fX9_put (fX9_put (fX9_put (fX9_put (fX9_put f n (5 + (16 * p1))) (n + 1) p2) ((n + 1) + 1) p3) (((n + 1) + 1) + 1) p4) ((((n + 1) + 1) + 1) + 1) p5)))]) (va_runV (As := [.int p5]) (rest := []) ⟨hx, hb, hml, hown, hts⟩ (kX9_append l D H.size h0 h1 cA x2 x3 ((((n + 1) + 1) + 1) + 1) (fX9_put (fX9_put (fX9_put (fX9_put f n (5 + (16 * p1))) (n + 1) p2) ((n + 1) + 1) p3) (((n + 1) + 1) + 1) p4) p5 ) (cwV 1 hts gX9_range_X9_append rfl rfl rfl (by decide +kernel) ⟨Nat.le_of_ble_eq_true rfl, Nat.le_of_ble_eq_true rfl⟩) ⟨Pw_blind, (va_recv hKc hPc (ci := 7) (q0 := 0) rfl rfl), fun U hU hW => Pw_at hKc hPc hDc hN hU hW⟩ rfl rfl hl.1 rfl (lv_room (Nat.le_of_ble_eq_true rfl)) dX9_range_125 ⟨Nat.le_of_ble_eq_true rfl, Nat.le_of_ble_eq_true rfl⟩) hP hD hS hA [0, 1] [] [0, 1] rfl rfl (by decide) (by decide) (fun _ => rfl) (by decide) (fun _ _ H locs hP hD hS => ?_)
                    have hP : va_P D vwCl [(h0, .inr (7, [.ref h1, .int (((((n + 1) + 1) + 1) + 1) + 1), x2, x3])), (h1, .inl (cA, 1000, .inl (fX9_put (fX9_put (fX9_put (fX9_put (fX9_put f n (5 + (16 * p1))) (n + 1) p2) ((n + 1) + 1) p3) (((n + 1) + 1) + 1) p4) ((((n + 1) + 1) + 1) + 1) p5)))] H := hP
                    have hD : va_D A [(h0, .inr (7, [.ref h1, .int (((((n + 1) + 1) + 1) + 1) + 1), x2, x3])), (h1, .inl (cA, 1000, .inl (fX9_put (fX9_put (fX9_put (fX9_put (fX9_put f n (5 + (16 * p1))) (n + 1) p2) ((n + 1) + 1) p3) (((n + 1) + 1) + 1) p4) ((((n + 1) + 1) + 1) + 1) p5)))] := hD
                    refine lv_aload_n hx hb dX9_range_128 rfl (lv_at hl 0 rfl) ?_
                    refine lv_iload hx hb dX9_range_129 (lv_at hl 6 rfl) ?_
                    have hPc := hP.sub (ws' := [(h0, .inr (7, [.ref h1, .int (((((n + 1) + 1) + 1) + 1) + 1), x2, x3])), (h1, .inl (cA, 1000, .inl (fX9_put (fX9_put (fX9_put (fX9_put (fX9_put f n (5 + (16 * p1))) (n + 1) p2) ((n + 1) + 1) p3) (((n + 1) + 1) + 1) p4) ((((n + 1) + 1) + 1) + 1) p5)))]) [0, 1] rfl
                    have hDc := hD.sub (ws' := [(h0, .inr (7, [.ref h1, .int (((((n + 1) + 1) + 1) + 1) + 1), x2, x3])), (h1, .inl (cA, 1000, .inl (fX9_put (fX9_put (fX9_put (fX9_put (fX9_put f n (5 + (16 * p1))) (n + 1) p2) ((n + 1) + 1) p3) (((n + 1) + 1) + 1) p4) ((((n + 1) + 1) + 1) + 1) p5)))]) [0, 1] (by decide) rfl
                    have hKc := hK.sub (tys' := [(cA, .int)]) [0] rfl
                    refine wk_v (β := Unit) (ok := fun _ => True) (wc := [(h0, .inr (7, [.ref h1, .int (((((n + 1) + 1) + 1) + 1) + 1), x2, x3])), (h1, .inl (cA, 1000, .inl (fX9_put (fX9_put (fX9_put (fX9_put (fX9_put f n (5 + (16 * p1))) (n + 1) p2) ((n + 1) + 1) p3) (((n + 1) + 1) + 1) p4) ((((n + 1) + 1) + 1) + 1) p5)))]) (wr := []) (w1 := fun _ => [(h0, .inr (7, [.ref h1, .int ((((((n + 1) + 1) + 1) + 1) + 1) + 1), x2, x3])), (h1, .inl (cA, 1000, .inl (fX9_put (fX9_put (fX9_put (fX9_put (fX9_put (fX9_put f n (5 + (16 * p1))) (n + 1) p2) ((n + 1) + 1) p3) (((n + 1) + 1) + 1) p4) ((((n + 1) + 1) + 1) + 1) p5) (((((n + 1) + 1) + 1) + 1) + 1) p6)))]) (ws2 := fun _ => [(h0, .inr (7, [.ref h1, .int ((((((n + 1) + 1) + 1) + 1) + 1) + 1), x2, x3])), (h1, .inl (cA, 1000, .inl (fX9_put (fX9_put (fX9_put (fX9_put (fX9_put (fX9_put f n (5 + (16 * p1))) (n + 1) p2) ((n + 1) + 1) p3) (((n + 1) + 1) + 1) p4) ((((n + 1) + 1) + 1) + 1) p5) (((((n + 1) + 1) + 1) + 1) + 1) p6)))]) (va_runV (As := [.int p6]) (rest := []) ⟨hx, hb, hml, hown, hts⟩ (kX9_append l D H.size h0 h1 cA x2 x3 (((((n + 1) + 1) + 1) + 1) + 1) (fX9_put (fX9_put (fX9_put (fX9_put (fX9_put f n (5 + (16 * p1))) (n + 1) p2) ((n + 1) + 1) p3) (((n + 1) + 1) + 1) p4) ((((n + 1) + 1) + 1) + 1) p5) p6 ) (cwV 1 hts gX9_range_X9_append rfl rfl rfl (by decide +kernel) ⟨Nat.le_of_ble_eq_true rfl, Nat.le_of_ble_eq_true rfl⟩) ⟨Pw_blind, (va_recv hKc hPc (ci := 7) (q0 := 0) rfl rfl), fun U hU hW => Pw_at hKc hPc hDc hN hU hW⟩ rfl rfl hl.1 rfl (lv_room (Nat.le_of_ble_eq_true rfl)) dX9_range_131 ⟨Nat.le_of_ble_eq_true rfl, Nat.le_of_ble_eq_true rfl⟩) hP hD hS hA [0, 1] [] [0, 1] rfl rfl (by decide) (by decide) (fun _ => rfl) (by decide) (fun _ _ H locs hP hD hS => ?_)
                    have hP : va_P D vwCl [(h0, .inr (7, [.ref h1, .int ((((((n + 1) + 1) + 1) + 1) + 1) + 1), x2, x3])), (h1, .inl (cA, 1000, .inl (fX9_put (fX9_put (fX9_put (fX9_put (fX9_put (fX9_put f n (5 + (16 * p1))) (n + 1) p2) ((n + 1) + 1) p3) (((n + 1) + 1) + 1) p4) ((((n + 1) + 1) + 1) + 1) p5) (((((n + 1) + 1) + 1) + 1) + 1) p6)))] H := hP
                    have hD : va_D A [(h0, .inr (7, [.ref h1, .int ((((((n + 1) + 1) + 1) + 1) + 1) + 1), x2, x3])), (h1, .inl (cA, 1000, .inl (fX9_put (fX9_put (fX9_put (fX9_put (fX9_put (fX9_put f n (5 + (16 * p1))) (n + 1) p2) ((n + 1) + 1) p3) (((n + 1) + 1) + 1) p4) ((((n + 1) + 1) + 1) + 1) p5) (((((n + 1) + 1) + 1) + 1) + 1) p6)))] := hD
                    refine lv_iconst (v := 1) hx hb dX9_range_134 (by decide) ?_
                    have hF : (fX9_range n f p1 p2 p3 p4 p5 p6) = (1, ((((((n + 1) + 1) + 1) + 1) + 1) + 1), (fX9_put (fX9_put (fX9_put (fX9_put (fX9_put (fX9_put f n (5 + (16 * p1))) (n + 1) p2) ((n + 1) + 1) p3) (((n + 1) + 1) + 1) p4) ((((n + 1) + 1) + 1) + 1) p5) (((((n + 1) + 1) + 1) + 1) + 1) p6)) := by exact ((if_neg c1).trans ((if_neg c7).trans ((if_neg c14).trans ((if_neg c25).trans ((if_neg c38).trans ((if_neg c47).trans ((if_pos c58).trans ((if_neg c78).trans (if_neg c91)))))))))
                    subst hAe
                    subst hQe
                    exact W.zret (v := 1) hx hb hr rfl (fun t ht hW => ⟨⟨_, _, rfl, ⟨(), trivial, by rw [hF], by rw [hF]⟩, by rw [ht]; exact hP, hD⟩, hS.F ht⟩) hS.2.2 dX9_range_135
                  · refine lv_iconst (v := 0) hx hb dX9_range_94 (by decide) ?_
                    have hF : (fX9_range n f p1 p2 p3 p4 p5 p6) = (0, n, f) := by exact ((if_neg c1).trans ((if_neg c7).trans ((if_neg c14).trans ((if_neg c25).trans ((if_neg c38).trans ((if_neg c47).trans ((if_pos c58).trans ((if_neg c78).trans (if_pos c91)))))))))
                    subst hAe
                    subst hQe
                    exact W.zret (v := 0) hx hb hr rfl (fun t ht hW => ⟨⟨_, _, rfl, ⟨(), trivial, by rw [hF], by rw [hF]⟩, by rw [ht]; exact hP, hD⟩, hS.F ht⟩) hS.2.2 dX9_range_95
              · refine lv_iload_n hx hb dX9_range_61 rfl (lv_at hl 3 rfl) ?_
                refine lv_iload hx hb dX9_range_62 (lv_at hl 5 rfl) ?_
                refine lv_ldc (v := 1048576) hx hb hown k_48 dX9_range_64 ?_
                have hPc := hP.sub (ws' := []) [] rfl
                have hDc := hD.sub (ws' := []) [] (by decide) rfl
                have hKc := hK.sub (tys' := []) [] rfl
                refine rd_i (va_runS (As := [.int p3, .int p5, .int 1048576]) (rest := []) ⟨hx, hb, hml, hown, hts⟩ (kX9_areAllLines l D H.size p3 p5 1048576 ) (va_cwS 3 hts gX9_range_X9_areAllLines rfl rfl rfl (by decide +kernel) ⟨Nat.le_of_ble_eq_true rfl, Nat.le_of_ble_eq_true rfl⟩) ⟨Pw_blind, fun U hU hW => Pw_at hKc hPc hDc hN hU hW⟩ rfl rfl hl.1 rfl (lv_room (Nat.le_of_ble_eq_true rfl)) dX9_range_66 ⟨Nat.le_of_ble_eq_true rfl, Nat.le_of_ble_eq_true rfl⟩) ?_
                refine lv_if_eq (tgt := 94) hx hb dX9_range_69 (by decide) (fun c69 => ?_) (fun c69 => ?_)
                · refine lv_iconst (v := 0) hx hb dX9_range_94 (by decide) ?_
                  have hF : (fX9_range n f p1 p2 p3 p4 p5 p6) = (0, n, f) := by exact ((if_neg c1).trans ((if_neg c7).trans ((if_neg c14).trans ((if_neg c25).trans ((if_neg c38).trans ((if_neg c47).trans ((if_neg c58).trans (if_pos c69))))))))
                  subst hAe
                  subst hQe
                  exact W.zret (v := 0) hx hb hr rfl (fun t ht hW => ⟨⟨_, _, rfl, ⟨(), trivial, by rw [hF], by rw [hF]⟩, by rw [ht]; exact hP, hD⟩, hS.F ht⟩) hS.2.2 dX9_range_95
                · refine lv_iload_n hx hb dX9_range_72 rfl (lv_at hl 1 rfl) ?_
                  refine lv_bipush (v := 32) hx hb dX9_range_73 (by decide) ?_
                  have hPc := hP.sub (ws' := []) [] rfl
                  have hDc := hD.sub (ws' := []) [] (by decide) rfl
                  have hKc := hK.sub (tys' := []) [] rfl
                  refine rd_i (va_runS (As := [.int p1, .int 32]) (rest := []) ⟨hx, hb, hml, hown, hts⟩ (kX9_has l D H.size p1 32 ) (va_cwS 2 hts gX9_range_X9_has rfl rfl rfl (by decide +kernel) ⟨Nat.le_of_ble_eq_true rfl, Nat.le_of_ble_eq_true rfl⟩) ⟨Pw_blind, fun U hU hW => Pw_at hKc hPc hDc hN hU hW⟩ rfl rfl hl.1 rfl (lv_room (Nat.le_of_ble_eq_true rfl)) dX9_range_75 ⟨Nat.le_of_ble_eq_true rfl, Nat.le_of_ble_eq_true rfl⟩) ?_
                  refine lv_if_eq (tgt := 96) hx hb dX9_range_78 (by decide) (fun c78 => ?_) (fun c78 => ?_)
                  · refine lv_aload_n hx hb dX9_range_96 rfl (lv_at hl 0 rfl) ?_
                    refine lv_iconst (v := 5) hx hb dX9_range_97 (by decide) ?_
                    refine lv_bipush (v := 16) hx hb dX9_range_98 (by decide) ?_
                    refine lv_iload_n hx hb dX9_range_100 rfl (lv_at hl 1 rfl) ?_
                    refine lv_imul hx hb dX9_range_101 ?_
                    refine lv_iadd hx hb dX9_range_102 ?_
                    have hPc := hP.sub (ws' := [(h0, .inr (7, [.ref h1, .int n, x2, x3])), (h1, .inl (cA, 1000, .inl f))]) [0, 1] rfl
                    have hDc := hD.sub (ws' := [(h0, .inr (7, [.ref h1, .int n, x2, x3])), (h1, .inl (cA, 1000, .inl f))]) [0, 1] (by decide) rfl
                    have hKc := hK.sub (tys' := [(cA, .int)]) [0] rfl
                    refine wk_v (β := Unit) (ok := fun _ => True) (wc := [(h0, .inr (7, [.ref h1, .int n, x2, x3])), (h1, .inl (cA, 1000, .inl f))]) (wr := []) (w1 := fun _ => [(h0, .inr (7, [.ref h1, .int (n + 1), x2, x3])), (h1, .inl (cA, 1000, .inl (fX9_put f n (5 + (16 * p1)))))]) (ws2 := fun _ => [(h0, .inr (7, [.ref h1, .int (n + 1), x2, x3])), (h1, .inl (cA, 1000, .inl (fX9_put f n (5 + (16 * p1)))))]) (va_runV (As := [.int (5 + (16 * p1))]) (rest := []) ⟨hx, hb, hml, hown, hts⟩ (kX9_append l D H.size h0 h1 cA x2 x3 n f (5 + (16 * p1)) ) (cwV 1 hts gX9_range_X9_append rfl rfl rfl (by decide +kernel) ⟨Nat.le_of_ble_eq_true rfl, Nat.le_of_ble_eq_true rfl⟩) ⟨Pw_blind, (va_recv hKc hPc (ci := 7) (q0 := 0) rfl rfl), fun U hU hW => Pw_at hKc hPc hDc hN hU hW⟩ rfl rfl hl.1 rfl (lv_room (Nat.le_of_ble_eq_true rfl)) dX9_range_103 ⟨Nat.le_of_ble_eq_true rfl, Nat.le_of_ble_eq_true rfl⟩) hP hD hS hA [0, 1] [] [0, 1] rfl rfl (by decide) (by decide) (fun _ => rfl) (by decide) (fun _ _ H locs hP hD hS => ?_)
                    have hP : va_P D vwCl [(h0, .inr (7, [.ref h1, .int (n + 1), x2, x3])), (h1, .inl (cA, 1000, .inl (fX9_put f n (5 + (16 * p1)))))] H := hP
                    have hD : va_D A [(h0, .inr (7, [.ref h1, .int (n + 1), x2, x3])), (h1, .inl (cA, 1000, .inl (fX9_put f n (5 + (16 * p1)))))] := hD
                    refine lv_aload_n hx hb dX9_range_106 rfl (lv_at hl 0 rfl) ?_
                    refine lv_iload_n hx hb dX9_range_107 rfl (lv_at hl 2 rfl) ?_
                    have hPc := hP.sub (ws' := [(h0, .inr (7, [.ref h1, .int (n + 1), x2, x3])), (h1, .inl (cA, 1000, .inl (fX9_put f n (5 + (16 * p1)))))]) [0, 1] rfl
                    have hDc := hD.sub (ws' := [(h0, .inr (7, [.ref h1, .int (n + 1), x2, x3])), (h1, .inl (cA, 1000, .inl (fX9_put f n (5 + (16 * p1)))))]) [0, 1] (by decide) rfl
                    have hKc := hK.sub (tys' := [(cA, .int)]) [0] rfl
                    refine wk_v (β := Unit) (ok := fun _ => True) (wc := [(h0, .inr (7, [.ref h1, .int (n + 1), x2, x3])), (h1, .inl (cA, 1000, .inl (fX9_put f n (5 + (16 * p1)))))]) (wr := []) (w1 := fun _ => [(h0, .inr (7, [.ref h1, .int ((n + 1) + 1), x2, x3])), (h1, .inl (cA, 1000, .inl (fX9_put (fX9_put f n (5 + (16 * p1))) (n + 1) p2)))]) (ws2 := fun _ => [(h0, .inr (7, [.ref h1, .int ((n + 1) + 1), x2, x3])), (h1, .inl (cA, 1000, .inl (fX9_put (fX9_put f n (5 + (16 * p1))) (n + 1) p2)))]) (va_runV (As := [.int p2]) (rest := []) ⟨hx, hb, hml, hown, hts⟩ (kX9_append l D H.size h0 h1 cA x2 x3 (n + 1) (fX9_put f n (5 + (16 * p1))) p2 ) (cwV 1 hts gX9_range_X9_append rfl rfl rfl (by decide +kernel) ⟨Nat.le_of_ble_eq_true rfl, Nat.le_of_ble_eq_true rfl⟩) ⟨Pw_blind, (va_recv hKc hPc (ci := 7) (q0 := 0) rfl rfl), fun U hU hW => Pw_at hKc hPc hDc hN hU hW⟩ rfl rfl hl.1 rfl (lv_room (Nat.le_of_ble_eq_true rfl)) dX9_range_108 ⟨Nat.le_of_ble_eq_true rfl, Nat.le_of_ble_eq_true rfl⟩) hP hD hS hA [0, 1] [] [0, 1] rfl rfl (by decide) (by decide) (fun _ => rfl) (by decide) (fun _ _ H locs hP hD hS => ?_)
                    have hP : va_P D vwCl [(h0, .inr (7, [.ref h1, .int ((n + 1) + 1), x2, x3])), (h1, .inl (cA, 1000, .inl (fX9_put (fX9_put f n (5 + (16 * p1))) (n + 1) p2)))] H := hP
                    have hD : va_D A [(h0, .inr (7, [.ref h1, .int ((n + 1) + 1), x2, x3])), (h1, .inl (cA, 1000, .inl (fX9_put (fX9_put f n (5 + (16 * p1))) (n + 1) p2)))] := hD
                    refine lv_aload_n hx hb dX9_range_111 rfl (lv_at hl 0 rfl) ?_
                    refine lv_iload_n hx hb dX9_range_112 rfl (lv_at hl 3 rfl) ?_
                    have hPc := hP.sub (ws' := [(h0, .inr (7, [.ref h1, .int ((n + 1) + 1), x2, x3])), (h1, .inl (cA, 1000, .inl (fX9_put (fX9_put f n (5 + (16 * p1))) (n + 1) p2)))]) [0, 1] rfl
                    have hDc := hD.sub (ws' := [(h0, .inr (7, [.ref h1, .int ((n + 1) + 1), x2, x3])), (h1, .inl (cA, 1000, .inl (fX9_put (fX9_put f n (5 + (16 * p1))) (n + 1) p2)))]) [0, 1] (by decide) rfl
                    have hKc := hK.sub (tys' := [(cA, .int)]) [0] rfl
                    refine wk_v (β := Unit) (ok := fun _ => True) (wc := [(h0, .inr (7, [.ref h1, .int ((n + 1) + 1), x2, x3])), (h1, .inl (cA, 1000, .inl (fX9_put (fX9_put f n (5 + (16 * p1))) (n + 1) p2)))]) (wr := []) (w1 := fun _ => [(h0, .inr (7, [.ref h1, .int (((n + 1) + 1) + 1), x2, x3])), (h1, .inl (cA, 1000, .inl (fX9_put (fX9_put (fX9_put f n (5 + (16 * p1))) (n + 1) p2) ((n + 1) + 1) p3)))]) (ws2 := fun _ => [(h0, .inr (7, [.ref h1, .int (((n + 1) + 1) + 1), x2, x3])), (h1, .inl (cA, 1000, .inl (fX9_put (fX9_put (fX9_put f n (5 + (16 * p1))) (n + 1) p2) ((n + 1) + 1) p3)))]) (va_runV (As := [.int p3]) (rest := []) ⟨hx, hb, hml, hown, hts⟩ (kX9_append l D H.size h0 h1 cA x2 x3 ((n + 1) + 1) (fX9_put (fX9_put f n (5 + (16 * p1))) (n + 1) p2) p3 ) (cwV 1 hts gX9_range_X9_append rfl rfl rfl (by decide +kernel) ⟨Nat.le_of_ble_eq_true rfl, Nat.le_of_ble_eq_true rfl⟩) ⟨Pw_blind, (va_recv hKc hPc (ci := 7) (q0 := 0) rfl rfl), fun U hU hW => Pw_at hKc hPc hDc hN hU hW⟩ rfl rfl hl.1 rfl (lv_room (Nat.le_of_ble_eq_true rfl)) dX9_range_113 ⟨Nat.le_of_ble_eq_true rfl, Nat.le_of_ble_eq_true rfl⟩) hP hD hS hA [0, 1] [] [0, 1] rfl rfl (by decide) (by decide) (fun _ => rfl) (by decide) (fun _ _ H locs hP hD hS => ?_)
                    have hP : va_P D vwCl [(h0, .inr (7, [.ref h1, .int (((n + 1) + 1) + 1), x2, x3])), (h1, .inl (cA, 1000, .inl (fX9_put (fX9_put (fX9_put f n (5 + (16 * p1))) (n + 1) p2) ((n + 1) + 1) p3)))] H := hP
                    have hD : va_D A [(h0, .inr (7, [.ref h1, .int (((n + 1) + 1) + 1), x2, x3])), (h1, .inl (cA, 1000, .inl (fX9_put (fX9_put (fX9_put f n (5 + (16 * p1))) (n + 1) p2) ((n + 1) + 1) p3)))] := hD
                    refine lv_aload_n hx hb dX9_range_116 rfl (lv_at hl 0 rfl) ?_
                    refine lv_iload hx hb dX9_range_117 (lv_at hl 4 rfl) ?_
                    have hPc := hP.sub (ws' := [(h0, .inr (7, [.ref h1, .int (((n + 1) + 1) + 1), x2, x3])), (h1, .inl (cA, 1000, .inl (fX9_put (fX9_put (fX9_put f n (5 + (16 * p1))) (n + 1) p2) ((n + 1) + 1) p3)))]) [0, 1] rfl
                    have hDc := hD.sub (ws' := [(h0, .inr (7, [.ref h1, .int (((n + 1) + 1) + 1), x2, x3])), (h1, .inl (cA, 1000, .inl (fX9_put (fX9_put (fX9_put f n (5 + (16 * p1))) (n + 1) p2) ((n + 1) + 1) p3)))]) [0, 1] (by decide) rfl
                    have hKc := hK.sub (tys' := [(cA, .int)]) [0] rfl
                    refine wk_v (β := Unit) (ok := fun _ => True) (wc := [(h0, .inr (7, [.ref h1, .int (((n + 1) + 1) + 1), x2, x3])), (h1, .inl (cA, 1000, .inl (fX9_put (fX9_put (fX9_put f n (5 + (16 * p1))) (n + 1) p2) ((n + 1) + 1) p3)))]) (wr := []) (w1 := fun _ => [(h0, .inr (7, [.ref h1, .int ((((n + 1) + 1) + 1) + 1), x2, x3])), (h1, .inl (cA, 1000, .inl (fX9_put (fX9_put (fX9_put (fX9_put f n (5 + (16 * p1))) (n + 1) p2) ((n + 1) + 1) p3) (((n + 1) + 1) + 1) p4)))]) (ws2 := fun _ => [(h0, .inr (7, [.ref h1, .int ((((n + 1) + 1) + 1) + 1), x2, x3])), (h1, .inl (cA, 1000, .inl (fX9_put (fX9_put (fX9_put (fX9_put f n (5 + (16 * p1))) (n + 1) p2) ((n + 1) + 1) p3) (((n + 1) + 1) + 1) p4)))]) (va_runV (As := [.int p4]) (rest := []) ⟨hx, hb, hml, hown, hts⟩ (kX9_append l D H.size h0 h1 cA x2 x3 (((n + 1) + 1) + 1) (fX9_put (fX9_put (fX9_put f n (5 + (16 * p1))) (n + 1) p2) ((n + 1) + 1) p3) p4 ) (cwV 1 hts gX9_range_X9_append rfl rfl rfl (by decide +kernel) ⟨Nat.le_of_ble_eq_true rfl, Nat.le_of_ble_eq_true rfl⟩) ⟨Pw_blind, (va_recv hKc hPc (ci := 7) (q0 := 0) rfl rfl), fun U hU hW => Pw_at hKc hPc hDc hN hU hW⟩ rfl rfl hl.1 rfl (lv_room (Nat.le_of_ble_eq_true rfl)) dX9_range_119 ⟨Nat.le_of_ble_eq_true rfl, Nat.le_of_ble_eq_true rfl⟩) hP hD hS hA [0, 1] [] [0, 1] rfl rfl (by decide) (by decide) (fun _ => rfl) (by decide) (fun _ _ H locs hP hD hS => ?_)
                    have hP : va_P D vwCl [(h0, .inr (7, [.ref h1, .int ((((n + 1) + 1) + 1) + 1), x2, x3])), (h1, .inl (cA, 1000, .inl (fX9_put (fX9_put (fX9_put (fX9_put f n (5 + (16 * p1))) (n + 1) p2) ((n + 1) + 1) p3) (((n + 1) + 1) + 1) p4)))] H := hP
                    have hD : va_D A [(h0, .inr (7, [.ref h1, .int ((((n + 1) + 1) + 1) + 1), x2, x3])), (h1, .inl (cA, 1000, .inl (fX9_put (fX9_put (fX9_put (fX9_put f n (5 + (16 * p1))) (n + 1) p2) ((n + 1) + 1) p3) (((n + 1) + 1) + 1) p4)))] := hD
                    refine lv_aload_n hx hb dX9_range_122 rfl (lv_at hl 0 rfl) ?_
                    refine lv_iload hx hb dX9_range_123 (lv_at hl 5 rfl) ?_
                    have hPc := hP.sub (ws' := [(h0, .inr (7, [.ref h1, .int ((((n + 1) + 1) + 1) + 1), x2, x3])), (h1, .inl (cA, 1000, .inl (fX9_put (fX9_put (fX9_put (fX9_put f n (5 + (16 * p1))) (n + 1) p2) ((n + 1) + 1) p3) (((n + 1) + 1) + 1) p4)))]) [0, 1] rfl
                    have hDc := hD.sub (ws' := [(h0, .inr (7, [.ref h1, .int ((((n + 1) + 1) + 1) + 1), x2, x3])), (h1, .inl (cA, 1000, .inl (fX9_put (fX9_put (fX9_put (fX9_put f n (5 + (16 * p1))) (n + 1) p2) ((n + 1) + 1) p3) (((n + 1) + 1) + 1) p4)))]) [0, 1] (by decide) rfl
                    have hKc := hK.sub (tys' := [(cA, .int)]) [0] rfl
                    refine wk_v (β := Unit) (ok := fun _ => True) (wc := [(h0, .inr (7, [.ref h1, .int ((((n + 1) + 1) + 1) + 1), x2, x3])), (h1, .inl (cA, 1000, .inl (fX9_put (fX9_put (fX9_put (fX9_put f n (5 + (16 * p1))) (n + 1) p2) ((n + 1) + 1) p3) (((n + 1) + 1) + 1) p4)))]) (wr := []) (w1 := fun _ => [(h0, .inr (7, [.ref h1, .int (((((n + 1) + 1) + 1) + 1) + 1), x2, x3])), (h1, .inl (cA, 1000, .inl (fX9_put (fX9_put (fX9_put (fX9_put (fX9_put f n (5 + (16 * p1))) (n + 1) p2) ((n + 1) + 1) p3) (((n + 1) + 1) + 1) p4) ((((n + 1) + 1) + 1) + 1) p5)))]) (ws2 := fun _ => [(h0, .inr (7, [.ref h1, .int (((((n + 1) + 1) + 1) + 1) + 1), x2, x3])), (h1, .inl (cA, 1000, .inl (fX9_put (fX9_put (fX9_put (fX9_put (fX9_put f n (5 + (16 * p1))) (n + 1) p2) ((n + 1) + 1) p3) (((n + 1) + 1) + 1) p4) ((((n + 1) + 1) + 1) + 1) p5)))]) (va_runV (As := [.int p5]) (rest := []) ⟨hx, hb, hml, hown, hts⟩ (kX9_append l D H.size h0 h1 cA x2 x3 ((((n + 1) + 1) + 1) + 1) (fX9_put (fX9_put (fX9_put (fX9_put f n (5 + (16 * p1))) (n + 1) p2) ((n + 1) + 1) p3) (((n + 1) + 1) + 1) p4) p5 ) (cwV 1 hts gX9_range_X9_append rfl rfl rfl (by decide +kernel) ⟨Nat.le_of_ble_eq_true rfl, Nat.le_of_ble_eq_true rfl⟩) ⟨Pw_blind, (va_recv hKc hPc (ci := 7) (q0 := 0) rfl rfl), fun U hU hW => Pw_at hKc hPc hDc hN hU hW⟩ rfl rfl hl.1 rfl (lv_room (Nat.le_of_ble_eq_true rfl)) dX9_range_125 ⟨Nat.le_of_ble_eq_true rfl, Nat.le_of_ble_eq_true rfl⟩) hP hD hS hA [0, 1] [] [0, 1] rfl rfl (by decide) (by decide) (fun _ => rfl) (by decide) (fun _ _ H locs hP hD hS => ?_)
                    have hP : va_P D vwCl [(h0, .inr (7, [.ref h1, .int (((((n + 1) + 1) + 1) + 1) + 1), x2, x3])), (h1, .inl (cA, 1000, .inl (fX9_put (fX9_put (fX9_put (fX9_put (fX9_put f n (5 + (16 * p1))) (n + 1) p2) ((n + 1) + 1) p3) (((n + 1) + 1) + 1) p4) ((((n + 1) + 1) + 1) + 1) p5)))] H := hP
                    have hD : va_D A [(h0, .inr (7, [.ref h1, .int (((((n + 1) + 1) + 1) + 1) + 1), x2, x3])), (h1, .inl (cA, 1000, .inl (fX9_put (fX9_put (fX9_put (fX9_put (fX9_put f n (5 + (16 * p1))) (n + 1) p2) ((n + 1) + 1) p3) (((n + 1) + 1) + 1) p4) ((((n + 1) + 1) + 1) + 1) p5)))] := hD
                    refine lv_aload_n hx hb dX9_range_128 rfl (lv_at hl 0 rfl) ?_
                    refine lv_iload hx hb dX9_range_129 (lv_at hl 6 rfl) ?_
                    have hPc := hP.sub (ws' := [(h0, .inr (7, [.ref h1, .int (((((n + 1) + 1) + 1) + 1) + 1), x2, x3])), (h1, .inl (cA, 1000, .inl (fX9_put (fX9_put (fX9_put (fX9_put (fX9_put f n (5 + (16 * p1))) (n + 1) p2) ((n + 1) + 1) p3) (((n + 1) + 1) + 1) p4) ((((n + 1) + 1) + 1) + 1) p5)))]) [0, 1] rfl
                    have hDc := hD.sub (ws' := [(h0, .inr (7, [.ref h1, .int (((((n + 1) + 1) + 1) + 1) + 1), x2, x3])), (h1, .inl (cA, 1000, .inl (fX9_put (fX9_put (fX9_put (fX9_put (fX9_put f n (5 + (16 * p1))) (n + 1) p2) ((n + 1) + 1) p3) (((n + 1) + 1) + 1) p4) ((((n + 1) + 1) + 1) + 1) p5)))]) [0, 1] (by decide) rfl
                    have hKc := hK.sub (tys' := [(cA, .int)]) [0] rfl
                    refine wk_v (β := Unit) (ok := fun _ => True) (wc := [(h0, .inr (7, [.ref h1, .int (((((n + 1) + 1) + 1) + 1) + 1), x2, x3])), (h1, .inl (cA, 1000, .inl (fX9_put (fX9_put (fX9_put (fX9_put (fX9_put f n (5 + (16 * p1))) (n + 1) p2) ((n + 1) + 1) p3) (((n + 1) + 1) + 1) p4) ((((n + 1) + 1) + 1) + 1) p5)))]) (wr := []) (w1 := fun _ => [(h0, .inr (7, [.ref h1, .int ((((((n + 1) + 1) + 1) + 1) + 1) + 1), x2, x3])), (h1, .inl (cA, 1000, .inl (fX9_put (fX9_put (fX9_put (fX9_put (fX9_put (fX9_put f n (5 + (16 * p1))) (n + 1) p2) ((n + 1) + 1) p3) (((n + 1) + 1) + 1) p4) ((((n + 1) + 1) + 1) + 1) p5) (((((n + 1) + 1) + 1) + 1) + 1) p6)))]) (ws2 := fun _ => [(h0, .inr (7, [.ref h1, .int ((((((n + 1) + 1) + 1) + 1) + 1) + 1), x2, x3])), (h1, .inl (cA, 1000, .inl (fX9_put (fX9_put (fX9_put (fX9_put (fX9_put (fX9_put f n (5 + (16 * p1))) (n + 1) p2) ((n + 1) + 1) p3) (((n + 1) + 1) + 1) p4) ((((n + 1) + 1) + 1) + 1) p5) (((((n + 1) + 1) + 1) + 1) + 1) p6)))]) (va_runV (As := [.int p6]) (rest := []) ⟨hx, hb, hml, hown, hts⟩ (kX9_append l D H.size h0 h1 cA x2 x3 (((((n + 1) + 1) + 1) + 1) + 1) (fX9_put (fX9_put (fX9_put (fX9_put (fX9_put f n (5 + (16 * p1))) (n + 1) p2) ((n + 1) + 1) p3) (((n + 1) + 1) + 1) p4) ((((n + 1) + 1) + 1) + 1) p5) p6 ) (cwV 1 hts gX9_range_X9_append rfl rfl rfl (by decide +kernel) ⟨Nat.le_of_ble_eq_true rfl, Nat.le_of_ble_eq_true rfl⟩) ⟨Pw_blind, (va_recv hKc hPc (ci := 7) (q0 := 0) rfl rfl), fun U hU hW => Pw_at hKc hPc hDc hN hU hW⟩ rfl rfl hl.1 rfl (lv_room (Nat.le_of_ble_eq_true rfl)) dX9_range_131 ⟨Nat.le_of_ble_eq_true rfl, Nat.le_of_ble_eq_true rfl⟩) hP hD hS hA [0, 1] [] [0, 1] rfl rfl (by decide) (by decide) (fun _ => rfl) (by decide) (fun _ _ H locs hP hD hS => ?_)
                    have hP : va_P D vwCl [(h0, .inr (7, [.ref h1, .int ((((((n + 1) + 1) + 1) + 1) + 1) + 1), x2, x3])), (h1, .inl (cA, 1000, .inl (fX9_put (fX9_put (fX9_put (fX9_put (fX9_put (fX9_put f n (5 + (16 * p1))) (n + 1) p2) ((n + 1) + 1) p3) (((n + 1) + 1) + 1) p4) ((((n + 1) + 1) + 1) + 1) p5) (((((n + 1) + 1) + 1) + 1) + 1) p6)))] H := hP
                    have hD : va_D A [(h0, .inr (7, [.ref h1, .int ((((((n + 1) + 1) + 1) + 1) + 1) + 1), x2, x3])), (h1, .inl (cA, 1000, .inl (fX9_put (fX9_put (fX9_put (fX9_put (fX9_put (fX9_put f n (5 + (16 * p1))) (n + 1) p2) ((n + 1) + 1) p3) (((n + 1) + 1) + 1) p4) ((((n + 1) + 1) + 1) + 1) p5) (((((n + 1) + 1) + 1) + 1) + 1) p6)))] := hD
                    refine lv_iconst (v := 1) hx hb dX9_range_134 (by decide) ?_
                    have hF : (fX9_range n f p1 p2 p3 p4 p5 p6) = (1, ((((((n + 1) + 1) + 1) + 1) + 1) + 1), (fX9_put (fX9_put (fX9_put (fX9_put (fX9_put (fX9_put f n (5 + (16 * p1))) (n + 1) p2) ((n + 1) + 1) p3) (((n + 1) + 1) + 1) p4) ((((n + 1) + 1) + 1) + 1) p5) (((((n + 1) + 1) + 1) + 1) + 1) p6)) := by exact ((if_neg c1).trans ((if_neg c7).trans ((if_neg c14).trans ((if_neg c25).trans ((if_neg c38).trans ((if_neg c47).trans ((if_neg c58).trans ((if_neg c69).trans (if_pos c78)))))))))
                    subst hAe
                    subst hQe
                    exact W.zret (v := 1) hx hb hr rfl (fun t ht hW => ⟨⟨_, _, rfl, ⟨(), trivial, by rw [hF], by rw [hF]⟩, by rw [ht]; exact hP, hD⟩, hS.F ht⟩) hS.2.2 dX9_range_135
                  · refine lv_iload hx hb dX9_range_81 (lv_at hl 4 rfl) ?_
                    refine lv_iload hx hb dX9_range_83 (lv_at hl 6 rfl) ?_
                    refine lv_sipush (v := 16384) hx hb dX9_range_85 (by decide) ?_
                    have hPc := hP.sub (ws' := []) [] rfl
                    have hDc := hD.sub (ws' := []) [] (by decide) rfl
                    have hKc := hK.sub (tys' := []) [] rfl
                    refine rd_i (va_runS (As := [.int p4, .int p6, .int 16384]) (rest := []) ⟨hx, hb, hml, hown, hts⟩ (kX9_areAllLines l D H.size p4 p6 16384 ) (va_cwS 3 hts gX9_range_X9_areAllLines rfl rfl rfl (by decide +kernel) ⟨Nat.le_of_ble_eq_true rfl, Nat.le_of_ble_eq_true rfl⟩) ⟨Pw_blind, fun U hU hW => Pw_at hKc hPc hDc hN hU hW⟩ rfl rfl hl.1 rfl (lv_room (Nat.le_of_ble_eq_true rfl)) dX9_range_88 ⟨Nat.le_of_ble_eq_true rfl, Nat.le_of_ble_eq_true rfl⟩) ?_
                    refine lv_if_ne (tgt := 96) hx hb dX9_range_91 (by decide) (fun c91 => ?_) (fun c91 => ?_)
                    · refine lv_aload_n hx hb dX9_range_96 rfl (lv_at hl 0 rfl) ?_
                      refine lv_iconst (v := 5) hx hb dX9_range_97 (by decide) ?_
                      refine lv_bipush (v := 16) hx hb dX9_range_98 (by decide) ?_
                      refine lv_iload_n hx hb dX9_range_100 rfl (lv_at hl 1 rfl) ?_
                      refine lv_imul hx hb dX9_range_101 ?_
                      refine lv_iadd hx hb dX9_range_102 ?_
                      have hPc := hP.sub (ws' := [(h0, .inr (7, [.ref h1, .int n, x2, x3])), (h1, .inl (cA, 1000, .inl f))]) [0, 1] rfl
                      have hDc := hD.sub (ws' := [(h0, .inr (7, [.ref h1, .int n, x2, x3])), (h1, .inl (cA, 1000, .inl f))]) [0, 1] (by decide) rfl
                      have hKc := hK.sub (tys' := [(cA, .int)]) [0] rfl
                      refine wk_v (β := Unit) (ok := fun _ => True) (wc := [(h0, .inr (7, [.ref h1, .int n, x2, x3])), (h1, .inl (cA, 1000, .inl f))]) (wr := []) (w1 := fun _ => [(h0, .inr (7, [.ref h1, .int (n + 1), x2, x3])), (h1, .inl (cA, 1000, .inl (fX9_put f n (5 + (16 * p1)))))]) (ws2 := fun _ => [(h0, .inr (7, [.ref h1, .int (n + 1), x2, x3])), (h1, .inl (cA, 1000, .inl (fX9_put f n (5 + (16 * p1)))))]) (va_runV (As := [.int (5 + (16 * p1))]) (rest := []) ⟨hx, hb, hml, hown, hts⟩ (kX9_append l D H.size h0 h1 cA x2 x3 n f (5 + (16 * p1)) ) (cwV 1 hts gX9_range_X9_append rfl rfl rfl (by decide +kernel) ⟨Nat.le_of_ble_eq_true rfl, Nat.le_of_ble_eq_true rfl⟩) ⟨Pw_blind, (va_recv hKc hPc (ci := 7) (q0 := 0) rfl rfl), fun U hU hW => Pw_at hKc hPc hDc hN hU hW⟩ rfl rfl hl.1 rfl (lv_room (Nat.le_of_ble_eq_true rfl)) dX9_range_103 ⟨Nat.le_of_ble_eq_true rfl, Nat.le_of_ble_eq_true rfl⟩) hP hD hS hA [0, 1] [] [0, 1] rfl rfl (by decide) (by decide) (fun _ => rfl) (by decide) (fun _ _ H locs hP hD hS => ?_)
                      have hP : va_P D vwCl [(h0, .inr (7, [.ref h1, .int (n + 1), x2, x3])), (h1, .inl (cA, 1000, .inl (fX9_put f n (5 + (16 * p1)))))] H := hP
                      have hD : va_D A [(h0, .inr (7, [.ref h1, .int (n + 1), x2, x3])), (h1, .inl (cA, 1000, .inl (fX9_put f n (5 + (16 * p1)))))] := hD
                      refine lv_aload_n hx hb dX9_range_106 rfl (lv_at hl 0 rfl) ?_
                      refine lv_iload_n hx hb dX9_range_107 rfl (lv_at hl 2 rfl) ?_
                      have hPc := hP.sub (ws' := [(h0, .inr (7, [.ref h1, .int (n + 1), x2, x3])), (h1, .inl (cA, 1000, .inl (fX9_put f n (5 + (16 * p1)))))]) [0, 1] rfl
                      have hDc := hD.sub (ws' := [(h0, .inr (7, [.ref h1, .int (n + 1), x2, x3])), (h1, .inl (cA, 1000, .inl (fX9_put f n (5 + (16 * p1)))))]) [0, 1] (by decide) rfl
                      have hKc := hK.sub (tys' := [(cA, .int)]) [0] rfl
                      refine wk_v (β := Unit) (ok := fun _ => True) (wc := [(h0, .inr (7, [.ref h1, .int (n + 1), x2, x3])), (h1, .inl (cA, 1000, .inl (fX9_put f n (5 + (16 * p1)))))]) (wr := []) (w1 := fun _ => [(h0, .inr (7, [.ref h1, .int ((n + 1) + 1), x2, x3])), (h1, .inl (cA, 1000, .inl (fX9_put (fX9_put f n (5 + (16 * p1))) (n + 1) p2)))]) (ws2 := fun _ => [(h0, .inr (7, [.ref h1, .int ((n + 1) + 1), x2, x3])), (h1, .inl (cA, 1000, .inl (fX9_put (fX9_put f n (5 + (16 * p1))) (n + 1) p2)))]) (va_runV (As := [.int p2]) (rest := []) ⟨hx, hb, hml, hown, hts⟩ (kX9_append l D H.size h0 h1 cA x2 x3 (n + 1) (fX9_put f n (5 + (16 * p1))) p2 ) (cwV 1 hts gX9_range_X9_append rfl rfl rfl (by decide +kernel) ⟨Nat.le_of_ble_eq_true rfl, Nat.le_of_ble_eq_true rfl⟩) ⟨Pw_blind, (va_recv hKc hPc (ci := 7) (q0 := 0) rfl rfl), fun U hU hW => Pw_at hKc hPc hDc hN hU hW⟩ rfl rfl hl.1 rfl (lv_room (Nat.le_of_ble_eq_true rfl)) dX9_range_108 ⟨Nat.le_of_ble_eq_true rfl, Nat.le_of_ble_eq_true rfl⟩) hP hD hS hA [0, 1] [] [0, 1] rfl rfl (by decide) (by decide) (fun _ => rfl) (by decide) (fun _ _ H locs hP hD hS => ?_)
                      have hP : va_P D vwCl [(h0, .inr (7, [.ref h1, .int ((n + 1) + 1), x2, x3])), (h1, .inl (cA, 1000, .inl (fX9_put (fX9_put f n (5 + (16 * p1))) (n + 1) p2)))] H := hP
                      have hD : va_D A [(h0, .inr (7, [.ref h1, .int ((n + 1) + 1), x2, x3])), (h1, .inl (cA, 1000, .inl (fX9_put (fX9_put f n (5 + (16 * p1))) (n + 1) p2)))] := hD
                      refine lv_aload_n hx hb dX9_range_111 rfl (lv_at hl 0 rfl) ?_
                      refine lv_iload_n hx hb dX9_range_112 rfl (lv_at hl 3 rfl) ?_
                      have hPc := hP.sub (ws' := [(h0, .inr (7, [.ref h1, .int ((n + 1) + 1), x2, x3])), (h1, .inl (cA, 1000, .inl (fX9_put (fX9_put f n (5 + (16 * p1))) (n + 1) p2)))]) [0, 1] rfl
                      have hDc := hD.sub (ws' := [(h0, .inr (7, [.ref h1, .int ((n + 1) + 1), x2, x3])), (h1, .inl (cA, 1000, .inl (fX9_put (fX9_put f n (5 + (16 * p1))) (n + 1) p2)))]) [0, 1] (by decide) rfl
                      have hKc := hK.sub (tys' := [(cA, .int)]) [0] rfl
                      refine wk_v (β := Unit) (ok := fun _ => True) (wc := [(h0, .inr (7, [.ref h1, .int ((n + 1) + 1), x2, x3])), (h1, .inl (cA, 1000, .inl (fX9_put (fX9_put f n (5 + (16 * p1))) (n + 1) p2)))]) (wr := []) (w1 := fun _ => [(h0, .inr (7, [.ref h1, .int (((n + 1) + 1) + 1), x2, x3])), (h1, .inl (cA, 1000, .inl (fX9_put (fX9_put (fX9_put f n (5 + (16 * p1))) (n + 1) p2) ((n + 1) + 1) p3)))]) (ws2 := fun _ => [(h0, .inr (7, [.ref h1, .int (((n + 1) + 1) + 1), x2, x3])), (h1, .inl (cA, 1000, .inl (fX9_put (fX9_put (fX9_put f n (5 + (16 * p1))) (n + 1) p2) ((n + 1) + 1) p3)))]) (va_runV (As := [.int p3]) (rest := []) ⟨hx, hb, hml, hown, hts⟩ (kX9_append l D H.size h0 h1 cA x2 x3 ((n + 1) + 1) (fX9_put (fX9_put f n (5 + (16 * p1))) (n + 1) p2) p3 ) (cwV 1 hts gX9_range_X9_append rfl rfl rfl (by decide +kernel) ⟨Nat.le_of_ble_eq_true rfl, Nat.le_of_ble_eq_true rfl⟩) ⟨Pw_blind, (va_recv hKc hPc (ci := 7) (q0 := 0) rfl rfl), fun U hU hW => Pw_at hKc hPc hDc hN hU hW⟩ rfl rfl hl.1 rfl (lv_room (Nat.le_of_ble_eq_true rfl)) dX9_range_113 ⟨Nat.le_of_ble_eq_true rfl, Nat.le_of_ble_eq_true rfl⟩) hP hD hS hA [0, 1] [] [0, 1] rfl rfl (by decide) (by decide) (fun _ => rfl) (by decide) (fun _ _ H locs hP hD hS => ?_)
                      have hP : va_P D vwCl [(h0, .inr (7, [.ref h1, .int (((n + 1) + 1) + 1), x2, x3])), (h1, .inl (cA, 1000, .inl (fX9_put (fX9_put (fX9_put f n (5 + (16 * p1))) (n + 1) p2) ((n + 1) + 1) p3)))] H := hP
                      have hD : va_D A [(h0, .inr (7, [.ref h1, .int (((n + 1) + 1) + 1), x2, x3])), (h1, .inl (cA, 1000, .inl (fX9_put (fX9_put (fX9_put f n (5 + (16 * p1))) (n + 1) p2) ((n + 1) + 1) p3)))] := hD
                      refine lv_aload_n hx hb dX9_range_116 rfl (lv_at hl 0 rfl) ?_
                      refine lv_iload hx hb dX9_range_117 (lv_at hl 4 rfl) ?_
                      have hPc := hP.sub (ws' := [(h0, .inr (7, [.ref h1, .int (((n + 1) + 1) + 1), x2, x3])), (h1, .inl (cA, 1000, .inl (fX9_put (fX9_put (fX9_put f n (5 + (16 * p1))) (n + 1) p2) ((n + 1) + 1) p3)))]) [0, 1] rfl
                      have hDc := hD.sub (ws' := [(h0, .inr (7, [.ref h1, .int (((n + 1) + 1) + 1), x2, x3])), (h1, .inl (cA, 1000, .inl (fX9_put (fX9_put (fX9_put f n (5 + (16 * p1))) (n + 1) p2) ((n + 1) + 1) p3)))]) [0, 1] (by decide) rfl
                      have hKc := hK.sub (tys' := [(cA, .int)]) [0] rfl
                      refine wk_v (β := Unit) (ok := fun _ => True) (wc := [(h0, .inr (7, [.ref h1, .int (((n + 1) + 1) + 1), x2, x3])), (h1, .inl (cA, 1000, .inl (fX9_put (fX9_put (fX9_put f n (5 + (16 * p1))) (n + 1) p2) ((n + 1) + 1) p3)))]) (wr := []) (w1 := fun _ => [(h0, .inr (7, [.ref h1, .int ((((n + 1) + 1) + 1) + 1), x2, x3])), (h1, .inl (cA, 1000, .inl (fX9_put (fX9_put (fX9_put (fX9_put f n (5 + (16 * p1))) (n + 1) p2) ((n + 1) + 1) p3) (((n + 1) + 1) + 1) p4)))]) (ws2 := fun _ => [(h0, .inr (7, [.ref h1, .int ((((n + 1) + 1) + 1) + 1), x2, x3])), (h1, .inl (cA, 1000, .inl (fX9_put (fX9_put (fX9_put (fX9_put f n (5 + (16 * p1))) (n + 1) p2) ((n + 1) + 1) p3) (((n + 1) + 1) + 1) p4)))]) (va_runV (As := [.int p4]) (rest := []) ⟨hx, hb, hml, hown, hts⟩ (kX9_append l D H.size h0 h1 cA x2 x3 (((n + 1) + 1) + 1) (fX9_put (fX9_put (fX9_put f n (5 + (16 * p1))) (n + 1) p2) ((n + 1) + 1) p3) p4 ) (cwV 1 hts gX9_range_X9_append rfl rfl rfl (by decide +kernel) ⟨Nat.le_of_ble_eq_true rfl, Nat.le_of_ble_eq_true rfl⟩) ⟨Pw_blind, (va_recv hKc hPc (ci := 7) (q0 := 0) rfl rfl), fun U hU hW => Pw_at hKc hPc hDc hN hU hW⟩ rfl rfl hl.1 rfl (lv_room (Nat.le_of_ble_eq_true rfl)) dX9_range_119 ⟨Nat.le_of_ble_eq_true rfl, Nat.le_of_ble_eq_true rfl⟩) hP hD hS hA [0, 1] [] [0, 1] rfl rfl (by decide) (by decide) (fun _ => rfl) (by decide) (fun _ _ H locs hP hD hS => ?_)
                      have hP : va_P D vwCl [(h0, .inr (7, [.ref h1, .int ((((n + 1) + 1) + 1) + 1), x2, x3])), (h1, .inl (cA, 1000, .inl (fX9_put (fX9_put (fX9_put (fX9_put f n (5 + (16 * p1))) (n + 1) p2) ((n + 1) + 1) p3) (((n + 1) + 1) + 1) p4)))] H := hP
                      have hD : va_D A [(h0, .inr (7, [.ref h1, .int ((((n + 1) + 1) + 1) + 1), x2, x3])), (h1, .inl (cA, 1000, .inl (fX9_put (fX9_put (fX9_put (fX9_put f n (5 + (16 * p1))) (n + 1) p2) ((n + 1) + 1) p3) (((n + 1) + 1) + 1) p4)))] := hD
                      refine lv_aload_n hx hb dX9_range_122 rfl (lv_at hl 0 rfl) ?_
                      refine lv_iload hx hb dX9_range_123 (lv_at hl 5 rfl) ?_
                      have hPc := hP.sub (ws' := [(h0, .inr (7, [.ref h1, .int ((((n + 1) + 1) + 1) + 1), x2, x3])), (h1, .inl (cA, 1000, .inl (fX9_put (fX9_put (fX9_put (fX9_put f n (5 + (16 * p1))) (n + 1) p2) ((n + 1) + 1) p3) (((n + 1) + 1) + 1) p4)))]) [0, 1] rfl
                      have hDc := hD.sub (ws' := [(h0, .inr (7, [.ref h1, .int ((((n + 1) + 1) + 1) + 1), x2, x3])), (h1, .inl (cA, 1000, .inl (fX9_put (fX9_put (fX9_put (fX9_put f n (5 + (16 * p1))) (n + 1) p2) ((n + 1) + 1) p3) (((n + 1) + 1) + 1) p4)))]) [0, 1] (by decide) rfl
                      have hKc := hK.sub (tys' := [(cA, .int)]) [0] rfl
                      refine wk_v (β := Unit) (ok := fun _ => True) (wc := [(h0, .inr (7, [.ref h1, .int ((((n + 1) + 1) + 1) + 1), x2, x3])), (h1, .inl (cA, 1000, .inl (fX9_put (fX9_put (fX9_put (fX9_put f n (5 + (16 * p1))) (n + 1) p2) ((n + 1) + 1) p3) (((n + 1) + 1) + 1) p4)))]) (wr := []) (w1 := fun _ => [(h0, .inr (7, [.ref h1, .int (((((n + 1) + 1) + 1) + 1) + 1), x2, x3])), (h1, .inl (cA, 1000, .inl (fX9_put (fX9_put (fX9_put (fX9_put (fX9_put f n (5 + (16 * p1))) (n + 1) p2) ((n + 1) + 1) p3) (((n + 1) + 1) + 1) p4) ((((n + 1) + 1) + 1) + 1) p5)))]) (ws2 := fun _ => [(h0, .inr (7, [.ref h1, .int (((((n + 1) + 1) + 1) + 1) + 1), x2, x3])), (h1, .inl (cA, 1000, .inl (fX9_put (fX9_put (fX9_put (fX9_put (fX9_put f n (5 + (16 * p1))) (n + 1) p2) ((n + 1) + 1) p3) (((n + 1) + 1) + 1) p4) ((((n + 1) + 1) + 1) + 1) p5)))]) (va_runV (As := [.int p5]) (rest := []) ⟨hx, hb, hml, hown, hts⟩ (kX9_append l D H.size h0 h1 cA x2 x3 ((((n + 1) + 1) + 1) + 1) (fX9_put (fX9_put (fX9_put (fX9_put f n (5 + (16 * p1))) (n + 1) p2) ((n + 1) + 1) p3) (((n + 1) + 1) + 1) p4) p5 ) (cwV 1 hts gX9_range_X9_append rfl rfl rfl (by decide +kernel) ⟨Nat.le_of_ble_eq_true rfl, Nat.le_of_ble_eq_true rfl⟩) ⟨Pw_blind, (va_recv hKc hPc (ci := 7) (q0 := 0) rfl rfl), fun U hU hW => Pw_at hKc hPc hDc hN hU hW⟩ rfl rfl hl.1 rfl (lv_room (Nat.le_of_ble_eq_true rfl)) dX9_range_125 ⟨Nat.le_of_ble_eq_true rfl, Nat.le_of_ble_eq_true rfl⟩) hP hD hS hA [0, 1] [] [0, 1] rfl rfl (by decide) (by decide) (fun _ => rfl) (by decide) (fun _ _ H locs hP hD hS => ?_)
                      have hP : va_P D vwCl [(h0, .inr (7, [.ref h1, .int (((((n + 1) + 1) + 1) + 1) + 1), x2, x3])), (h1, .inl (cA, 1000, .inl (fX9_put (fX9_put (fX9_put (fX9_put (fX9_put f n (5 + (16 * p1))) (n + 1) p2) ((n + 1) + 1) p3) (((n + 1) + 1) + 1) p4) ((((n + 1) + 1) + 1) + 1) p5)))] H := hP
                      have hD : va_D A [(h0, .inr (7, [.ref h1, .int (((((n + 1) + 1) + 1) + 1) + 1), x2, x3])), (h1, .inl (cA, 1000, .inl (fX9_put (fX9_put (fX9_put (fX9_put (fX9_put f n (5 + (16 * p1))) (n + 1) p2) ((n + 1) + 1) p3) (((n + 1) + 1) + 1) p4) ((((n + 1) + 1) + 1) + 1) p5)))] := hD
                      refine lv_aload_n hx hb dX9_range_128 rfl (lv_at hl 0 rfl) ?_
                      refine lv_iload hx hb dX9_range_129 (lv_at hl 6 rfl) ?_
                      have hPc := hP.sub (ws' := [(h0, .inr (7, [.ref h1, .int (((((n + 1) + 1) + 1) + 1) + 1), x2, x3])), (h1, .inl (cA, 1000, .inl (fX9_put (fX9_put (fX9_put (fX9_put (fX9_put f n (5 + (16 * p1))) (n + 1) p2) ((n + 1) + 1) p3) (((n + 1) + 1) + 1) p4) ((((n + 1) + 1) + 1) + 1) p5)))]) [0, 1] rfl
                      have hDc := hD.sub (ws' := [(h0, .inr (7, [.ref h1, .int (((((n + 1) + 1) + 1) + 1) + 1), x2, x3])), (h1, .inl (cA, 1000, .inl (fX9_put (fX9_put (fX9_put (fX9_put (fX9_put f n (5 + (16 * p1))) (n + 1) p2) ((n + 1) + 1) p3) (((n + 1) + 1) + 1) p4) ((((n + 1) + 1) + 1) + 1) p5)))]) [0, 1] (by decide) rfl
                      have hKc := hK.sub (tys' := [(cA, .int)]) [0] rfl
                      refine wk_v (β := Unit) (ok := fun _ => True) (wc := [(h0, .inr (7, [.ref h1, .int (((((n + 1) + 1) + 1) + 1) + 1), x2, x3])), (h1, .inl (cA, 1000, .inl (fX9_put (fX9_put (fX9_put (fX9_put (fX9_put f n (5 + (16 * p1))) (n + 1) p2) ((n + 1) + 1) p3) (((n + 1) + 1) + 1) p4) ((((n + 1) + 1) + 1) + 1) p5)))]) (wr := []) (w1 := fun _ => [(h0, .inr (7, [.ref h1, .int ((((((n + 1) + 1) + 1) + 1) + 1) + 1), x2, x3])), (h1, .inl (cA, 1000, .inl (fX9_put (fX9_put (fX9_put (fX9_put (fX9_put (fX9_put f n (5 + (16 * p1))) (n + 1) p2) ((n + 1) + 1) p3) (((n + 1) + 1) + 1) p4) ((((n + 1) + 1) + 1) + 1) p5) (((((n + 1) + 1) + 1) + 1) + 1) p6)))]) (ws2 := fun _ => [(h0, .inr (7, [.ref h1, .int ((((((n + 1) + 1) + 1) + 1) + 1) + 1), x2, x3])), (h1, .inl (cA, 1000, .inl (fX9_put (fX9_put (fX9_put (fX9_put (fX9_put (fX9_put f n (5 + (16 * p1))) (n + 1) p2) ((n + 1) + 1) p3) (((n + 1) + 1) + 1) p4) ((((n + 1) + 1) + 1) + 1) p5) (((((n + 1) + 1) + 1) + 1) + 1) p6)))]) (va_runV (As := [.int p6]) (rest := []) ⟨hx, hb, hml, hown, hts⟩ (kX9_append l D H.size h0 h1 cA x2 x3 (((((n + 1) + 1) + 1) + 1) + 1) (fX9_put (fX9_put (fX9_put (fX9_put (fX9_put f n (5 + (16 * p1))) (n + 1) p2) ((n + 1) + 1) p3) (((n + 1) + 1) + 1) p4) ((((n + 1) + 1) + 1) + 1) p5) p6 ) (cwV 1 hts gX9_range_X9_append rfl rfl rfl (by decide +kernel) ⟨Nat.le_of_ble_eq_true rfl, Nat.le_of_ble_eq_true rfl⟩) ⟨Pw_blind, (va_recv hKc hPc (ci := 7) (q0 := 0) rfl rfl), fun U hU hW => Pw_at hKc hPc hDc hN hU hW⟩ rfl rfl hl.1 rfl (lv_room (Nat.le_of_ble_eq_true rfl)) dX9_range_131 ⟨Nat.le_of_ble_eq_true rfl, Nat.le_of_ble_eq_true rfl⟩) hP hD hS hA [0, 1] [] [0, 1] rfl rfl (by decide) (by decide) (fun _ => rfl) (by decide) (fun _ _ H locs hP hD hS => ?_)
                      have hP : va_P D vwCl [(h0, .inr (7, [.ref h1, .int ((((((n + 1) + 1) + 1) + 1) + 1) + 1), x2, x3])), (h1, .inl (cA, 1000, .inl (fX9_put (fX9_put (fX9_put (fX9_put (fX9_put (fX9_put f n (5 + (16 * p1))) (n + 1) p2) ((n + 1) + 1) p3) (((n + 1) + 1) + 1) p4) ((((n + 1) + 1) + 1) + 1) p5) (((((n + 1) + 1) + 1) + 1) + 1) p6)))] H := hP
                      have hD : va_D A [(h0, .inr (7, [.ref h1, .int ((((((n + 1) + 1) + 1) + 1) + 1) + 1), x2, x3])), (h1, .inl (cA, 1000, .inl (fX9_put (fX9_put (fX9_put (fX9_put (fX9_put (fX9_put f n (5 + (16 * p1))) (n + 1) p2) ((n + 1) + 1) p3) (((n + 1) + 1) + 1) p4) ((((n + 1) + 1) + 1) + 1) p5) (((((n + 1) + 1) + 1) + 1) + 1) p6)))] := hD
                      refine lv_iconst (v := 1) hx hb dX9_range_134 (by decide) ?_
                      have hF : (fX9_range n f p1 p2 p3 p4 p5 p6) = (1, ((((((n + 1) + 1) + 1) + 1) + 1) + 1), (fX9_put (fX9_put (fX9_put (fX9_put (fX9_put (fX9_put f n (5 + (16 * p1))) (n + 1) p2) ((n + 1) + 1) p3) (((n + 1) + 1) + 1) p4) ((((n + 1) + 1) + 1) + 1) p5) (((((n + 1) + 1) + 1) + 1) + 1) p6)) := by exact ((if_neg c1).trans ((if_neg c7).trans ((if_neg c14).trans ((if_neg c25).trans ((if_neg c38).trans ((if_neg c47).trans ((if_neg c58).trans ((if_neg c69).trans ((if_neg c78).trans (if_neg c91))))))))))
                      subst hAe
                      subst hQe
                      exact W.zret (v := 1) hx hb hr rfl (fun t ht hW => ⟨⟨_, _, rfl, ⟨(), trivial, by rw [hF], by rw [hF]⟩, by rw [ht]; exact hP, hD⟩, hS.F ht⟩) hS.2.2 dX9_range_135
                    · refine lv_iconst (v := 0) hx hb dX9_range_94 (by decide) ?_
                      have hF : (fX9_range n f p1 p2 p3 p4 p5 p6) = (0, n, f) := by exact ((if_neg c1).trans ((if_neg c7).trans ((if_neg c14).trans ((if_neg c25).trans ((if_neg c38).trans ((if_neg c47).trans ((if_neg c58).trans ((if_neg c69).trans ((if_neg c78).trans (if_pos c91))))))))))
                      subst hAe
                      subst hQe
                      exact W.zret (v := 0) hx hb hr rfl (fun t ht hW => ⟨⟨_, _, rfl, ⟨(), trivial, by rw [hF], by rw [hF]⟩, by rw [ht]; exact hP, hD⟩, hS.F ht⟩) hS.2.2 dX9_range_95
            · refine lv_iconst (v := 0) hx hb dX9_range_50 (by decide) ?_
              have hF : (fX9_range n f p1 p2 p3 p4 p5 p6) = (0, n, f) := by exact ((if_neg c1).trans ((if_neg c7).trans ((if_neg c14).trans ((if_neg c25).trans ((if_neg c38).trans (if_pos c47))))))
              subst hAe
              subst hQe
              exact W.zret (v := 0) hx hb hr rfl (fun t ht hW => ⟨⟨_, _, rfl, ⟨(), trivial, by rw [hF], by rw [hF]⟩, by rw [ht]; exact hP, hD⟩, hS.F ht⟩) hS.2.2 dX9_range_51
