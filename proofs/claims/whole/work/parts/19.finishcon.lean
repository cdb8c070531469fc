def ffin (w : Nat) (f g : Nat → Int32) : Nat → Int32 := fun j => if j < w then g j else f j
def fX10_finish (md ch : Int32) (f g : Nat → Int32) : Int32 × Int32 × (Nat → Int32) := (ch, md, ffin md.toNatClampNeg f g)
abbrev qX10_finish (D : va_G) (sz : Nat) (h0 : Nat) (h1 : Nat) (h2 : Nat) (cA : ClassId) (cB : ClassId) (cd : Int32) (n : Int32) (md : Int32) (ch : Int32) (sh : Int32) (tp : Int32) (lf : Int32) (bt : Int32) (rt : Int32) (f : Nat → Int32) (g : Nat → Int32) : Array Value → State → Outcome → State → Prop := va_Qi (fun r_9 w_9 => ∃ _u : Unit, True ∧ r_9 = (fX10_finish md ch f g).1 ∧ w_9 = [(h0, .inr (8, [.int cd, .int (fX10_finish md ch f g).2.1, .ref h1, .int md, .ref h2, .int ch, .int sh, .int tp, .int lf, .int bt, .int rt])), (h1, .inl (cA, 1000, .inl (fX10_finish md ch f g).2.2)), (h2, .inl (cB, 1000, .inl g))]) (Bq D (va_A [(h0, .inr (8, [.int cd, .int n, .ref h1, .int md, .ref h2, .int ch, .int sh, .int tp, .int lf, .int bt, .int rt])), (h1, .inl (cA, 1000, .inl f)), (h2, .inl (cB, 1000, .inl g))] sz)) (va_A [(h0, .inr (8, [.int cd, .int n, .ref h1, .int md, .ref h2, .int ch, .int sh, .int tp, .int lf, .int bt, .int rt])), (h1, .inl (cA, 1000, .inl f)), (h2, .inl (cB, 1000, .inl g))] sz)
set_option maxHeartbeats 4000000 in
set_option maxRecDepth 100000 in
theorem kX10_finish (l : Launch) (D : va_G) (sz : Nat) (h0 : Nat) (h1 : Nat) (h2 : Nat) (cA : ClassId) (cB : ClassId) (cd : Int32) (n : Int32) (md : Int32) (ch : Int32) (sh : Int32) (tp : Int32) (lf : Int32) (bt : Int32) (rt : Int32) (f : Nat → Int32) (g : Nat → Int32) (hm : vp_in md 1001) : Met l yX10_finish wsX10_finish rmX10_finish (va_Pc [.ref h0] (Pw D [(cA, .int), (cB, .int)] [(h0, .inr (8, [.int cd, .int n, .ref h1, .int md, .ref h2, .int ch, .int sh, .int tp, .int lf, .int bt, .int rt])), (h1, .inl (cA, 1000, .inl f)), (h2, .inl (cB, 1000, .inl g))] sz)) (qX10_finish D sz h0 h1 h2 cA cB cd n md ch sh tp lf bt rt f g) 0 0 (va_A [(h0, .inr (8, [.int cd, .int n, .ref h1, .int md, .ref h2, .int ch, .int sh, .int tp, .int lf, .int bt, .int rt])), (h1, .inl (cA, 1000, .inl f)), (h2, .inl (cB, 1000, .inl g))] sz) := by
  refine Met.ofW (cc := cX10_finish) (maxL := 2) (ret := (some .int)) (by decide) rfl ?_
  intro p e s m args below meth c s₁ B hml hv
  obtain ⟨hargs, hsz, hP, hK, hD0, hN⟩ := hv
  have hx := B.exec
  have hb := B.bytes
  have hr := B.returns
  have hts := atoms_spec (ws := wsX10_finish) B.pre
  have hown : s.vm.findClass RX10 = some m.cls := findClass_of_methodNamed B.named
  have hlocks := B.notSynchronized
  subst hsz
  obtain ⟨A, hAe⟩ : ∃ A, A = va_A [(h0, .inr (8, [.int cd, .int n, .ref h1, .int md, .ref h2, .int ch, .int sh, .int tp, .int lf, .int bt, .int rt])), (h1, .inl (cA, 1000, .inl f)), (h2, .inl (cB, 1000, .inl g))] s.heap.size := ⟨_, rfl⟩
  have hD : va_D A [(h0, .inr (8, [.int cd, .int n, .ref h1, .int md, .ref h2, .int ch, .int sh, .int tp, .int lf, .int bt, .int rt])), (h1, .inl (cA, 1000, .inl f)), (h2, .inl (cB, 1000, .inl g))] := by rw [hAe]; exact hD0.self
  have hA : ∀ q : Nat, s.heap.size ≤ q → A q := by rw [hAe]; exact mo_A
  have hS : va_S A s.heap s.heap [] := va_S.rf
  have hfr : ∀ q, A q → (va_A [(h0, .inr (8, [.int cd, .int n, .ref h1, .int md, .ref h2, .int ch, .int sh, .int tp, .int lf, .int bt, .int rt])), (h1, .inl (cA, 1000, .inl f)), (h2, .inl (cB, 1000, .inl g))] s.heap.size) q := fun q h => hAe ▸ h
  have hl := lv_entry ([.ref h0]) (n := 2) (Nat.le_of_ble_eq_true rfl)
  rw [show entryFrame m args 2 = entryFrame m (([.ref h0] : List Value).toArray) 2 by rw [hargs], lg_entry_eq]
  generalize (lg_sl ([.ref h0]) ++ List.replicate (2 - (lg_sl ([.ref h0])).length) Slot.unset).toArray = ls at hl ⊢
  have hl : lv_has ls 2 [(0, .ref h0)] := hl
  have C : Cx p s m meth c args D [(cA, .int), (cB, .int)] A cX10_finish wsX10_finish RX10 (some .int) 2 := ⟨hx, hb, hr, hml, hown, hts, hlocks, hK, hN, hA⟩
  obtain ⟨Wd, hWd, rfl⟩ := vp_in_of hm (by decide)
  have LOOP : ∀ (j K : Nat) (f9 : Nat → Int32), K + j = Wd → (∀ i, f9 i = if i < K then g i else f i) → ∀ (H : Heap) (locs : List Loc) (ls : Array Slot), va_P D vwCl [(h0, .inr (8, [.int cd, .int n, .ref h1, .int (nI Wd), .ref h2, .int ch, .int sh, .int tp, .int lf, .int bt, .int rt])), (h1, .inl (cA, 1000, .inl f9)), (h2, .inl (cB, 1000, .inl g))] H → va_D A [(h0, .inr (8, [.int cd, .int n, .ref h1, .int (nI Wd), .ref h2, .int ch, .int sh, .int tp, .int lf, .int bt, .int rt])), (h1, .inl (cA, 1000, .inl f9)), (h2, .inl (cB, 1000, .inl g))] → va_S A s.heap H locs → lv_has ls 2 [(0, .ref h0), (1, .int (nI K))] → W p l e (headSpec wsX10_finish rmX10_finish).room s m args below meth c H locs 0 0 (MQ below (qX10_finish D s.heap.size h0 h1 h2 cA cB cd n (nI Wd) ch sh tp lf bt rt f g) args s 0 0 (va_A [(h0, .inr (8, [.int cd, .int n, .ref h1, .int (nI Wd), .ref h2, .int ch, .int sh, .int tp, .int lf, .int bt, .int rt])), (h1, .inl (cA, 1000, .inl f)), (h2, .inl (cB, 1000, .inl g))] s.heap.size)) (F0 m 2 ls []) := by
    intro j
    induction j with
    | zero =>
      intro K f9 hK9 hf H locs ls hP hD hS hl
      have hKW : K = Wd := by omega
      subst hKW
      have hfe : f9 = ffin (nI K).toNatClampNeg f g := by
        funext i
        rw [hf i, nI_clamp (by omega)]
        rfl
      refine ksfin_x hfr h0 h1 h2 cA cB cd n (nI K) ch sh tp lf bt rt f9 g (nI K) C (nI_le (Nat.le_refl K) (by omega)) ?_ H locs ls hP hD hS hl
      intro H locs hP hD hS t ht hW
      subst hfe
      exact ⟨⟨_, _, rfl, ⟨(), trivial, rfl, rfl⟩, by rw [ht]; exact hP, by rw [← hAe]; exact hD⟩, by rw [← hAe]; exact hS.F ht⟩
    | succ j ih =>
      intro K f9 hK9 hf H locs ls hP hD hS hl
      refine ksfin_b h0 h1 h2 cA cB cd n (nI Wd) ch sh tp lf bt rt f9 g (nI K) C (nI_ge (by omega) (by omega)) (vp_in_nI (by omega) (by decide)) ?_ H locs ls hP hD hS hl
      intro H locs ls hP hD hS hl
      rw [nI_clamp (by omega)] at hP hD
      rw [nI_1] at hl
      refine ih (K + 1) (upd f9 K (g K)) (by omega) (fun i => ?_) H locs ls hP hD hS hl
      by_cases h : i = K
      · subst h
        rw [pk_us, if_pos (by omega)]
      · rw [pk_un h, hf i]
        by_cases h2 : i < K
        · rw [if_pos h2, if_pos (by omega)]
        · rw [if_neg h2, if_neg (by omega)]
  refine ksfin_0 h0 h1 h2 cA cB cd n (nI Wd) ch sh tp lf bt rt f g C ?_ s.heap [] ls hP hD hS hl
  intro H locs ls hP hD hS hl
  exact LOOP Wd 0 f (by omega) (fun i => by rw [if_neg (Nat.not_lt_zero i)]) H locs ls hP hD hS hl
