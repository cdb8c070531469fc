def gcp (dn al : Int32) : Int32 := if fX10_within dn (-1048575) 1048575 = 0 then 0 else (if fX10_within al (-16383) 16383 = 0 then 0 else 1)
theorem selE (v md ch g : Int32) (hv : v = if g = 1 then 0 else 1) : (if v = 0 then ((1, v, 0, 0) : Int32 × Int32 × Int32 × Int32) else (0, v, md, ch)) = if g = 1 then (1, 0, 0, 0) else (0, 1, md, ch) := by
  subst hv
  by_cases q : g = 1
  · rw [if_pos q, if_pos q, if_pos rfl]
  · rw [if_neg q, if_neg q, if_neg (by decide)]
theorem gcp_v (dn al : Int32) : (if (fX10_within dn (-1048575) 1048575) = 0 then (1 : Int32) else (if (fX10_within al (-16383) 16383) = 0 then 1 else 0)) = if gcp dn al = 1 then 0 else 1 := by
  unfold gcp
  by_cases h1 : fX10_within dn (-1048575) 1048575 = 0
  · rw [if_pos h1, if_pos h1, if_neg (by decide)]
  · rw [if_neg h1, if_neg h1]
    by_cases h2 : fX10_within al (-16383) 16383 = 0
    · rw [if_pos h2, if_pos h2, if_neg (by decide)]
    · rw [if_neg h2, if_neg h2, if_pos rfl]
theorem gcp_eq (md ch dn al : Int32) : fscp_0 md ch dn al = if gcp dn al = 1 then (1, 0, 0, 0) else (0, 1, md, ch) := by
  unfold fscp_0
  dsimp only
  rw [gcp_v]
  exact selE _ md ch (gcp dn al) rfl
def gmv (tp lf bt rt hom nh si rw cl : Int32) : Int32 := (if (fX10_within hom 0 7) = 0 then 0 else (if (fX10_within nh 0 7) = 0 then 0 else (if (fX10_within si 0 7) = 0 then 0 else (if (fX10_isCell rw cl) = 0 then 0 else (if 1048576 < ((rw + bt) - tp) then 0 else (if 16384 < ((cl + rt) - lf) then 0 else 1))))))
theorem gmv_B (tp lf bt rt hom nh si rw cl : Int32) : isB (gmv tp lf bt rt hom nh si rw cl) := by
  unfold gmv
  exact isB.ite (Or.inl rfl) (isB.ite (Or.inl rfl) (isB.ite (Or.inl rfl) (isB.ite (Or.inl rfl) (isB.ite (Or.inl rfl) (isB.ite (Or.inl rfl) (Or.inr rfl))))))
theorem gmv_eq (md ch tp lf bt rt hom nh si rw cl : Int32) : fsmv_0 md ch tp lf bt rt hom nh si rw cl = if gmv tp lf bt rt hom nh si rw cl = 1 then (1, 0, 0, 0) else (0, 1, md, ch) := by
  unfold fsmv_0
  dsimp only
  have e : ∀ v : Int32, isB v → (if (if v = 0 then (1 : Int32) else 0) = 0 then ((1, (if v = 0 then (1 : Int32) else 0), 0, 0) : Int32 × Int32 × Int32 × Int32) else (0, (if v = 0 then (1 : Int32) else 0), md, ch)) = if v = 1 then (1, 0, 0, 0) else (0, 1, md, ch) := by
    intro v hv
    rcases hv with rfl | rfl <;> rfl
  have h := e (gmv tp lf bt rt hom nh si rw cl) (gmv_B tp lf bt rt hom nh si rw cl)
  unfold gmv at h ⊢
  exact h
theorem wI {x y z : Int32} (h : ¬ fX10_within x y z = 0) : y ≤ x ∧ x ≤ z := by
  unfold fX10_within at h
  by_cases h1 : x < y
  · rw [if_pos h1] at h; exact absurd rfl h
  · rw [if_neg h1] at h
    by_cases h2 : z < x
    · rw [if_pos h2] at h; exact absurd rfl h
    · exact ⟨Int32.not_lt.mp h1, Int32.not_lt.mp h2⟩
theorem cI {x y : Int32} (h : ¬ fX10_isCell x y = 0) : okR x ∧ okC y := by
  unfold fX10_isCell at h
  by_cases h1 : fX10_within x 1 1048576 = 0
  · rw [if_pos h1] at h; exact absurd rfl h
  · rw [if_neg h1] at h
    by_cases h2 : fX10_within y 1 16384 = 0
    · rw [if_pos h2] at h; exact absurd rfl h
    · exact ⟨wI h1, wI h2⟩
theorem gmv_ok {tp lf bt rt hom nh si rw cl : Int32} (hr : RectOk tp lf bt rt) (h : gmv tp lf bt rt hom nh si rw cl = 1) : MvOk tp lf bt rt hom si rw cl := by
  unfold gmv at h
  by_cases h1 : fX10_within hom 0 7 = 0
  · rw [if_pos h1] at h; exact absurd h (by decide)
  rw [if_neg h1] at h
  by_cases h2 : fX10_within nh 0 7 = 0
  · rw [if_pos h2] at h; exact absurd h (by decide)
  rw [if_neg h2] at h
  by_cases h3 : fX10_within si 0 7 = 0
  · rw [if_pos h3] at h; exact absurd h (by decide)
  rw [if_neg h3] at h
  by_cases h4 : fX10_isCell rw cl = 0
  · rw [if_pos h4] at h; exact absurd h (by decide)
  rw [if_neg h4] at h
  by_cases h5 : 1048576 < ((rw + bt) - tp)
  · rw [if_pos h5] at h; exact absurd h (by decide)
  rw [if_neg h5] at h
  by_cases h6 : 16384 < ((cl + rt) - lf)
  · rw [if_pos h6] at h; exact absurd h (by decide)
  obtain ⟨c1, c2⟩ := cI h4
  exact ⟨hr, wI h1, wI h3, c1, c2, Int32.not_lt.mp h5, Int32.not_lt.mp h6⟩
theorem insOk {x y z u v v1 : Int32} (e : v1 = if fX10_isLine x y z u v = 0 then 1 else 0) (h : v1 = 0) : 1 ≤ u ∧ u ≤ fX10_lines z ∧ 1 ≤ v ∧ v ≤ 16384 := by
  have hn : ¬ fX10_isLine x y z u v = 0 := fun q => by rw [e, if_pos q] at h; exact absurd h (by decide)
  unfold fX10_isLine at hn
  by_cases h1 : fX10_within x 0 7 = 0
  · rw [if_pos h1] at hn; exact absurd rfl hn
  rw [if_neg h1] at hn
  by_cases h2 : fX10_within y 0 7 = 0
  · rw [if_pos h2] at hn; exact absurd rfl hn
  rw [if_neg h2] at hn
  by_cases h3 : fX10_within u 1 (fX10_lines z) = 0
  · rw [if_pos h3] at hn; exact absurd rfl hn
  rw [if_neg h3] at hn
  by_cases h4 : fX10_within v 1 16384 = 0
  · rw [if_pos h4] at hn; exact absurd rfl hn
  exact ⟨(wI h3).1, (wI h3).2, (wI h4).1, (wI h4).2⟩

abbrev qX10_copy (D : va_G) (sz : Nat) (h0 : Nat) (h1 : Nat) (h2 : Nat) (cA : ClassId) (cB : ClassId) (cd : Int32) (md : Int32) (ch : Int32) (sh : Int32) (tp : Int32) (lf : Int32) (bt : Int32) (rt : Int32) (f : Nat → Int32) (g : Nat → Int32) (dn : Int32) (al : Int32) (items : List (List Int32)) : Array Value → State → Outcome → State → Prop := va_Qi (fun r_9 w_9 => ∃ _u : Unit, True ∧ r_9 = (resM (gcp dn al) (Tcp dn al) items md ch f g).1 ∧ w_9 = [(h0, .inr (8, [.int (resM (gcp dn al) (Tcp dn al) items md ch f g).2.1, .int (resM (gcp dn al) (Tcp dn al) items md ch f g).2.2.1, .ref h1, .int (resM (gcp dn al) (Tcp dn al) items md ch f g).2.2.2.1, .ref h2, .int (resM (gcp dn al) (Tcp dn al) items md ch f g).2.2.2.2.1, .int sh, .int tp, .int lf, .int bt, .int rt])), (h1, .inl (cA, 1000, .inl (resM (gcp dn al) (Tcp dn al) items md ch f g).2.2.2.2.2.1)), (h2, .inl (cB, 1000, .inl (resM (gcp dn al) (Tcp dn al) items md ch f g).2.2.2.2.2.2))]) (Bq D (va_A [(h0, .inr (8, [.int cd, .int (nI items.flatten.length), .ref h1, .int md, .ref h2, .int ch, .int sh, .int tp, .int lf, .int bt, .int rt])), (h1, .inl (cA, 1000, .inl f)), (h2, .inl (cB, 1000, .inl g))] sz)) (va_A [(h0, .inr (8, [.int cd, .int (nI items.flatten.length), .ref h1, .int md, .ref h2, .int ch, .int sh, .int tp, .int lf, .int bt, .int rt])), (h1, .inl (cA, 1000, .inl f)), (h2, .inl (cB, 1000, .inl g))] sz)
set_option maxHeartbeats 4000000 in
set_option maxRecDepth 100000 in
theorem kX10_copy (l : Launch) (D : va_G) (sz : Nat) (h0 : Nat) (h1 : Nat) (h2 : Nat) (cA : ClassId) (cB : ClassId) (cd : Int32) (md : Int32) (ch : Int32) (sh : Int32) (tp : Int32) (lf : Int32) (bt : Int32) (rt : Int32) (f : Nat → Int32) (g : Nat → Int32) (dn : Int32) (al : Int32) (items : List (List Int32)) (hok : ∀ it ∈ items, okI it) (hlen : items.flatten.length ≤ 1000) (hseg : Seg f 0 items.flatten) : Met l yX10_copy wsX10_copy rmX10_copy (va_Pc [.ref h0, .int dn, .int al] (Pw D [(cA, .int), (cB, .int)] [(h0, .inr (8, [.int cd, .int (nI items.flatten.length), .ref h1, .int md, .ref h2, .int ch, .int sh, .int tp, .int lf, .int bt, .int rt])), (h1, .inl (cA, 1000, .inl f)), (h2, .inl (cB, 1000, .inl g))] sz)) (qX10_copy D sz h0 h1 h2 cA cB cd md ch sh tp lf bt rt f g dn al items) 0 0 (va_A [(h0, .inr (8, [.int cd, .int (nI items.flatten.length), .ref h1, .int md, .ref h2, .int ch, .int sh, .int tp, .int lf, .int bt, .int rt])), (h1, .inl (cA, 1000, .inl f)), (h2, .inl (cB, 1000, .inl g))] sz) := by
  refine Met.ofW (cc := cX10_copy) (maxL := 7) (ret := (some .int)) (by decide) rfl ?_
  intro p e s m args below meth c s₁ B hml hv
  obtain ⟨hargs, hsz, hP, hK, hD0, hN⟩ := hv
  have hx := B.exec
  have hb := B.bytes
  have hr := B.returns
  have hts := atoms_spec (ws := wsX10_copy) B.pre
  have hown : s.vm.findClass RX10 = some m.cls := findClass_of_methodNamed B.named
  have hlocks := B.notSynchronized
  subst hsz
  obtain ⟨A, hAe⟩ : ∃ A, A = va_A [(h0, .inr (8, [.int cd, .int (nI items.flatten.length), .ref h1, .int md, .ref h2, .int ch, .int sh, .int tp, .int lf, .int bt, .int rt])), (h1, .inl (cA, 1000, .inl f)), (h2, .inl (cB, 1000, .inl g))] s.heap.size := ⟨_, rfl⟩
  have hD : va_D A [(h0, .inr (8, [.int cd, .int (nI items.flatten.length), .ref h1, .int md, .ref h2, .int ch, .int sh, .int tp, .int lf, .int bt, .int rt])), (h1, .inl (cA, 1000, .inl f)), (h2, .inl (cB, 1000, .inl g))] := by rw [hAe]; exact hD0.self
  have hA : ∀ q : Nat, s.heap.size ≤ q → A q := by rw [hAe]; exact mo_A
  have hS : va_S A s.heap s.heap [] := va_S.rf
  have hfr : ∀ q, A q → (va_A [(h0, .inr (8, [.int cd, .int (nI items.flatten.length), .ref h1, .int md, .ref h2, .int ch, .int sh, .int tp, .int lf, .int bt, .int rt])), (h1, .inl (cA, 1000, .inl f)), (h2, .inl (cB, 1000, .inl g))] s.heap.size) q := fun q h => hAe ▸ h
  have hl := lv_entry ([.ref h0, .int dn, .int al]) (n := 7) (Nat.le_of_ble_eq_true rfl)
  rw [show entryFrame m args 7 = entryFrame m (([.ref h0, .int dn, .int al] : List Value).toArray) 7 by rw [hargs], lg_entry_eq]
  generalize (lg_sl ([.ref h0, .int dn, .int al]) ++ List.replicate (7 - (lg_sl ([.ref h0, .int dn, .int al])).length) Slot.unset).toArray = ls at hl ⊢
  have hl : lv_has ls 7 [(0, .ref h0), (1, .int dn), (2, .int al)] := hl
  have C : Cx p s m meth c args D [(cA, .int), (cB, .int)] A cX10_copy wsX10_copy RX10 (some .int) 7 := ⟨hx, hb, hr, hml, hown, hts, hlocks, hK, hN, hA⟩
  refine kscp_0 hfr h0 h1 h2 cA cB cd (nI items.flatten.length) md ch sh tp lf bt rt f g dn al C ?_ ?_ s.heap [] ls hP hD hS hl
  · intro hg H locs ls hP hD hS hl
    have hg1 : gcp dn al = 1 := by
      by_cases q : gcp dn al = 1
      · exact q
      · rw [gcp_eq, if_neg q] at hg
        exact absurd (show (0 : Int32) = 1 from hg) (by decide)
    rw [gcp_eq, if_pos hg1] at hP hD
    have hRe : (resM (gcp dn al) (Tcp dn al) items md ch f g) = (cnt (Tcp dn al) items, 0, nI (outs (Tcp dn al) items).length, nI (outs (Tcp dn al) items).length, cnt (Tcp dn al) items, ffin (outs (Tcp dn al) items).length f (wr g 0 (outs (Tcp dn al) items)), wr g 0 (outs (Tcp dn al) items)) := if_pos hg1
    have hT : ∀ it ∈ items, okI it ∧ ((Tcp dn al) it).length ≤ it.length := fun it h => ⟨hok it h, (Tcp_ok (hok it h)).2⟩
    have hle := outs_le hT
    refine loopM _ (Tcp dn al) f items.flatten.length (lpM_cp h0 h1 h2 cA cB 0 sh tp lf bt rt f dn al items.flatten.length hlen C _ rfl) items 0 0 0 g hT hseg (by omega) (Nat.le_refl 0) ?_ H locs ls hP hD hS hl
    rw [Nat.zero_add, Int32.zero_add]
    intro H locs ls hP hD hS hl
    refine kscp_x hfr h0 h1 h2 cA cB 0 (nI items.flatten.length) (nI (outs (Tcp dn al) items).length) (cnt (Tcp dn al) items) sh tp lf bt rt f (wr g 0 (outs (Tcp dn al) items)) dn al (nI items.flatten.length) C (nI_le (Nat.le_refl _) (by omega)) (vp_in_nI (by omega) (by decide)) ?_ H locs ls hP hD hS hl
    intro H locs hP hD hS t ht hW
    have hFe : fX10_finish (nI (outs (Tcp dn al) items).length) (cnt (Tcp dn al) items) f (wr g 0 (outs (Tcp dn al) items)) = (cnt (Tcp dn al) items, nI (outs (Tcp dn al) items).length, ffin (outs (Tcp dn al) items).length f (wr g 0 (outs (Tcp dn al) items))) := by unfold fX10_finish; rw [nI_clamp (by omega)]
    rw [hFe] at hP hD ⊢
    exact ⟨⟨_, _, rfl, ⟨(), trivial, by rw [hRe], by rw [hRe]⟩, by rw [ht]; exact hP, by rw [← hAe]; exact hD⟩, by rw [← hAe]; exact hS.F ht⟩
  · intro hg H locs hP hD hS t ht hW
    have hg1 : ¬ gcp dn al = 1 := fun q => by rw [gcp_eq, if_pos q] at hg; exact absurd (show (1 : Int32) = 0 from hg) (by decide)
    rw [gcp_eq, if_neg hg1] at hP hD
    have hRe : (resM (gcp dn al) (Tcp dn al) items md ch f g) = (0, 1, nI items.flatten.length, md, ch, f, g) := if_neg hg1
    exact ⟨⟨_, _, rfl, ⟨(), trivial, by rw [hRe], by rw [hRe]⟩, by rw [ht]; exact hP, by rw [← hAe]; exact hD⟩, by rw [← hAe]; exact hS.F ht⟩

abbrev qX10_shift (D : va_G) (sz : Nat) (h0 : Nat) (h1 : Nat) (h2 : Nat) (cA : ClassId) (cB : ClassId) (cd : Int32) (md : Int32) (ch : Int32) (sh : Int32) (tp : Int32) (lf : Int32) (bt : Int32) (rt : Int32) (f : Nat → Int32) (g : Nat → Int32) (hom : Int32) (si : Int32) (z : Int32) (at_ : Int32) (nn : Int32) (items : List (List Int32)) : Array Value → State → Outcome → State → Prop := va_Qi (fun r_9 w_9 => ∃ _u : Unit, True ∧ r_9 = (resS (Tsh hom si z at_ nn) items f g).1 ∧ w_9 = [(h0, .inr (8, [.int cd, .int (resS (Tsh hom si z at_ nn) items f g).2.1, .ref h1, .int (resS (Tsh hom si z at_ nn) items f g).2.2.1, .ref h2, .int (resS (Tsh hom si z at_ nn) items f g).2.2.2.1, .int sh, .int tp, .int lf, .int bt, .int rt])), (h1, .inl (cA, 1000, .inl (resS (Tsh hom si z at_ nn) items f g).2.2.2.2.1)), (h2, .inl (cB, 1000, .inl (resS (Tsh hom si z at_ nn) items f g).2.2.2.2.2))]) (Bq D (va_A [(h0, .inr (8, [.int cd, .int (nI items.flatten.length), .ref h1, .int md, .ref h2, .int ch, .int sh, .int tp, .int lf, .int bt, .int rt])), (h1, .inl (cA, 1000, .inl f)), (h2, .inl (cB, 1000, .inl g))] sz)) (va_A [(h0, .inr (8, [.int cd, .int (nI items.flatten.length), .ref h1, .int md, .ref h2, .int ch, .int sh, .int tp, .int lf, .int bt, .int rt])), (h1, .inl (cA, 1000, .inl f)), (h2, .inl (cB, 1000, .inl g))] sz)
set_option maxHeartbeats 4000000 in
set_option maxRecDepth 100000 in
theorem kX10_shift (l : Launch) (D : va_G) (sz : Nat) (h0 : Nat) (h1 : Nat) (h2 : Nat) (cA : ClassId) (cB : ClassId) (cd : Int32) (md : Int32) (ch : Int32) (sh : Int32) (tp : Int32) (lf : Int32) (bt : Int32) (rt : Int32) (f : Nat → Int32) (g : Nat → Int32) (hom : Int32) (si : Int32) (z : Int32) (at_ : Int32) (nn : Int32) (items : List (List Int32)) (hok : ∀ it ∈ items, okI it) (hlen : items.flatten.length ≤ 1000) (hseg : Seg f 0 items.flatten) (h3 : 1 ≤ at_) (h4 : at_ ≤ fX10_lines z) (hn9 : ∃ n9 : Int32, 1 ≤ n9 ∧ n9 ≤ 16384 ∧ (nn = n9 ∨ nn = -n9)) : Met l yX10_shift wsX10_shift rmX10_shift (va_Pc [.ref h0, .int hom, .int si, .int z, .int at_, .int nn] (Pw D [(cA, .int), (cB, .int)] [(h0, .inr (8, [.int cd, .int (nI items.flatten.length), .ref h1, .int md, .ref h2, .int ch, .int sh, .int tp, .int lf, .int bt, .int rt])), (h1, .inl (cA, 1000, .inl f)), (h2, .inl (cB, 1000, .inl g))] sz)) (qX10_shift D sz h0 h1 h2 cA cB cd md ch sh tp lf bt rt f g hom si z at_ nn items) 0 0 (va_A [(h0, .inr (8, [.int cd, .int (nI items.flatten.length), .ref h1, .int md, .ref h2, .int ch, .int sh, .int tp, .int lf, .int bt, .int rt])), (h1, .inl (cA, 1000, .inl f)), (h2, .inl (cB, 1000, .inl g))] sz) := by
  refine Met.ofW (cc := cX10_shift) (maxL := 11) (ret := (some .int)) (by decide) rfl ?_
  intro p e s m args below meth c s₁ B hml hv
  obtain ⟨hargs, hsz, hP, hK, hD0, hN⟩ := hv
  have hx := B.exec
  have hb := B.bytes
  have hr := B.returns
  have hts := atoms_spec (ws := wsX10_shift) B.pre
  have hown : s.vm.findClass RX10 = some m.cls := findClass_of_methodNamed B.named
  have hlocks := B.notSynchronized
  subst hsz
  obtain ⟨A, hAe⟩ : ∃ A, A = va_A [(h0, .inr (8, [.int cd, .int (nI items.flatten.length), .ref h1, .int md, .ref h2, .int ch, .int sh, .int tp, .int lf, .int bt, .int rt])), (h1, .inl (cA, 1000, .inl f)), (h2, .inl (cB, 1000, .inl g))] s.heap.size := ⟨_, rfl⟩
  have hD : va_D A [(h0, .inr (8, [.int cd, .int (nI items.flatten.length), .ref h1, .int md, .ref h2, .int ch, .int sh, .int tp, .int lf, .int bt, .int rt])), (h1, .inl (cA, 1000, .inl f)), (h2, .inl (cB, 1000, .inl g))] := by rw [hAe]; exact hD0.self
  have hA : ∀ q : Nat, s.heap.size ≤ q → A q := by rw [hAe]; exact mo_A
  have hS : va_S A s.heap s.heap [] := va_S.rf
  have hfr : ∀ q, A q → (va_A [(h0, .inr (8, [.int cd, .int (nI items.flatten.length), .ref h1, .int md, .ref h2, .int ch, .int sh, .int tp, .int lf, .int bt, .int rt])), (h1, .inl (cA, 1000, .inl f)), (h2, .inl (cB, 1000, .inl g))] s.heap.size) q := fun q h => hAe ▸ h
  have hl := lv_entry ([.ref h0, .int hom, .int si, .int z, .int at_, .int nn]) (n := 11) (Nat.le_of_ble_eq_true rfl)
  rw [show entryFrame m args 11 = entryFrame m (([.ref h0, .int hom, .int si, .int z, .int at_, .int nn] : List Value).toArray) 11 by rw [hargs], lg_entry_eq]
  generalize (lg_sl ([.ref h0, .int hom, .int si, .int z, .int at_, .int nn]) ++ List.replicate (11 - (lg_sl ([.ref h0, .int hom, .int si, .int z, .int at_, .int nn])).length) Slot.unset).toArray = ls at hl ⊢
  have hl : lv_has ls 11 [(0, .ref h0), (1, .int hom), (2, .int si), (3, .int z), (4, .int at_), (5, .int nn)] := hl
  have C : Cx p s m meth c args D [(cA, .int), (cB, .int)] A cX10_shift wsX10_shift RX10 (some .int) 11 := ⟨hx, hb, hr, hml, hown, hts, hlocks, hK, hN, hA⟩
  have hRe : (resS (Tsh hom si z at_ nn) items f g) = (cnt (Tsh hom si z at_ nn) items, nI (outs (Tsh hom si z at_ nn) items).length, nI (outs (Tsh hom si z at_ nn) items).length, cnt (Tsh hom si z at_ nn) items, ffin (outs (Tsh hom si z at_ nn) items).length f (wr g 0 (outs (Tsh hom si z at_ nn) items)), wr g 0 (outs (Tsh hom si z at_ nn) items)) := rfl
  have hT : ∀ it ∈ items, okI it ∧ ((Tsh hom si z at_ nn) it).length ≤ it.length := fun it h => ⟨hok it h, by obtain ⟨n9, q1, q2, q3⟩ := hn9; exact (Tsh_ok h3 h4 q1 q2 q3 (hok it h)).2⟩
  have hle := outs_le hT
  refine kssh_0 h0 h1 h2 cA cB cd (nI items.flatten.length) md ch sh tp lf bt rt f g hom si z at_ nn C ?_ s.heap [] ls hP hD hS hl
  · intro H locs ls hP hD hS hl
    refine loopM _ (Tsh hom si z at_ nn) f items.flatten.length (lpM_sh h0 h1 h2 cA cB cd sh tp lf bt rt f hom si z at_ nn items.flatten.length hlen C _ rfl) items 0 0 0 g hT hseg (by omega) (Nat.le_refl 0) ?_ H locs ls hP hD hS hl
    rw [Nat.zero_add, Int32.zero_add]
    intro H locs ls hP hD hS hl
    refine kssh_x hfr h0 h1 h2 cA cB cd (nI items.flatten.length) (nI (outs (Tsh hom si z at_ nn) items).length) (cnt (Tsh hom si z at_ nn) items) sh tp lf bt rt f (wr g 0 (outs (Tsh hom si z at_ nn) items)) hom si z at_ nn (nI items.flatten.length) C (nI_le (Nat.le_refl _) (by omega)) (vp_in_nI (by omega) (by decide)) ?_ H locs ls hP hD hS hl
    intro H locs hP hD hS t ht hW
    have hFe : fX10_finish (nI (outs (Tsh hom si z at_ nn) items).length) (cnt (Tsh hom si z at_ nn) items) f (wr g 0 (outs (Tsh hom si z at_ nn) items)) = (cnt (Tsh hom si z at_ nn) items, nI (outs (Tsh hom si z at_ nn) items).length, ffin (outs (Tsh hom si z at_ nn) items).length f (wr g 0 (outs (Tsh hom si z at_ nn) items))) := by unfold fX10_finish; rw [nI_clamp (by omega)]
    rw [hFe] at hP hD ⊢
    exact ⟨⟨_, _, rfl, ⟨(), trivial, by rw [hRe], by rw [hRe]⟩, by rw [ht]; exact hP, by rw [← hAe]; exact hD⟩, by rw [← hAe]; exact hS.F ht⟩

abbrev qX10_move (D : va_G) (sz : Nat) (h0 : Nat) (h1 : Nat) (h2 : Nat) (cA : ClassId) (cB : ClassId) (cd : Int32) (md : Int32) (ch : Int32) (sh : Int32) (tp : Int32) (lf : Int32) (bt : Int32) (rt : Int32) (f : Nat → Int32) (g : Nat → Int32) (hom : Int32) (nh : Int32) (si : Int32) (rw : Int32) (cl : Int32) (items : List (List Int32)) : Array Value → State → Outcome → State → Prop := va_Qi (fun r_9 w_9 => ∃ _u : Unit, True ∧ r_9 = (resM (gmv tp lf bt rt hom nh si rw cl) (Tmv sh tp lf bt rt hom nh si rw cl) items md ch f g).1 ∧ w_9 = [(h0, .inr (8, [.int (resM (gmv tp lf bt rt hom nh si rw cl) (Tmv sh tp lf bt rt hom nh si rw cl) items md ch f g).2.1, .int (resM (gmv tp lf bt rt hom nh si rw cl) (Tmv sh tp lf bt rt hom nh si rw cl) items md ch f g).2.2.1, .ref h1, .int (resM (gmv tp lf bt rt hom nh si rw cl) (Tmv sh tp lf bt rt hom nh si rw cl) items md ch f g).2.2.2.1, .ref h2, .int (resM (gmv tp lf bt rt hom nh si rw cl) (Tmv sh tp lf bt rt hom nh si rw cl) items md ch f g).2.2.2.2.1, .int sh, .int tp, .int lf, .int bt, .int rt])), (h1, .inl (cA, 1000, .inl (resM (gmv tp lf bt rt hom nh si rw cl) (Tmv sh tp lf bt rt hom nh si rw cl) items md ch f g).2.2.2.2.2.1)), (h2, .inl (cB, 1000, .inl (resM (gmv tp lf bt rt hom nh si rw cl) (Tmv sh tp lf bt rt hom nh si rw cl) items md ch f g).2.2.2.2.2.2))]) (Bq D (va_A [(h0, .inr (8, [.int cd, .int (nI items.flatten.length), .ref h1, .int md, .ref h2, .int ch, .int sh, .int tp, .int lf, .int bt, .int rt])), (h1, .inl (cA, 1000, .inl f)), (h2, .inl (cB, 1000, .inl g))] sz)) (va_A [(h0, .inr (8, [.int cd, .int (nI items.flatten.length), .ref h1, .int md, .ref h2, .int ch, .int sh, .int tp, .int lf, .int bt, .int rt])), (h1, .inl (cA, 1000, .inl f)), (h2, .inl (cB, 1000, .inl g))] sz)
set_option maxHeartbeats 4000000 in
set_option maxRecDepth 100000 in
theorem kX10_move (l : Launch) (D : va_G) (sz : Nat) (h0 : Nat) (h1 : Nat) (h2 : Nat) (cA : ClassId) (cB : ClassId) (cd : Int32) (md : Int32) (ch : Int32) (sh : Int32) (tp : Int32) (lf : Int32) (bt : Int32) (rt : Int32) (f : Nat → Int32) (g : Nat → Int32) (hom : Int32) (nh : Int32) (si : Int32) (rw : Int32) (cl : Int32) (items : List (List Int32)) (hok : ∀ it ∈ items, okI it) (hlen : items.flatten.length ≤ 1000) (hseg : Seg f 0 items.flatten) (hrect : RectOk tp lf bt rt) : Met l yX10_move wsX10_move rmX10_move (va_Pc [.ref h0, .int hom, .int nh, .int si, .int rw, .int cl] (Pw D [(cA, .int), (cB, .int)] [(h0, .inr (8, [.int cd, .int (nI items.flatten.length), .ref h1, .int md, .ref h2, .int ch, .int sh, .int tp, .int lf, .int bt, .int rt])), (h1, .inl (cA, 1000, .inl f)), (h2, .inl (cB, 1000, .inl g))] sz)) (qX10_move D sz h0 h1 h2 cA cB cd md ch sh tp lf bt rt f g hom nh si rw cl items) 0 0 (va_A [(h0, .inr (8, [.int cd, .int (nI items.flatten.length), .ref h1, .int md, .ref h2, .int ch, .int sh, .int tp, .int lf, .int bt, .int rt])), (h1, .inl (cA, 1000, .inl f)), (h2, .inl (cB, 1000, .inl g))] sz) := by
  refine Met.ofW (cc := cX10_move) (maxL := 8) (ret := (some .int)) (by decide) rfl ?_
  intro p e s m args below meth c s₁ B hml hv
  obtain ⟨hargs, hsz, hP, hK, hD0, hN⟩ := hv
  have hx := B.exec
  have hb := B.bytes
  have hr := B.returns
  have hts := atoms_spec (ws := wsX10_move) B.pre
  have hown : s.vm.findClass RX10 = some m.cls := findClass_of_methodNamed B.named
  have hlocks := B.notSynchronized
  subst hsz
  obtain ⟨A, hAe⟩ : ∃ A, A = va_A [(h0, .inr (8, [.int cd, .int (nI items.flatten.length), .ref h1, .int md, .ref h2, .int ch, .int sh, .int tp, .int lf, .int bt, .int rt])), (h1, .inl (cA, 1000, .inl f)), (h2, .inl (cB, 1000, .inl g))] s.heap.size := ⟨_, rfl⟩
  have hD : va_D A [(h0, .inr (8, [.int cd, .int (nI items.flatten.length), .ref h1, .int md, .ref h2, .int ch, .int sh, .int tp, .int lf, .int bt, .int rt])), (h1, .inl (cA, 1000, .inl f)), (h2, .inl (cB, 1000, .inl g))] := by rw [hAe]; exact hD0.self
  have hA : ∀ q : Nat, s.heap.size ≤ q → A q := by rw [hAe]; exact mo_A
  have hS : va_S A s.heap s.heap [] := va_S.rf
  have hfr : ∀ q, A q → (va_A [(h0, .inr (8, [.int cd, .int (nI items.flatten.length), .ref h1, .int md, .ref h2, .int ch, .int sh, .int tp, .int lf, .int bt, .int rt])), (h1, .inl (cA, 1000, .inl f)), (h2, .inl (cB, 1000, .inl g))] s.heap.size) q := fun q h => hAe ▸ h
  have hl := lv_entry ([.ref h0, .int hom, .int nh, .int si, .int rw, .int cl]) (n := 8) (Nat.le_of_ble_eq_true rfl)
  rw [show entryFrame m args 8 = entryFrame m (([.ref h0, .int hom, .int nh, .int si, .int rw, .int cl] : List Value).toArray) 8 by rw [hargs], lg_entry_eq]
  generalize (lg_sl ([.ref h0, .int hom, .int nh, .int si, .int rw, .int cl]) ++ List.replicate (8 - (lg_sl ([.ref h0, .int hom, .int nh, .int si, .int rw, .int cl])).length) Slot.unset).toArray = ls at hl ⊢
  have hl : lv_has ls 8 [(0, .ref h0), (1, .int hom), (2, .int nh), (3, .int si), (4, .int rw), (5, .int cl)] := hl
  have C : Cx p s m meth c args D [(cA, .int), (cB, .int)] A cX10_move wsX10_move RX10 (some .int) 8 := ⟨hx, hb, hr, hml, hown, hts, hlocks, hK, hN, hA⟩
  refine ksmv_0 hfr h0 h1 h2 cA cB cd (nI items.flatten.length) md ch sh tp lf bt rt f g hom nh si rw cl C ?_ ?_ s.heap [] ls hP hD hS hl
  · intro hg H locs ls hP hD hS hl
    have hg1 : gmv tp lf bt rt hom nh si rw cl = 1 := by
      by_cases q : gmv tp lf bt rt hom nh si rw cl = 1
      · exact q
      · rw [gmv_eq, if_neg q] at hg
        exact absurd (show (0 : Int32) = 1 from hg) (by decide)
    rw [gmv_eq, if_pos hg1] at hP hD
    have hRe : (resM (gmv tp lf bt rt hom nh si rw cl) (Tmv sh tp lf bt rt hom nh si rw cl) items md ch f g) = (cnt (Tmv sh tp lf bt rt hom nh si rw cl) items, 0, nI (outs (Tmv sh tp lf bt rt hom nh si rw cl) items).length, nI (outs (Tmv sh tp lf bt rt hom nh si rw cl) items).length, cnt (Tmv sh tp lf bt rt hom nh si rw cl) items, ffin (outs (Tmv sh tp lf bt rt hom nh si rw cl) items).length f (wr g 0 (outs (Tmv sh tp lf bt rt hom nh si rw cl) items)), wr g 0 (outs (Tmv sh tp lf bt rt hom nh si rw cl) items)) := if_pos hg1
    have hT : ∀ it ∈ items, okI it ∧ ((Tmv sh tp lf bt rt hom nh si rw cl) it).length ≤ it.length := fun it h => ⟨hok it h, (Tmv_ok (gmv_ok hrect hg1) (hok it h)).2⟩
    have hle := outs_le hT
    refine loopM _ (Tmv sh tp lf bt rt hom nh si rw cl) f items.flatten.length (lpM_mv h0 h1 h2 cA cB 0 sh tp lf bt rt f hom nh si rw cl items.flatten.length hlen C _ rfl) items 0 0 0 g hT hseg (by omega) (Nat.le_refl 0) ?_ H locs ls hP hD hS hl
    rw [Nat.zero_add, Int32.zero_add]
    intro H locs ls hP hD hS hl
    refine ksmv_x hfr h0 h1 h2 cA cB 0 (nI items.flatten.length) (nI (outs (Tmv sh tp lf bt rt hom nh si rw cl) items).length) (cnt (Tmv sh tp lf bt rt hom nh si rw cl) items) sh tp lf bt rt f (wr g 0 (outs (Tmv sh tp lf bt rt hom nh si rw cl) items)) hom nh si rw cl (nI items.flatten.length) C (nI_le (Nat.le_refl _) (by omega)) (vp_in_nI (by omega) (by decide)) ?_ H locs ls hP hD hS hl
    intro H locs hP hD hS t ht hW
    have hFe : fX10_finish (nI (outs (Tmv sh tp lf bt rt hom nh si rw cl) items).length) (cnt (Tmv sh tp lf bt rt hom nh si rw cl) items) f (wr g 0 (outs (Tmv sh tp lf bt rt hom nh si rw cl) items)) = (cnt (Tmv sh tp lf bt rt hom nh si rw cl) items, nI (outs (Tmv sh tp lf bt rt hom nh si rw cl) items).length, ffin (outs (Tmv sh tp lf bt rt hom nh si rw cl) items).length f (wr g 0 (outs (Tmv sh tp lf bt rt hom nh si rw cl) items))) := by unfold fX10_finish; rw [nI_clamp (by omega)]
    rw [hFe] at hP hD ⊢
    exact ⟨⟨_, _, rfl, ⟨(), trivial, by rw [hRe], by rw [hRe]⟩, by rw [ht]; exact hP, by rw [← hAe]; exact hD⟩, by rw [← hAe]; exact hS.F ht⟩
  · intro hg H locs hP hD hS t ht hW
    have hg1 : ¬ gmv tp lf bt rt hom nh si rw cl = 1 := fun q => by rw [gmv_eq, if_pos q] at hg; exact absurd (show (1 : Int32) = 0 from hg) (by decide)
    rw [gmv_eq, if_neg hg1] at hP hD
    have hRe : (resM (gmv tp lf bt rt hom nh si rw cl) (Tmv sh tp lf bt rt hom nh si rw cl) items md ch f g) = (0, 1, nI items.flatten.length, md, ch, f, g) := if_neg hg1
    exact ⟨⟨_, _, rfl, ⟨(), trivial, by rw [hRe], by rw [hRe]⟩, by rw [ht]; exact hP, by rw [← hAe]; exact hD⟩, by rw [← hAe]; exact hS.F ht⟩

def fX10_insert (md : Int32) (ch : Int32) (f : Nat → Int32) (g : Nat → Int32) (p1 : Int32) (p2 : Int32) (p3 : Int32) (p4 : Int32) (p5 : Int32) (items : List (List Int32)) : Int32 × Int32 × Int32 × Int32 × Int32 × (Nat → Int32) × (Nat → Int32) := let v_1 : Int32 := (if (fX10_isLine p1 p2 p3 p4 p5) = 0 then 1 else 0); if v_1 = 0 then (((resS (Tsh p1 p2 p3 p4 p5) items f g).1, v_1, (resS (Tsh p1 p2 p3 p4 p5) items f g).2.1, (resS (Tsh p1 p2 p3 p4 p5) items f g).2.2.1, (resS (Tsh p1 p2 p3 p4 p5) items f g).2.2.2.1, (resS (Tsh p1 p2 p3 p4 p5) items f g).2.2.2.2.1, (resS (Tsh p1 p2 p3 p4 p5) items f g).2.2.2.2.2)) else ((0, v_1, (nI items.flatten.length), md, ch, f, g))
abbrev rmX10_insert : Room := { frames := 5, cells := 0, slots := 0, locals := 127 }
abbrev qX10_insert (D : va_G) (sz : Nat) (h0 : Nat) (h1 : Nat) (h2 : Nat) (cA : ClassId) (cB : ClassId) (cd : Int32) (md : Int32) (ch : Int32) (sh : Int32) (tp : Int32) (lf : Int32) (bt : Int32) (rt : Int32) (f : Nat → Int32) (g : Nat → Int32) (p1 : Int32) (p2 : Int32) (p3 : Int32) (p4 : Int32) (p5 : Int32) (items : List (List Int32)) : Array Value → State → Outcome → State → Prop := va_Qi (fun r_9 w_9 => ∃ _u : Unit, True ∧ r_9 = (fX10_insert md ch f g p1 p2 p3 p4 p5 items).1 ∧ w_9 = [(h0, .inr (8, [.int (fX10_insert md ch f g p1 p2 p3 p4 p5 items).2.1, .int (fX10_insert md ch f g p1 p2 p3 p4 p5 items).2.2.1, .ref h1, .int (fX10_insert md ch f g p1 p2 p3 p4 p5 items).2.2.2.1, .ref h2, .int (fX10_insert md ch f g p1 p2 p3 p4 p5 items).2.2.2.2.1, .int sh, .int tp, .int lf, .int bt, .int rt])), (h1, .inl (cA, 1000, .inl (fX10_insert md ch f g p1 p2 p3 p4 p5 items).2.2.2.2.2.1)), (h2, .inl (cB, 1000, .inl (fX10_insert md ch f g p1 p2 p3 p4 p5 items).2.2.2.2.2.2))]) (Bq D (va_A [(h0, .inr (8, [.int cd, .int (nI items.flatten.length), .ref h1, .int md, .ref h2, .int ch, .int sh, .int tp, .int lf, .int bt, .int rt])), (h1, .inl (cA, 1000, .inl f)), (h2, .inl (cB, 1000, .inl g))] sz)) (va_A [(h0, .inr (8, [.int cd, .int (nI items.flatten.length), .ref h1, .int md, .ref h2, .int ch, .int sh, .int tp, .int lf, .int bt, .int rt])), (h1, .inl (cA, 1000, .inl f)), (h2, .inl (cB, 1000, .inl g))] sz)
set_option maxHeartbeats 4000000 in
set_option maxRecDepth 100000 in
theorem kX10_insert (l : Launch) (D : va_G) (sz : Nat) (h0 : Nat) (h1 : Nat) (h2 : Nat) (cA : ClassId) (cB : ClassId) (cd : Int32) (md : Int32) (ch : Int32) (sh : Int32) (tp : Int32) (lf : Int32) (bt : Int32) (rt : Int32) (f : Nat → Int32) (g : Nat → Int32) (p1 : Int32) (p2 : Int32) (p3 : Int32) (p4 : Int32) (p5 : Int32) (items : List (List Int32)) (hok : ∀ it ∈ items, okI it) (hlen : items.flatten.length ≤ 1000) (hseg : Seg f 0 items.flatten) : Met l yX10_insert wsX10_insert rmX10_insert (va_Pc [.ref h0, .int p1, .int p2, .int p3, .int p4, .int p5] (Pw D [(cA, .int), (cB, .int)] [(h0, .inr (8, [.int cd, .int (nI items.flatten.length), .ref h1, .int md, .ref h2, .int ch, .int sh, .int tp, .int lf, .int bt, .int rt])), (h1, .inl (cA, 1000, .inl f)), (h2, .inl (cB, 1000, .inl g))] sz)) (qX10_insert D sz h0 h1 h2 cA cB cd md ch sh tp lf bt rt f g p1 p2 p3 p4 p5 items) 0 0 (va_A [(h0, .inr (8, [.int cd, .int (nI items.flatten.length), .ref h1, .int md, .ref h2, .int ch, .int sh, .int tp, .int lf, .int bt, .int rt])), (h1, .inl (cA, 1000, .inl f)), (h2, .inl (cB, 1000, .inl g))] sz) := by
  refine Met.ofW (cc := cX10_insert) (maxL := 6) (ret := (some .int)) (by decide) rfl ?_
  intro p e s m args below meth c s₁ B hml hv
  obtain ⟨rfl, hsz, hP, hK, hD0, hN⟩ := hv
  have hx := B.exec
  have hb := B.bytes
  have hr := B.returns
  have hts := atoms_spec (ws := wsX10_insert) B.pre
  have hown : s.vm.findClass RX10 = some m.cls := findClass_of_methodNamed B.named
  have hlocks := B.notSynchronized
  subst hsz
  obtain ⟨Q, hQe⟩ : ∃ Q, Q = MQ below (qX10_insert D s.heap.size h0 h1 h2 cA cB cd md ch sh tp lf bt rt f g p1 p2 p3 p4 p5 items) ([.ref h0, .int p1, .int p2, .int p3, .int p4, .int p5] : List Value).toArray s 0 0 (va_A [(h0, .inr (8, [.int cd, .int (nI items.flatten.length), .ref h1, .int md, .ref h2, .int ch, .int sh, .int tp, .int lf, .int bt, .int rt])), (h1, .inl (cA, 1000, .inl f)), (h2, .inl (cB, 1000, .inl g))] s.heap.size) := ⟨_, rfl⟩
  rw [← hQe]
  obtain ⟨A, hAe⟩ : ∃ A, A = va_A [(h0, .inr (8, [.int cd, .int (nI items.flatten.length), .ref h1, .int md, .ref h2, .int ch, .int sh, .int tp, .int lf, .int bt, .int rt])), (h1, .inl (cA, 1000, .inl f)), (h2, .inl (cB, 1000, .inl g))] s.heap.size := ⟨_, rfl⟩
  have hD : va_D A [(h0, .inr (8, [.int cd, .int (nI items.flatten.length), .ref h1, .int md, .ref h2, .int ch, .int sh, .int tp, .int lf, .int bt, .int rt])), (h1, .inl (cA, 1000, .inl f)), (h2, .inl (cB, 1000, .inl g))] := by rw [hAe]; exact hD0.self
  have hA : ∀ q : Nat, s.heap.size ≤ q → A q := by rw [hAe]; exact mo_A
  have hS : va_S A s.heap s.heap [] := va_S.rf
  obtain ⟨H, hHe⟩ : ∃ H, H = s.heap := ⟨_, rfl⟩
  obtain ⟨locs, hLe⟩ : ∃ L : List Loc, L = [] := ⟨_, rfl⟩
  have hP : va_P D vwCl [(h0, .inr (8, [.int cd, .int (nI items.flatten.length), .ref h1, .int md, .ref h2, .int ch, .int sh, .int tp, .int lf, .int bt, .int rt])), (h1, .inl (cA, 1000, .inl f)), (h2, .inl (cB, 1000, .inl g))] H := by rw [hHe]; exact hP
  have hS : va_S A s.heap H locs := by rw [hHe, hLe]; exact hS
  have hl := lv_entry ([.ref h0, .int p1, .int p2, .int p3, .int p4, .int p5]) (n := 6) (Nat.le_of_ble_eq_true rfl)
  rw [lg_entry_eq]
  generalize (lg_sl ([.ref h0, .int p1, .int p2, .int p3, .int p4, .int p5]) ++ List.replicate (6 - (lg_sl ([.ref h0, .int p1, .int p2, .int p3, .int p4, .int p5])).length) Slot.unset).toArray = ls at hl ⊢
  have hl : lv_has ls 6 [(0, .ref h0), (1, .int p1), (2, .int p2), (3, .int p3), (4, .int p4), (5, .int p5)] := hl
  refine hStart hHe hLe ?_
  clear hHe hLe
  have w_X10 : ∀ w ∈ wsX100, w ∈ wsX10_insert := by decide +kernel
  have f_29 := hts (.fieldLink RX10 29 "ReferenceMoverModel" "code" "I") (by decide +kernel)
  refine lv_aload_n hx hb dX10_insert_0 rfl (lv_at hl 0 rfl) ?_
  refine lv_iload_n hx hb dX10_insert_1 rfl (lv_at hl 1 rfl) ?_
  refine lv_iload_n hx hb dX10_insert_2 rfl (lv_at hl 2 rfl) ?_
  refine lv_iload_n hx hb dX10_insert_3 rfl (lv_at hl 3 rfl) ?_
  refine lv_iload hx hb dX10_insert_4 (lv_at hl 4 rfl) ?_
  refine lv_iload hx hb dX10_insert_6 (lv_at hl 5 rfl) ?_
  have hPc := hP.sub (ws' := []) [] rfl
  have hDc := hD.sub (ws' := []) [] (by decide) rfl
  have hKc := hK.sub (tys' := []) [] rfl
  refine rd_i (va_runS (As := [.int p1, .int p2, .int p3, .int p4, .int p5]) (rest := [.ref h0]) ⟨hx, hb, hml, hown, hts⟩ (kX10_isLine l D H.size p1 p2 p3 p4 p5 ) (va_cwS 5 hts gX10_insert_X10_isLine rfl rfl rfl (by decide +kernel) ⟨Nat.le_of_ble_eq_true rfl, Nat.le_of_ble_eq_true rfl⟩) ⟨Pw_blind, fun U hU hW => Pw_at hKc hPc hDc hN hU hW⟩ rfl rfl hl.1 rfl (lv_room (Nat.le_of_ble_eq_true rfl)) dX10_insert_8 ⟨Nat.le_of_ble_eq_true rfl, Nat.le_of_ble_eq_true rfl⟩) ?_
  have K19_1 : ∀ (v_1 : Int32), v_1 = (if (fX10_isLine p1 p2 p3 p4 p5) = 0 then 1 else 0) → ∀ ls : Array Slot, lv_has ls 6 [(0, .ref h0), (1, .int p1), (2, .int p2), (3, .int p3), (4, .int p4), (5, .int p5)] → W p l e (headSpec wsX10_insert rmX10_insert).room s m ([.ref h0, .int p1, .int p2, .int p3, .int p4, .int p5] : List Value).toArray below meth c H locs 0 0 Q (F0 m 19 ls [.int v_1, .ref h0]) := by
    intro v_1 ev_1 ls hl
    refine va_put (D := D) (ci := 8) (v := .int v_1) (ty := .int) (C := RX10) (T := TX10) (N := 11) hx hb hts w_X10 tyX10 tyX10_ok nmX10 hown hK hP hD hS 0 rfl rfl 0 (by decide) f_29 (fun _ h9 => h9) rfl (by decide +kernel) rfl rfl (Nat.le_of_ble_eq_true rfl) dX10_insert_19 (fun H locs hP hD hS => ?_)
    have hP : va_P D vwCl [(h0, .inr (8, [.int v_1, .int (nI items.flatten.length), .ref h1, .int md, .ref h2, .int ch, .int sh, .int tp, .int lf, .int bt, .int rt])), (h1, .inl (cA, 1000, .inl f)), (h2, .inl (cB, 1000, .inl g))] H := hP
    have hD : va_D A [(h0, .inr (8, [.int v_1, .int (nI items.flatten.length), .ref h1, .int md, .ref h2, .int ch, .int sh, .int tp, .int lf, .int bt, .int rt])), (h1, .inl (cA, 1000, .inl f)), (h2, .inl (cB, 1000, .inl g))] := hD
    refine lv_aload_n hx hb dX10_insert_22 rfl (lv_at hl 0 rfl) ?_
    refine va_get (D := D) (ci := 8) (v := .int v_1) (C := RX10) (T := TX10) (N := 11) hx hb hts w_X10 hown hK hP 0 rfl rfl 0 (by decide) f_29 (fun _ h9 => h9) rfl dX10_insert_23 ?_
    refine lv_if_ne (tgt := 43) hx hb dX10_insert_26 (by decide) (fun c26 => ?_) (fun c26 => ?_)
    · refine lv_iconst (v := 0) hx hb dX10_insert_43 (by decide) ?_
      have hF : (fX10_insert md ch f g p1 p2 p3 p4 p5 items) = (0, v_1, (nI items.flatten.length), md, ch, f, g) := by subst ev_1; exact (if_neg c26)
      subst hAe
      subst hQe
      exact W.iret (v := 0) hx hb hr (fun t ht hW => ⟨⟨_, _, rfl, ⟨(), trivial, by rw [hF], by rw [hF]⟩, by rw [ht]; exact hP, hD⟩, hS.F ht⟩) hS.2.2 dX10_insert_44
    · have hh : 1 ≤ p4 ∧ p4 ≤ fX10_lines p3 ∧ 1 ≤ p5 ∧ p5 ≤ 16384 := insOk ev_1 c26
      have h3 : 1 ≤ p4 := hh.1
      have h4 : p4 ≤ fX10_lines p3 := hh.2.1
      have hn9 : ∃ n9 : Int32, 1 ≤ n9 ∧ n9 ≤ 16384 ∧ (p5 = n9 ∨ p5 = -n9) := ⟨p5, hh.2.2.1, hh.2.2.2, Or.inl rfl⟩
      refine lv_aload_n hx hb dX10_insert_29 rfl (lv_at hl 0 rfl) ?_
      refine lv_iload_n hx hb dX10_insert_30 rfl (lv_at hl 1 rfl) ?_
      refine lv_iload_n hx hb dX10_insert_31 rfl (lv_at hl 2 rfl) ?_
      refine lv_iload_n hx hb dX10_insert_32 rfl (lv_at hl 3 rfl) ?_
      refine lv_iload hx hb dX10_insert_33 (lv_at hl 4 rfl) ?_
      refine lv_iload hx hb dX10_insert_35 (lv_at hl 5 rfl) ?_
      have hPc := hP.sub (ws' := [(h0, .inr (8, [.int v_1, .int (nI items.flatten.length), .ref h1, .int md, .ref h2, .int ch, .int sh, .int tp, .int lf, .int bt, .int rt])), (h1, .inl (cA, 1000, .inl f)), (h2, .inl (cB, 1000, .inl g))]) [0, 1, 2] rfl
      have hDc := hD.sub (ws' := [(h0, .inr (8, [.int v_1, .int (nI items.flatten.length), .ref h1, .int md, .ref h2, .int ch, .int sh, .int tp, .int lf, .int bt, .int rt])), (h1, .inl (cA, 1000, .inl f)), (h2, .inl (cB, 1000, .inl g))]) [0, 1, 2] (by decide) rfl
      have hKc := hK.sub (tys' := [(cA, .int), (cB, .int)]) [0, 1] rfl
      refine wk_i (β := Unit) (ok := fun _ => True) (wc := [(h0, .inr (8, [.int v_1, .int (nI items.flatten.length), .ref h1, .int md, .ref h2, .int ch, .int sh, .int tp, .int lf, .int bt, .int rt])), (h1, .inl (cA, 1000, .inl f)), (h2, .inl (cB, 1000, .inl g))]) (wr := []) (w1 := fun _ => [(h0, .inr (8, [.int v_1, .int (resS (Tsh p1 p2 p3 p4 p5) items f g).2.1, .ref h1, .int (resS (Tsh p1 p2 p3 p4 p5) items f g).2.2.1, .ref h2, .int (resS (Tsh p1 p2 p3 p4 p5) items f g).2.2.2.1, .int sh, .int tp, .int lf, .int bt, .int rt])), (h1, .inl (cA, 1000, .inl (resS (Tsh p1 p2 p3 p4 p5) items f g).2.2.2.2.1)), (h2, .inl (cB, 1000, .inl (resS (Tsh p1 p2 p3 p4 p5) items f g).2.2.2.2.2))]) (ws2 := fun _ => [(h0, .inr (8, [.int v_1, .int (resS (Tsh p1 p2 p3 p4 p5) items f g).2.1, .ref h1, .int (resS (Tsh p1 p2 p3 p4 p5) items f g).2.2.1, .ref h2, .int (resS (Tsh p1 p2 p3 p4 p5) items f g).2.2.2.1, .int sh, .int tp, .int lf, .int bt, .int rt])), (h1, .inl (cA, 1000, .inl (resS (Tsh p1 p2 p3 p4 p5) items f g).2.2.2.2.1)), (h2, .inl (cB, 1000, .inl (resS (Tsh p1 p2 p3 p4 p5) items f g).2.2.2.2.2))]) (r1 := fun _ => (resS (Tsh p1 p2 p3 p4 p5) items f g).1) (va_runV (As := [.int p1, .int p2, .int p3, .int p4, .int p5]) (rest := []) ⟨hx, hb, hml, hown, hts⟩ (kX10_shift l D H.size h0 h1 h2 cA cB v_1 md ch sh tp lf bt rt f g p1 p2 p3 p4 p5 items (by assumption) (by assumption) (by assumption) (by assumption) (by assumption) (by assumption)) (cwV 5 hts gX10_insert_X10_shift rfl rfl rfl (by decide +kernel) ⟨Nat.le_of_ble_eq_true rfl, Nat.le_of_ble_eq_true rfl⟩) ⟨Pw_blind, (va_recv hKc hPc (ci := 8) (q0 := 0) rfl rfl), fun U hU hW => Pw_at hKc hPc hDc hN hU hW⟩ rfl rfl hl.1 rfl (lv_room (Nat.le_of_ble_eq_true rfl)) dX10_insert_37 ⟨Nat.le_of_ble_eq_true rfl, Nat.le_of_ble_eq_true rfl⟩) hP hD hS hA [0, 1, 2] [] [0, 1, 2] rfl rfl (by decide) (by decide) (fun _ => rfl) (by decide) (fun _ _ H locs hP hD hS => ?_)
      have hP : va_P D vwCl [(h0, .inr (8, [.int v_1, .int (resS (Tsh p1 p2 p3 p4 p5) items f g).2.1, .ref h1, .int (resS (Tsh p1 p2 p3 p4 p5) items f g).2.2.1, .ref h2, .int (resS (Tsh p1 p2 p3 p4 p5) items f g).2.2.2.1, .int sh, .int tp, .int lf, .int bt, .int rt])), (h1, .inl (cA, 1000, .inl (resS (Tsh p1 p2 p3 p4 p5) items f g).2.2.2.2.1)), (h2, .inl (cB, 1000, .inl (resS (Tsh p1 p2 p3 p4 p5) items f g).2.2.2.2.2))] H := hP
      have hD : va_D A [(h0, .inr (8, [.int v_1, .int (resS (Tsh p1 p2 p3 p4 p5) items f g).2.1, .ref h1, .int (resS (Tsh p1 p2 p3 p4 p5) items f g).2.2.1, .ref h2, .int (resS (Tsh p1 p2 p3 p4 p5) items f g).2.2.2.1, .int sh, .int tp, .int lf, .int bt, .int rt])), (h1, .inl (cA, 1000, .inl (resS (Tsh p1 p2 p3 p4 p5) items f g).2.2.2.2.1)), (h2, .inl (cB, 1000, .inl (resS (Tsh p1 p2 p3 p4 p5) items f g).2.2.2.2.2))] := hD
      refine lv_goto (tgt := 44) hx hb dX10_insert_40 (by decide) ?_
      have hF : (fX10_insert md ch f g p1 p2 p3 p4 p5 items) = ((resS (Tsh p1 p2 p3 p4 p5) items f g).1, v_1, (resS (Tsh p1 p2 p3 p4 p5) items f g).2.1, (resS (Tsh p1 p2 p3 p4 p5) items f g).2.2.1, (resS (Tsh p1 p2 p3 p4 p5) items f g).2.2.2.1, (resS (Tsh p1 p2 p3 p4 p5) items f g).2.2.2.2.1, (resS (Tsh p1 p2 p3 p4 p5) items f g).2.2.2.2.2) := by subst ev_1; exact (if_pos c26)
      subst hAe
      subst hQe
      exact W.iret (v := (resS (Tsh p1 p2 p3 p4 p5) items f g).1) hx hb hr (fun t ht hW => ⟨⟨_, _, rfl, ⟨(), trivial, by rw [hF], by rw [hF]⟩, by rw [ht]; exact hP, hD⟩, hS.F ht⟩) hS.2.2 dX10_insert_44
  refine lv_if_eq (tgt := 18) hx hb dX10_insert_11 (by decide) (fun c11 => ?_) (fun c11 => ?_)
  · refine lv_iconst (v := 1) hx hb dX10_insert_18 (by decide) ?_
    exact K19_1 _ (if_pos c11).symm ls (lv_sub hl [0, 1, 2, 3, 4, 5] rfl)
  · refine lv_iconst (v := 0) hx hb dX10_insert_14 (by decide) ?_
    refine lv_goto (tgt := 19) hx hb dX10_insert_15 (by decide) ?_
    exact K19_1 _ (if_neg c11).symm ls (lv_sub hl [0, 1, 2, 3, 4, 5] rfl)

def fX10_delete (md : Int32) (ch : Int32) (f : Nat → Int32) (g : Nat → Int32) (p1 : Int32) (p2 : Int32) (p3 : Int32) (p4 : Int32) (p5 : Int32) (items : List (List Int32)) : Int32 × Int32 × Int32 × Int32 × Int32 × (Nat → Int32) × (Nat → Int32) := let v_1 : Int32 := (if (fX10_isLine p1 p2 p3 p4 p5) = 0 then 1 else 0); if v_1 = 0 then (((resS (Tsh p1 p2 p3 p4 (-p5)) items f g).1, v_1, (resS (Tsh p1 p2 p3 p4 (-p5)) items f g).2.1, (resS (Tsh p1 p2 p3 p4 (-p5)) items f g).2.2.1, (resS (Tsh p1 p2 p3 p4 (-p5)) items f g).2.2.2.1, (resS (Tsh p1 p2 p3 p4 (-p5)) items f g).2.2.2.2.1, (resS (Tsh p1 p2 p3 p4 (-p5)) items f g).2.2.2.2.2)) else ((0, v_1, (nI items.flatten.length), md, ch, f, g))
abbrev rmX10_delete : Room := { frames := 5, cells := 0, slots := 0, locals := 127 }
abbrev qX10_delete (D : va_G) (sz : Nat) (h0 : Nat) (h1 : Nat) (h2 : Nat) (cA : ClassId) (cB : ClassId) (cd : Int32) (md : Int32) (ch : Int32) (sh : Int32) (tp : Int32) (lf : Int32) (bt : Int32) (rt : Int32) (f : Nat → Int32) (g : Nat → Int32) (p1 : Int32) (p2 : Int32) (p3 : Int32) (p4 : Int32) (p5 : Int32) (items : List (List Int32)) : Array Value → State → Outcome → State → Prop := va_Qi (fun r_9 w_9 => ∃ _u : Unit, True ∧ r_9 = (fX10_delete md ch f g p1 p2 p3 p4 p5 items).1 ∧ w_9 = [(h0, .inr (8, [.int (fX10_delete md ch f g p1 p2 p3 p4 p5 items).2.1, .int (fX10_delete md ch f g p1 p2 p3 p4 p5 items).2.2.1, .ref h1, .int (fX10_delete md ch f g p1 p2 p3 p4 p5 items).2.2.2.1, .ref h2, .int (fX10_delete md ch f g p1 p2 p3 p4 p5 items).2.2.2.2.1, .int sh, .int tp, .int lf, .int bt, .int rt])), (h1, .inl (cA, 1000, .inl (fX10_delete md ch f g p1 p2 p3 p4 p5 items).2.2.2.2.2.1)), (h2, .inl (cB, 1000, .inl (fX10_delete md ch f g p1 p2 p3 p4 p5 items).2.2.2.2.2.2))]) (Bq D (va_A [(h0, .inr (8, [.int cd, .int (nI items.flatten.length), .ref h1, .int md, .ref h2, .int ch, .int sh, .int tp, .int lf, .int bt, .int rt])), (h1, .inl (cA, 1000, .inl f)), (h2, .inl (cB, 1000, .inl g))] sz)) (va_A [(h0, .inr (8, [.int cd, .int (nI items.flatten.length), .ref h1, .int md, .ref h2, .int ch, .int sh, .int tp, .int lf, .int bt, .int rt])), (h1, .inl (cA, 1000, .inl f)), (h2, .inl (cB, 1000, .inl g))] sz)
set_option maxHeartbeats 4000000 in
set_option maxRecDepth 100000 in
theorem kX10_delete (l : Launch) (D : va_G) (sz : Nat) (h0 : Nat) (h1 : Nat) (h2 : Nat) (cA : ClassId) (cB : ClassId) (cd : Int32) (md : Int32) (ch : Int32) (sh : Int32) (tp : Int32) (lf : Int32) (bt : Int32) (rt : Int32) (f : Nat → Int32) (g : Nat → Int32) (p1 : Int32) (p2 : Int32) (p3 : Int32) (p4 : Int32) (p5 : Int32) (items : List (List Int32)) (hok : ∀ it ∈ items, okI it) (hlen : items.flatten.length ≤ 1000) (hseg : Seg f 0 items.flatten) : Met l yX10_delete wsX10_delete rmX10_delete (va_Pc [.ref h0, .int p1, .int p2, .int p3, .int p4, .int p5] (Pw D [(cA, .int), (cB, .int)] [(h0, .inr (8, [.int cd, .int (nI items.flatten.length), .ref h1, .int md, .ref h2, .int ch, .int sh, .int tp, .int lf, .int bt, .int rt])), (h1, .inl (cA, 1000, .inl f)), (h2, .inl (cB, 1000, .inl g))] sz)) (qX10_delete D sz h0 h1 h2 cA cB cd md ch sh tp lf bt rt f g p1 p2 p3 p4 p5 items) 0 0 (va_A [(h0, .inr (8, [.int cd, .int (nI items.flatten.length), .ref h1, .int md, .ref h2, .int ch, .int sh, .int tp, .int lf, .int bt, .int rt])), (h1, .inl (cA, 1000, .inl f)), (h2, .inl (cB, 1000, .inl g))] sz) := by
  refine Met.ofW (cc := cX10_delete) (maxL := 6) (ret := (some .int)) (by decide) rfl ?_
  intro p e s m args below meth c s₁ B hml hv
  obtain ⟨rfl, hsz, hP, hK, hD0, hN⟩ := hv
  have hx := B.exec
  have hb := B.bytes
  have hr := B.returns
  have hts := atoms_spec (ws := wsX10_delete) B.pre
  have hown : s.vm.findClass RX10 = some m.cls := findClass_of_methodNamed B.named
  have hlocks := B.notSynchronized
  subst hsz
  obtain ⟨Q, hQe⟩ : ∃ Q, Q = MQ below (qX10_delete D s.heap.size h0 h1 h2 cA cB cd md ch sh tp lf bt rt f g p1 p2 p3 p4 p5 items) ([.ref h0, .int p1, .int p2, .int p3, .int p4, .int p5] : List Value).toArray s 0 0 (va_A [(h0, .inr (8, [.int cd, .int (nI items.flatten.length), .ref h1, .int md, .ref h2, .int ch, .int sh, .int tp, .int lf, .int bt, .int rt])), (h1, .inl (cA, 1000, .inl f)), (h2, .inl (cB, 1000, .inl g))] s.heap.size) := ⟨_, rfl⟩
  rw [← hQe]
  obtain ⟨A, hAe⟩ : ∃ A, A = va_A [(h0, .inr (8, [.int cd, .int (nI items.flatten.length), .ref h1, .int md, .ref h2, .int ch, .int sh, .int tp, .int lf, .int bt, .int rt])), (h1, .inl (cA, 1000, .inl f)), (h2, .inl (cB, 1000, .inl g))] s.heap.size := ⟨_, rfl⟩
  have hD : va_D A [(h0, .inr (8, [.int cd, .int (nI items.flatten.length), .ref h1, .int md, .ref h2, .int ch, .int sh, .int tp, .int lf, .int bt, .int rt])), (h1, .inl (cA, 1000, .inl f)), (h2, .inl (cB, 1000, .inl g))] := by rw [hAe]; exact hD0.self
  have hA : ∀ q : Nat, s.heap.size ≤ q → A q := by rw [hAe]; exact mo_A
  have hS : va_S A s.heap s.heap [] := va_S.rf
  obtain ⟨H, hHe⟩ : ∃ H, H = s.heap := ⟨_, rfl⟩
  obtain ⟨locs, hLe⟩ : ∃ L : List Loc, L = [] := ⟨_, rfl⟩
  have hP : va_P D vwCl [(h0, .inr (8, [.int cd, .int (nI items.flatten.length), .ref h1, .int md, .ref h2, .int ch, .int sh, .int tp, .int lf, .int bt, .int rt])), (h1, .inl (cA, 1000, .inl f)), (h2, .inl (cB, 1000, .inl g))] H := by rw [hHe]; exact hP
  have hS : va_S A s.heap H locs := by rw [hHe, hLe]; exact hS
  have hl := lv_entry ([.ref h0, .int p1, .int p2, .int p3, .int p4, .int p5]) (n := 6) (Nat.le_of_ble_eq_true rfl)
  rw [lg_entry_eq]
  generalize (lg_sl ([.ref h0, .int p1, .int p2, .int p3, .int p4, .int p5]) ++ List.replicate (6 - (lg_sl ([.ref h0, .int p1, .int p2, .int p3, .int p4, .int p5])).length) Slot.unset).toArray = ls at hl ⊢
  have hl : lv_has ls 6 [(0, .ref h0), (1, .int p1), (2, .int p2), (3, .int p3), (4, .int p4), (5, .int p5)] := hl
  refine hStart hHe hLe ?_
  clear hHe hLe
  have w_X10 : ∀ w ∈ wsX100, w ∈ wsX10_delete := by decide +kernel
  have f_29 := hts (.fieldLink RX10 29 "ReferenceMoverModel" "code" "I") (by decide +kernel)
  refine lv_aload_n hx hb dX10_delete_0 rfl (lv_at hl 0 rfl) ?_
  refine lv_iload_n hx hb dX10_delete_1 rfl (lv_at hl 1 rfl) ?_
  refine lv_iload_n hx hb dX10_delete_2 rfl (lv_at hl 2 rfl) ?_
  refine lv_iload_n hx hb dX10_delete_3 rfl (lv_at hl 3 rfl) ?_
  refine lv_iload hx hb dX10_delete_4 (lv_at hl 4 rfl) ?_
  refine lv_iload hx hb dX10_delete_6 (lv_at hl 5 rfl) ?_
  have hPc := hP.sub (ws' := []) [] rfl
  have hDc := hD.sub (ws' := []) [] (by decide) rfl
  have hKc := hK.sub (tys' := []) [] rfl
  refine rd_i (va_runS (As := [.int p1, .int p2, .int p3, .int p4, .int p5]) (rest := [.ref h0]) ⟨hx, hb, hml, hown, hts⟩ (kX10_isLine l D H.size p1 p2 p3 p4 p5 ) (va_cwS 5 hts gX10_delete_X10_isLine rfl rfl rfl (by decide +kernel) ⟨Nat.le_of_ble_eq_true rfl, Nat.le_of_ble_eq_true rfl⟩) ⟨Pw_blind, fun U hU hW => Pw_at hKc hPc hDc hN hU hW⟩ rfl rfl hl.1 rfl (lv_room (Nat.le_of_ble_eq_true rfl)) dX10_delete_8 ⟨Nat.le_of_ble_eq_true rfl, Nat.le_of_ble_eq_true rfl⟩) ?_
  have K19_1 : ∀ (v_1 : Int32), v_1 = (if (fX10_isLine p1 p2 p3 p4 p5) = 0 then 1 else 0) → ∀ ls : Array Slot, lv_has ls 6 [(0, .ref h0), (1, .int p1), (2, .int p2), (3, .int p3), (4, .int p4), (5, .int p5)] → W p l e (headSpec wsX10_delete rmX10_delete).room s m ([.ref h0, .int p1, .int p2, .int p3, .int p4, .int p5] : List Value).toArray below meth c H locs 0 0 Q (F0 m 19 ls [.int v_1, .ref h0]) := by
    intro v_1 ev_1 ls hl
    refine va_put (D := D) (ci := 8) (v := .int v_1) (ty := .int) (C := RX10) (T := TX10) (N := 11) hx hb hts w_X10 tyX10 tyX10_ok nmX10 hown hK hP hD hS 0 rfl rfl 0 (by decide) f_29 (fun _ h9 => h9) rfl (by decide +kernel) rfl rfl (Nat.le_of_ble_eq_true rfl) dX10_delete_19 (fun H locs hP hD hS => ?_)
    have hP : va_P D vwCl [(h0, .inr (8, [.int v_1, .int (nI items.flatten.length), .ref h1, .int md, .ref h2, .int ch, .int sh, .int tp, .int lf, .int bt, .int rt])), (h1, .inl (cA, 1000, .inl f)), (h2, .inl (cB, 1000, .inl g))] H := hP
    have hD : va_D A [(h0, .inr (8, [.int v_1, .int (nI items.flatten.length), .ref h1, .int md, .ref h2, .int ch, .int sh, .int tp, .int lf, .int bt, .int rt])), (h1, .inl (cA, 1000, .inl f)), (h2, .inl (cB, 1000, .inl g))] := hD
    refine lv_aload_n hx hb dX10_delete_22 rfl (lv_at hl 0 rfl) ?_
    refine va_get (D := D) (ci := 8) (v := .int v_1) (C := RX10) (T := TX10) (N := 11) hx hb hts w_X10 hown hK hP 0 rfl rfl 0 (by decide) f_29 (fun _ h9 => h9) rfl dX10_delete_23 ?_
    refine lv_if_ne (tgt := 44) hx hb dX10_delete_26 (by decide) (fun c26 => ?_) (fun c26 => ?_)
    · refine lv_iconst (v := 0) hx hb dX10_delete_44 (by decide) ?_
      have hF : (fX10_delete md ch f g p1 p2 p3 p4 p5 items) = (0, v_1, (nI items.flatten.length), md, ch, f, g) := by subst ev_1; exact (if_neg c26)
      subst hAe
      subst hQe
      exact W.iret (v := 0) hx hb hr (fun t ht hW => ⟨⟨_, _, rfl, ⟨(), trivial, by rw [hF], by rw [hF]⟩, by rw [ht]; exact hP, hD⟩, hS.F ht⟩) hS.2.2 dX10_delete_45
    · have hh : 1 ≤ p4 ∧ p4 ≤ fX10_lines p3 ∧ 1 ≤ p5 ∧ p5 ≤ 16384 := insOk ev_1 c26
      have h3 : 1 ≤ p4 := hh.1
      have h4 : p4 ≤ fX10_lines p3 := hh.2.1
      have hn9 : ∃ n9 : Int32, 1 ≤ n9 ∧ n9 ≤ 16384 ∧ ((-p5) = n9 ∨ (-p5) = -n9) := ⟨p5, hh.2.2.1, hh.2.2.2, Or.inr rfl⟩
      refine lv_aload_n hx hb dX10_delete_29 rfl (lv_at hl 0 rfl) ?_
      refine lv_iload_n hx hb dX10_delete_30 rfl (lv_at hl 1 rfl) ?_
      refine lv_iload_n hx hb dX10_delete_31 rfl (lv_at hl 2 rfl) ?_
      refine lv_iload_n hx hb dX10_delete_32 rfl (lv_at hl 3 rfl) ?_
      refine lv_iload hx hb dX10_delete_33 (lv_at hl 4 rfl) ?_
      refine lv_iload hx hb dX10_delete_35 (lv_at hl 5 rfl) ?_
      refine lv_ineg hx hb dX10_delete_37 ?_
      have hPc := hP.sub (ws' := [(h0, .inr (8, [.int v_1, .int (nI items.flatten.length), .ref h1, .int md, .ref h2, .int ch, .int sh, .int tp, .int lf, .int bt, .int rt])), (h1, .inl (cA, 1000, .inl f)), (h2, .inl (cB, 1000, .inl g))]) [0, 1, 2] rfl
      have hDc := hD.sub (ws' := [(h0, .inr (8, [.int v_1, .int (nI items.flatten.length), .ref h1, .int md, .ref h2, .int ch, .int sh, .int tp, .int lf, .int bt, .int rt])), (h1, .inl (cA, 1000, .inl f)), (h2, .inl (cB, 1000, .inl g))]) [0, 1, 2] (by decide) rfl
      have hKc := hK.sub (tys' := [(cA, .int), (cB, .int)]) [0, 1] rfl
      refine wk_i (β := Unit) (ok := fun _ => True) (wc := [(h0, .inr (8, [.int v_1, .int (nI items.flatten.length), .ref h1, .int md, .ref h2, .int ch, .int sh, .int tp, .int lf, .int bt, .int rt])), (h1, .inl (cA, 1000, .inl f)), (h2, .inl (cB, 1000, .inl g))]) (wr := []) (w1 := fun _ => [(h0, .inr (8, [.int v_1, .int (resS (Tsh p1 p2 p3 p4 (-p5)) items f g).2.1, .ref h1, .int (resS (Tsh p1 p2 p3 p4 (-p5)) items f g).2.2.1, .ref h2, .int (resS (Tsh p1 p2 p3 p4 (-p5)) items f g).2.2.2.1, .int sh, .int tp, .int lf, .int bt, .int rt])), (h1, .inl (cA, 1000, .inl (resS (Tsh p1 p2 p3 p4 (-p5)) items f g).2.2.2.2.1)), (h2, .inl (cB, 1000, .inl (resS (Tsh p1 p2 p3 p4 (-p5)) items f g).2.2.2.2.2))]) (ws2 := fun _ => [(h0, .inr (8, [.int v_1, .int (resS (Tsh p1 p2 p3 p4 (-p5)) items f g).2.1, .ref h1, .int (resS (Tsh p1 p2 p3 p4 (-p5)) items f g).2.2.1, .ref h2, .int (resS (Tsh p1 p2 p3 p4 (-p5)) items f g).2.2.2.1, .int sh, .int tp, .int lf, .int bt, .int rt])), (h1, .inl (cA, 1000, .inl (resS (Tsh p1 p2 p3 p4 (-p5)) items f g).2.2.2.2.1)), (h2, .inl (cB, 1000, .inl (resS (Tsh p1 p2 p3 p4 (-p5)) items f g).2.2.2.2.2))]) (r1 := fun _ => (resS (Tsh p1 p2 p3 p4 (-p5)) items f g).1) (va_runV (As := [.int p1, .int p2, .int p3, .int p4, .int (-p5)]) (rest := []) ⟨hx, hb, hml, hown, hts⟩ (kX10_shift l D H.size h0 h1 h2 cA cB v_1 md ch sh tp lf bt rt f g p1 p2 p3 p4 (-p5) items (by assumption) (by assumption) (by assumption) (by assumption) (by assumption) (by assumption)) (cwV 5 hts gX10_delete_X10_shift rfl rfl rfl (by decide +kernel) ⟨Nat.le_of_ble_eq_true rfl, Nat.le_of_ble_eq_true rfl⟩) ⟨Pw_blind, (va_recv hKc hPc (ci := 8) (q0 := 0) rfl rfl), fun U hU hW => Pw_at hKc hPc hDc hN hU hW⟩ rfl rfl hl.1 rfl (lv_room (Nat.le_of_ble_eq_true rfl)) dX10_delete_38 ⟨Nat.le_of_ble_eq_true rfl, Nat.le_of_ble_eq_true rfl⟩) hP hD hS hA [0, 1, 2] [] [0, 1, 2] rfl rfl (by decide) (by decide) (fun _ => rfl) (by decide) (fun _ _ H locs hP hD hS => ?_)
      have hP : va_P D vwCl [(h0, .inr (8, [.int v_1, .int (resS (Tsh p1 p2 p3 p4 (-p5)) items f g).2.1, .ref h1, .int (resS (Tsh p1 p2 p3 p4 (-p5)) items f g).2.2.1, .ref h2, .int (resS (Tsh p1 p2 p3 p4 (-p5)) items f g).2.2.2.1, .int sh, .int tp, .int lf, .int bt, .int rt])), (h1, .inl (cA, 1000, .inl (resS (Tsh p1 p2 p3 p4 (-p5)) items f g).2.2.2.2.1)), (h2, .inl (cB, 1000, .inl (resS (Tsh p1 p2 p3 p4 (-p5)) items f g).2.2.2.2.2))] H := hP
      have hD : va_D A [(h0, .inr (8, [.int v_1, .int (resS (Tsh p1 p2 p3 p4 (-p5)) items f g).2.1, .ref h1, .int (resS (Tsh p1 p2 p3 p4 (-p5)) items f g).2.2.1, .ref h2, .int (resS (Tsh p1 p2 p3 p4 (-p5)) items f g).2.2.2.1, .int sh, .int tp, .int lf, .int bt, .int rt])), (h1, .inl (cA, 1000, .inl (resS (Tsh p1 p2 p3 p4 (-p5)) items f g).2.2.2.2.1)), (h2, .inl (cB, 1000, .inl (resS (Tsh p1 p2 p3 p4 (-p5)) items f g).2.2.2.2.2))] := hD
      refine lv_goto (tgt := 45) hx hb dX10_delete_41 (by decide) ?_
      have hF : (fX10_delete md ch f g p1 p2 p3 p4 p5 items) = ((resS (Tsh p1 p2 p3 p4 (-p5)) items f g).1, v_1, (resS (Tsh p1 p2 p3 p4 (-p5)) items f g).2.1, (resS (Tsh p1 p2 p3 p4 (-p5)) items f g).2.2.1, (resS (Tsh p1 p2 p3 p4 (-p5)) items f g).2.2.2.1, (resS (Tsh p1 p2 p3 p4 (-p5)) items f g).2.2.2.2.1, (resS (Tsh p1 p2 p3 p4 (-p5)) items f g).2.2.2.2.2) := by subst ev_1; exact (if_pos c26)
      subst hAe
      subst hQe
      exact W.iret (v := (resS (Tsh p1 p2 p3 p4 (-p5)) items f g).1) hx hb hr (fun t ht hW => ⟨⟨_, _, rfl, ⟨(), trivial, by rw [hF], by rw [hF]⟩, by rw [ht]; exact hP, hD⟩, hS.F ht⟩) hS.2.2 dX10_delete_45
  refine lv_if_eq (tgt := 18) hx hb dX10_delete_11 (by decide) (fun c11 => ?_) (fun c11 => ?_)
  · refine lv_iconst (v := 1) hx hb dX10_delete_18 (by decide) ?_
    exact K19_1 _ (if_pos c11).symm ls (lv_sub hl [0, 1, 2, 3, 4, 5] rfl)
  · refine lv_iconst (v := 0) hx hb dX10_delete_14 (by decide) ?_
    refine lv_goto (tgt := 19) hx hb dX10_delete_15 (by decide) ?_
    exact K19_1 _ (if_neg c11).symm ls (lv_sub hl [0, 1, 2, 3, 4, 5] rfl)
