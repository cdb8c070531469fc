/-- a contract of a method that catches what it throws -/
theorem Met_ofWH {l : Launch} {y : MethodName} {ws ws' : List Cond} {rm : Room} {Pc : Array Value → State → Prop} {Qc : Array Value → State → Outcome → State → Prop} {mc ms : Nat} {free : Addr → Prop} {cc : ByteArray} {maxL : Nat} {ret : Option FieldType} {hh : List (Nat × Nat × Nat × Nat)}
    (hy : plainName y.cls = true) (hw : ws = Cond.codeWith y cc maxL ret hh :: ws')
    (body : ∀ p e s m args below meth c s₁, BodyLoose p l y (headSpec ws rm) cc maxL ret e s m args below meth c s₁ → c.maxLocals = maxL → Pc args s →
      W p l e (headSpec ws rm).room s m args below meth c s.heap [] 0 0 (MQ below Qc args s mc ms free) (entryFrame m args maxL)) : Met l y ws rm Pc Qc mc ms free := by
  refine MetFree.of_bodyS (code := cc) (maxLocals := maxL) (ret := ret) hy ?_ ?_
  · intro args s m h hn
    obtain ⟨m9, meth, c, hn9, h1, h2, h3, h4, -, h5, h6, -⟩ := Cond.codeWith_spec (atoms_spec (ws := ws) h _ (by rw [hw]; exact List.mem_cons_self))
    cases hn.symm.trans hn9
    exact ⟨meth, c, h1, h2, h3, h4, h5, h6⟩
  · intro p e s m args below meth c s₁ B hml hP _
    have hh0 : s₁.heap = s.heap := by rw [B.state]; rfl
    obtain ⟨t, a1, o, b1, b2, b3⟩ := body p e s m args below meth c s₁ B hml hP s₁ hh0 (Stand.of_body B)
    exact ⟨t, o, a1, b1, b2, ⟨b3.1, b3.2⟩⟩
/-- what a wrapper of the law leaves: its answer, the numbers' count and row, the answer's cell -/
def resC (good : Int32) (T : List Int32 → List Int32) (items : List (List Int32)) (f : Nat → Int32) (go : Nat → Int64) : Int32 × Int32 × (Nat → Int32) × (Nat → Int64) :=
  if good = 1 then (0, nI (outs T items).length, wr f 0 (outs T items), vp_updL go 0 (cnt T items).toInt64) else (1, nI items.flatten.length, f, go)
theorem cp_eq (dn al : Int32) : fX9_copy dn al = gcp dn al := by
  have e0 : ∀ (x a b c d : Int32), a.toInt + 1 = b.toInt → d.toInt + 1 = c.toInt → ((x ≤ a ∨ ¬ x < c) ↔ (x < b ∨ d < x)) := by
    intro x a b c d h1 h2
    rw [Int32.le_iff_toInt_le, Int32.lt_iff_toInt_lt, Int32.lt_iff_toInt_lt, Int32.lt_iff_toInt_lt]
    omega
  have h1 := e0 dn (-1048576) (-1048575) 1048576 1048575 (by decide) (by decide)
  have h2 := e0 al (-16384) (-16383) 16384 16383 (by decide) (by decide)
  unfold fX9_copy gcp fX10_within
  grind

abbrev rmL_copy : Room := { frames := 7, cells := 1, slots := 6, locals := 156 }
abbrev qL_copy (D : va_G) (sz : Nat) (h0 : Nat) (h1 : Nat) (h4 : Nat) (h5 : Nat) (h6 : Nat) (cA : ClassId) (x2 : Value) (f : Nat → Int32) (isr : Int32) (wh : Int32) (sh : Int32) (rf : Int32) (ra : Int32) (rx : Int32) (ry : Int32) (kf : Int32) (ka : Int32) (kx : Int32) (ky : Int32) (dn : Int32) (al : Int32) (items : List (List Int32)) (ho : Nat) (cL : ClassId) (go : Nat → Int64) : Array Value → State → Outcome → State → Prop := va_Qi (fun r_9 w_9 => ∃ x_9 : Int32 × Int32 × Int32 × Int32 × Int32 × Int32 × Int32 × Int32 × Int32 × Int32 × Int32, True ∧ r_9 = (resC (gcp dn al) (Tcp dn al) items f go).1 ∧ w_9 = [(h0, .inr (7, [.ref h1, .int (resC (gcp dn al) (Tcp dn al) items f go).2.1, x2, .ref h4])), (h1, .inl (cA, 1000, .inl (resC (gcp dn al) (Tcp dn al) items f go).2.2.1)), (h4, .inr (5, [.ref h5, .ref h6, .int x_9.1, .int x_9.2.1, .int x_9.2.2.1])), (h5, .inr (6, [.int 1048576, .int x_9.2.2.2.1, .int x_9.2.2.2.2.1, .int x_9.2.2.2.2.2.1, .int x_9.2.2.2.2.2.2.1])), (h6, .inr (6, [.int 16384, .int x_9.2.2.2.2.2.2.2.1, .int x_9.2.2.2.2.2.2.2.2.1, .int x_9.2.2.2.2.2.2.2.2.2.1, .int x_9.2.2.2.2.2.2.2.2.2.2])), (ho, .inl (cL, 1, .inr (.inl (resC (gcp dn al) (Tcp dn al) items f go).2.2.2)))]) (Bq D (va_A [(h0, .inr (7, [.ref h1, .int (nI items.flatten.length), x2, .ref h4])), (h1, .inl (cA, 1000, .inl f)), (h4, .inr (5, [.ref h5, .ref h6, .int isr, .int wh, .int sh])), (h5, .inr (6, [.int 1048576, .int rf, .int ra, .int rx, .int ry])), (h6, .inr (6, [.int 16384, .int kf, .int ka, .int kx, .int ky])), (ho, .inl (cL, 1, .inr (.inl go)))] sz)) (va_A [(h0, .inr (7, [.ref h1, .int (nI items.flatten.length), x2, .ref h4])), (h1, .inl (cA, 1000, .inl f)), (h4, .inr (5, [.ref h5, .ref h6, .int isr, .int wh, .int sh])), (h5, .inr (6, [.int 1048576, .int rf, .int ra, .int rx, .int ry])), (h6, .inr (6, [.int 16384, .int kf, .int ka, .int kx, .int ky])), (ho, .inl (cL, 1, .inr (.inl go)))] sz)
set_option maxHeartbeats 4000000 in
set_option maxRecDepth 100000 in
theorem kL_copy (l : Launch) (hst : l.stackTraces = false) (D : va_G) (sz : Nat) (h0 : Nat) (h1 : Nat) (h4 : Nat) (h5 : Nat) (h6 : Nat) (cA : ClassId) (x2 : Value) (f : Nat → Int32) (isr : Int32) (wh : Int32) (sh : Int32) (rf : Int32) (ra : Int32) (rx : Int32) (ry : Int32) (kf : Int32) (ka : Int32) (kx : Int32) (ky : Int32) (dn : Int32) (al : Int32) (items : List (List Int32)) (ho : Nat) (cL : ClassId) (go : Nat → Int64) (hok : ∀ it ∈ items, okI it) (hlen : items.flatten.length ≤ 1000) (hseg : Seg f 0 items.flatten) : Met l yL_copy wsL_copy rmL_copy (va_Pc [.ref h0, .int dn, .int al, .ref ho] (Pt D [(cA, .int), (cL, .long)] [(h0, .inr (7, [.ref h1, .int (nI items.flatten.length), x2, .ref h4])), (h1, .inl (cA, 1000, .inl f)), (h4, .inr (5, [.ref h5, .ref h6, .int isr, .int wh, .int sh])), (h5, .inr (6, [.int 1048576, .int rf, .int ra, .int rx, .int ry])), (h6, .inr (6, [.int 16384, .int kf, .int ka, .int kx, .int ky])), (ho, .inl (cL, 1, .inr (.inl go)))] sz)) (qL_copy D sz h0 h1 h4 h5 h6 cA x2 f isr wh sh rf ra rx ry kf ka kx ky dn al items ho cL go) 1 6 (va_A [(h0, .inr (7, [.ref h1, .int (nI items.flatten.length), x2, .ref h4])), (h1, .inl (cA, 1000, .inl f)), (h4, .inr (5, [.ref h5, .ref h6, .int isr, .int wh, .int sh])), (h5, .inr (6, [.int 1048576, .int rf, .int ra, .int rx, .int ry])), (h6, .inr (6, [.int 16384, .int kf, .int ka, .int kx, .int ky])), (ho, .inl (cL, 1, .inr (.inl go)))] sz) := by
  refine Met_ofWH (cc := cL_copy) (maxL := 5) (ret := (some .int)) (hh := [(0, 10, 13, 13)]) (by decide) rfl ?_
  intro p e s m args below meth c s₁ B hml hv
  obtain ⟨hargs, ⟨hsz, hP, hK, hD0, hN⟩, hT, z1, z2⟩ := hv
  have hx := B.exec
  have hb := B.bytes
  have hr := B.returns
  have hts := atoms_spec (ws := wsL_copy) B.pre
  have htab : c.exceptionTable.toList = [⟨0, 10, 13, 13⟩] := (vx_table (x := yL_copy) B (hts (.codeWith yL_copy cL_copy 5 (some .int) [(0, 10, 13, 13)]) List.mem_cons_self)).trans rfl
  have hown : s.vm.findClass RL = some m.cls := findClass_of_methodNamed B.named
  have hlocks := B.notSynchronized
  subst hsz
  obtain ⟨A, hAe⟩ : ∃ A, A = va_A [(h0, .inr (7, [.ref h1, .int (nI items.flatten.length), x2, .ref h4])), (h1, .inl (cA, 1000, .inl f)), (h4, .inr (5, [.ref h5, .ref h6, .int isr, .int wh, .int sh])), (h5, .inr (6, [.int 1048576, .int rf, .int ra, .int rx, .int ry])), (h6, .inr (6, [.int 16384, .int kf, .int ka, .int kx, .int ky])), (ho, .inl (cL, 1, .inr (.inl go)))] s.heap.size := ⟨_, rfl⟩
  have hD : va_D A [(h0, .inr (7, [.ref h1, .int (nI items.flatten.length), x2, .ref h4])), (h1, .inl (cA, 1000, .inl f)), (h4, .inr (5, [.ref h5, .ref h6, .int isr, .int wh, .int sh])), (h5, .inr (6, [.int 1048576, .int rf, .int ra, .int rx, .int ry])), (h6, .inr (6, [.int 16384, .int kf, .int ka, .int kx, .int ky])), (ho, .inl (cL, 1, .inr (.inl go)))] := by rw [hAe]; exact hD0.self
  have hA : ∀ q : Nat, s.heap.size ≤ q → A q := by rw [hAe]; exact mo_A
  have z1 : ZU A s s.heap := by rw [hAe]; exact z1
  have z2 : ZN A s s.heap := by rw [hAe]; exact z2
  have hfr : ∀ q, A q → (va_A [(h0, .inr (7, [.ref h1, .int (nI items.flatten.length), x2, .ref h4])), (h1, .inl (cA, 1000, .inl f)), (h4, .inr (5, [.ref h5, .ref h6, .int isr, .int wh, .int sh])), (h5, .inr (6, [.int 1048576, .int rf, .int ra, .int rx, .int ry])), (h6, .inr (6, [.int 16384, .int kf, .int ka, .int kx, .int ky])), (ho, .inl (cL, 1, .inr (.inl go)))] s.heap.size) q := fun q h => hAe ▸ h
  have hS : va_S A s.heap s.heap [] := va_S.rf
  obtain ⟨H, hHe⟩ : ∃ H, H = s.heap := ⟨_, rfl⟩
  obtain ⟨locs, hLe⟩ : ∃ L : List Loc, L = [] := ⟨_, rfl⟩
  have hP : va_P D vwCl [(h0, .inr (7, [.ref h1, .int (nI items.flatten.length), x2, .ref h4])), (h1, .inl (cA, 1000, .inl f)), (h4, .inr (5, [.ref h5, .ref h6, .int isr, .int wh, .int sh])), (h5, .inr (6, [.int 1048576, .int rf, .int ra, .int rx, .int ry])), (h6, .inr (6, [.int 16384, .int kf, .int ka, .int kx, .int ky])), (ho, .inl (cL, 1, .inr (.inl go)))] H := by rw [hHe]; exact hP
  have hS : va_S A s.heap H locs := by rw [hHe, hLe]; exact hS
  have hl := lv_entry ([.ref h0, .int dn, .int al, .ref ho]) (n := 5) (Nat.le_of_ble_eq_true rfl)
  rw [show entryFrame m args 5 = entryFrame m (([.ref h0, .int dn, .int al, .ref ho] : List Value).toArray) 5 by rw [hargs], lg_entry_eq]
  generalize (lg_sl ([.ref h0, .int dn, .int al, .ref ho]) ++ List.replicate (5 - (lg_sl ([.ref h0, .int dn, .int al, .ref ho])).length) Slot.unset).toArray = ls at hl ⊢
  have hl : lv_has ls 5 [(0, .ref h0), (1, .int dn), (2, .int al), (3, .ref ho)] := hl
  refine hStart hHe hLe ?_
  clear hHe hLe
  refine lv_aload_n hx hb dL_copy_0 rfl (lv_at hl 3 rfl) ?_
  refine lv_iconst (v := 0) hx hb dL_copy_1 (by decide) ?_
  refine lv_aload_n hx hb dL_copy_2 rfl (lv_at hl 0 rfl) ?_
  refine lv_iload_n hx hb dL_copy_3 rfl (lv_at hl 1 rfl) ?_
  refine lv_iload_n hx hb dL_copy_4 rfl (lv_at hl 2 rfl) ?_
  have hPc := hP.sub (ws' := [(h0, .inr (7, [.ref h1, .int (nI items.flatten.length), x2, .ref h4])), (h1, .inl (cA, 1000, .inl f)), (h4, .inr (5, [.ref h5, .ref h6, .int isr, .int wh, .int sh])), (h5, .inr (6, [.int 1048576, .int rf, .int ra, .int rx, .int ry])), (h6, .inr (6, [.int 16384, .int kf, .int ka, .int kx, .int ky]))]) [0, 1, 2, 3, 4] rfl
  have hDc := hD.sub (ws' := [(h0, .inr (7, [.ref h1, .int (nI items.flatten.length), x2, .ref h4])), (h1, .inl (cA, 1000, .inl f)), (h4, .inr (5, [.ref h5, .ref h6, .int isr, .int wh, .int sh])), (h5, .inr (6, [.int 1048576, .int rf, .int ra, .int rx, .int ry])), (h6, .inr (6, [.int 16384, .int kf, .int ka, .int kx, .int ky]))]) [0, 1, 2, 3, 4] (by decide) rfl
  have hKc := hK.sub (tys' := [(cA, .int)]) [0] rfl
  have hFc := va_free (wc := [(h0, .inr (7, [.ref h1, .int (nI items.flatten.length), x2, .ref h4])), (h1, .inl (cA, 1000, .inl f)), (h4, .inr (5, [.ref h5, .ref h6, .int isr, .int wh, .int sh])), (h5, .inr (6, [.int 1048576, .int rf, .int ra, .int rx, .int ry])), (h6, .inr (6, [.int 16384, .int kf, .int ka, .int kx, .int ky]))]) hD hS hA [0, 1, 2, 3, 4] rfl
  refine vx_calli (vx_runV (As := [.int dn, .int al]) (rest := [.int 0, .ref ho]) ⟨hx, hb, hml, hown, hts⟩ (kX9_copy l hst D H.size h0 h1 h4 h5 h6 cA x2 f isr wh sh rf ra rx ry kf ka kx ky dn al items hok hlen hseg) (cwV 2 hts gL_copy_X9_copy rfl rfl rfl (by decide +kernel) ⟨Nat.le_of_ble_eq_true rfl, Nat.le_of_ble_eq_true rfl⟩) ⟨Pt_blind, va_recv hKc hPc (ci := 7) (q0 := 0) rfl rfl, fun U hU hW => Pt_at hKc hPc hDc hN hT z1 z2 hS hFc hU hW⟩ rfl rfl hl.1 rfl (lv_room (Nat.le_of_ble_eq_true rfl)) dL_copy_5 ⟨Nat.le_of_ble_eq_true rfl, Nat.le_of_ble_eq_true rfl⟩) hS (fun q _ h => hFc q h) hFc (fun q _ h => hFc q h) (fun E ce q9 u t H1 locs1 ht hvm hbad hB hz hk hS1 hce hcv hcl => ?_) (fun r w t H1 locs1 ht hvm hw hB hz hk hS1 => ?_)
  · obtain ⟨rfl, hP1, hD1⟩ := hB
    rw [ht] at hP1
    obtain ⟨hP, hD⟩ := va_join (wr := [(ho, .inl (cL, 1, .inr (.inl go)))]) (w1 := [(h0, .inr (7, [.ref h1, .int (nI items.flatten.length), x2, .ref h4])), (h1, .inl (cA, 1000, .inl f)), (h4, .inr (5, [.ref h5, .ref h6, .int isr, .int wh, .int sh])), (h5, .inr (6, [.int 1048576, .int rf, .int ra, .int rx, .int ry])), (h6, .inr (6, [.int 16384, .int kf, .int ka, .int kx, .int ky]))]) hP hD [0, 1, 2, 3, 4] [5] rfl rfl (by decide) (by decide) hk hFc hP1 hD1
    have hP := hP.sub (ws' := [(h0, .inr (7, [.ref h1, .int (nI items.flatten.length), x2, .ref h4])), (h1, .inl (cA, 1000, .inl f)), (h4, .inr (5, [.ref h5, .ref h6, .int isr, .int wh, .int sh])), (h5, .inr (6, [.int 1048576, .int rf, .int ra, .int rx, .int ry])), (h6, .inr (6, [.int 16384, .int kf, .int ka, .int kx, .int ky])), (ho, .inl (cL, 1, .inr (.inl go)))]) [1, 2, 3, 4, 5, 0] rfl
    have hD := hD.sub (ws' := [(h0, .inr (7, [.ref h1, .int (nI items.flatten.length), x2, .ref h4])), (h1, .inl (cA, 1000, .inl f)), (h4, .inr (5, [.ref h5, .ref h6, .int isr, .int wh, .int sh])), (h5, .inr (6, [.int 1048576, .int rf, .int ra, .int rx, .int ry])), (h6, .inr (6, [.int 16384, .int kf, .int ka, .int kx, .int ky])), (ho, .inl (cL, 1, .inr (.inl go)))]) [1, 2, 3, 4, 5, 0] (by decide) rfl
    have hF : (resC (gcp dn al) (Tcp dn al) items f go) = (1, nI items.flatten.length, f, go) := if_neg (fun q => absurd (((cp_eq dn al).symm.trans hbad).symm.trans q) (by decide))
    refine vx_widen (k := 1) (n := 6) (by omega) (by omega) ?_
    refine vx_catch hown [] ⟨0, 10, 13, 13⟩ [] htab (fun z h => absurd h List.not_mem_nil) (by decide) (by decide) (hts (.classLink RL 13 IAE) (by decide +kernel)) (va_Nw.use rfl hT.2.2.2.1) hce hcv hcl ?_
    refine lv_astore (lv' := [(4, .ref q9)]) hx hb dL_copy_13 (lv_sub hl [] rfl) (by decide) rfl (fun ls hl => ?_)
    refine lv_iconst (v := 1) hx hb dL_copy_15 (by decide) ?_
    subst hAe
    exact W.iret (v := 1) hx hb hr (fun t ht hW => ⟨⟨_, _, rfl, ⟨(isr, wh, sh, rf, ra, rx, ry, kf, ka, kx, ky), trivial, by rw [hF], by rw [hF]⟩, by rw [ht]; exact hP, hD⟩, hS1.F ht⟩) hS1.2.2 dL_copy_16
  · obtain ⟨⟨y0, y1, y2, y3, y4, y5, y6, y7, y8, y9, y10⟩, hgood, rfl, rfl⟩ := hw
    obtain ⟨hP1, hD1⟩ := hB
    rw [ht] at hP1
    obtain ⟨hP, hD⟩ := va_join (wr := [(ho, .inl (cL, 1, .inr (.inl go)))]) (w1 := [(h0, .inr (7, [.ref h1, .int (nI (outs (Tcp dn al) items).length), x2, .ref h4])), (h1, .inl (cA, 1000, .inl (wr f 0 (outs (Tcp dn al) items)))), (h4, .inr (5, [.ref h5, .ref h6, .int y0, .int y1, .int y2])), (h5, .inr (6, [.int 1048576, .int y3, .int y4, .int y5, .int y6])), (h6, .inr (6, [.int 16384, .int y7, .int y8, .int y9, .int y10]))]) hP hD [0, 1, 2, 3, 4] [5] rfl rfl (by decide) (by decide) hk hFc hP1 hD1
    have hP := hP.sub (ws' := [(h0, .inr (7, [.ref h1, .int (nI (outs (Tcp dn al) items).length), x2, .ref h4])), (h1, .inl (cA, 1000, .inl (wr f 0 (outs (Tcp dn al) items)))), (h4, .inr (5, [.ref h5, .ref h6, .int y0, .int y1, .int y2])), (h5, .inr (6, [.int 1048576, .int y3, .int y4, .int y5, .int y6])), (h6, .inr (6, [.int 16384, .int y7, .int y8, .int y9, .int y10])), (ho, .inl (cL, 1, .inr (.inl go)))]) [1, 2, 3, 4, 5, 0] rfl
    have hD := hD.sub (ws' := [(h0, .inr (7, [.ref h1, .int (nI (outs (Tcp dn al) items).length), x2, .ref h4])), (h1, .inl (cA, 1000, .inl (wr f 0 (outs (Tcp dn al) items)))), (h4, .inr (5, [.ref h5, .ref h6, .int y0, .int y1, .int y2])), (h5, .inr (6, [.int 1048576, .int y3, .int y4, .int y5, .int y6])), (h6, .inr (6, [.int 16384, .int y7, .int y8, .int y9, .int y10])), (ho, .inl (cL, 1, .inr (.inl go)))]) [1, 2, 3, 4, 5, 0] (by decide) rfl
    have hF : (resC (gcp dn al) (Tcp dn al) items f go) = (0, nI (outs (Tcp dn al) items).length, wr f 0 (outs (Tcp dn al) items), vp_updL go 0 (cnt (Tcp dn al) items).toInt64) := if_pos ((cp_eq dn al).symm.trans hgood)
    refine W.widen (k := 1) (n := 6) (by omega) (by omega) ?_
    refine lv_i2l (v := (cnt (Tcp dn al) items).toInt64) hx hb dL_copy_8 rfl ?_
    refine va_last hx hb hK hP hD hS1 5 1 rfl rfl (show vp_in 0 1 by unfold vp_in; decide) dL_copy_9 (fun H locs hP hD hS => ?_)
    have hP : va_P D vwCl [(h0, .inr (7, [.ref h1, .int (nI (outs (Tcp dn al) items).length), x2, .ref h4])), (h1, .inl (cA, 1000, .inl (wr f 0 (outs (Tcp dn al) items)))), (h4, .inr (5, [.ref h5, .ref h6, .int y0, .int y1, .int y2])), (h5, .inr (6, [.int 1048576, .int y3, .int y4, .int y5, .int y6])), (h6, .inr (6, [.int 16384, .int y7, .int y8, .int y9, .int y10])), (ho, .inl (cL, 1, .inr (.inl (vp_updL go 0 (cnt (Tcp dn al) items).toInt64))))] H := hP
    have hD : va_D A [(h0, .inr (7, [.ref h1, .int (nI (outs (Tcp dn al) items).length), x2, .ref h4])), (h1, .inl (cA, 1000, .inl (wr f 0 (outs (Tcp dn al) items)))), (h4, .inr (5, [.ref h5, .ref h6, .int y0, .int y1, .int y2])), (h5, .inr (6, [.int 1048576, .int y3, .int y4, .int y5, .int y6])), (h6, .inr (6, [.int 16384, .int y7, .int y8, .int y9, .int y10])), (ho, .inl (cL, 1, .inr (.inl (vp_updL go 0 (cnt (Tcp dn al) items).toInt64))))] := hD
    refine lv_goto (tgt := 17) hx hb dL_copy_10 (by decide) ?_
    refine lv_iconst (v := 0) hx hb dL_copy_17 (by decide) ?_
    subst hAe
    exact W.iret (v := 0) hx hb hr (fun t ht hW => ⟨⟨_, _, rfl, ⟨(y0, y1, y2, y3, y4, y5, y6, y7, y8, y9, y10), trivial, by rw [hF], by rw [hF]⟩, by rw [ht]; exact hP, hD⟩, hS.F ht⟩) hS.2.2 dL_copy_18
