/-! words of my own for the walk: the links between nest mates, a contract's start and end, calls -/
def nest (U : State) : Prop :=
  va_Nw (.methodLinkNest RX9 28 yX7_init RX9) U ∧ va_Nw (.methodLinkNest RX2 23 yX9_has RX9) U ∧ va_Nw (.methodLinkNest RX2 3 yX1_init RX9) U ∧
  va_Nw (.methodLinkNest RX3 1 yX1_init RX9) U ∧ va_Nw (.methodLinkNest RX6 3 yX1_init RX9) U ∧ va_Nw (.methodLinkNest RX8 26 yX9_isLine RX9) U ∧
  va_Nw (.methodLinkNest RX8 42 yX9_areAllLines RX9) U ∧ va_Nw (.declares ⟨"ReferenceMover$Change", "keeps", "(LReferenceMover$Reference;)Z"⟩) U ∧
  va_Nw (.declares ⟨"ReferenceMover$LineChange", "keepsLines", "(LReferenceMover$Span;)Z"⟩) U
theorem nest.warm {s U : State} (hW : s.WarmedH U.vm) (h : nest s) : nest U := by
  obtain ⟨h1, h2, h3, h4, h5, h6, h7, h8, h9⟩ := h
  exact ⟨va_Nw.warmM hW h1, va_Nw.warmM hW h2, va_Nw.warmM hW h3, va_Nw.warmM hW h4, va_Nw.warmM hW h5, va_Nw.warmM hW h6, va_Nw.warmM hW h7, va_Nw.warmD hW h8, va_Nw.warmD hW h9⟩
theorem nest.same {s U : State} (e : s.vm = U.vm) (h : nest s) : nest U := by
  obtain ⟨h1, h2, h3, h4, h5, h6, h7, h8, h9⟩ := h
  exact ⟨va_Nw.same rfl e h1, va_Nw.same rfl e h2, va_Nw.same rfl e h3, va_Nw.same rfl e h4, va_Nw.same rfl e h5, va_Nw.same rfl e h6, va_Nw.same rfl e h7, va_Nw.same rfl e h8, va_Nw.same rfl e h9⟩
/-- what a contract takes of the state: the world ws, its tables, the links -/
def Pw (D : va_G) (tys : List (ClassId × FieldType)) (ws : va_W) (sz : Nat) (U : State) : Prop :=
  U.heap.size = sz ∧ va_P D vwCl ws U.heap ∧ va_K D vwCl tys U ∧ va_D (fun _ => True) ws ∧ nest U
theorem Pw_blind {av : List Value} {D : va_G} {tys : List (ClassId × FieldType)} {ws : va_W} {sz : Nat} : FrameBlind (va_Pc av (Pw D tys ws sz)) := by
  intro a U g mk q
  obtain ⟨q0, q1, qP, qK, qD, qN⟩ := q
  exact ⟨q0, q1, qP, va_K.moved (u := U) (U := U.calling g mk a) (Vm.Alike.refl U.vm) qK, qD, nest.same (s := U) (U := U.calling g mk a) rfl qN⟩
theorem Pw_at {av : List Value} {D : va_G} {tys : List (ClassId × FieldType)} {ws : va_W} {A : Nat → Prop} {s U : State} {H : Heap} (hK : va_K D vwCl tys s) (hP : va_P D vwCl ws H) (hD : va_D A ws) (hN : nest s) (hU : U.heap = H) (hW : s.WarmedH U.vm) : va_Pc av (Pw D tys ws H.size) av.toArray U :=
  ⟨rfl, by rw [hU], by rw [hU]; exact hP, va_K.moved hW.alike hK, hD.weaken (fun _ _ _ _ => trivial), hN.warm hW⟩
/-- the world behind a method -/
def Bq (D : va_G) (A : Nat → Prop) (ws : va_W) (t : State) : Prop := va_P D vwCl ws t.heap ∧ va_D A ws
def isB (x : Int32) : Prop := x = 0 ∨ x = 1
theorem isB.nar {x : Int32} (h : isB x) : narrow .boolean (.int x) = .int x := by rcases h with rfl | rfl <;> rfl
theorem isB.fit {x : Int32} (h : isB x) : fits .boolean (.int x) = true := by rcases h with rfl | rfl <;> rfl
theorem in_of {k : Int32} {n : Nat} (h0 : 0 ≤ k) (h : k < Int32.ofNat n) (hn : n < 2 ^ 31) : vp_in k n := by
  rw [vp_in_iff]
  have h1 := Int32.le_iff_toInt_le.mp h0
  have h2 := Int32.lt_iff_toInt_lt.mp h
  rw [show (Int32.ofNat n).toInt = (n : Int) from nI_toInt hn] at h2
  exact ⟨h1, h2⟩
theorem fm_of {α β : Type} {f : α → Option β} {is : List α} {l : List β} (h : is.map f = l.map some) : is.filterMap f = l := by
  have h1 : is.filterMap f = (is.map f).filterMap id := by rw [List.filterMap_map]; rfl
  rw [h1, h, List.filterMap_map]
  exact List.filterMap_some
section WK
variable {p : Program} {l : Launch} {e : Env} {R : Room} {s : State} {m : MethodId} {args : Array Value} {below : List Frame} {meth : Method} {c : Code} {H : Heap} {locs : List Loc} {cells slots : Nat} {Q : State → Prop}
variable {pc : Nat} {ls : Array Slot} {rest st0 : List Value} {a : Array Value} {A : Nat → Prop} {H0 : Heap} {mc ms : Nat} {D : va_G} {ws wc wr ws2 : va_W}
/-- a call that reads -/
theorem rd_i {r1 : Int32} (hr : va_Run p l e R s m args below meth c H locs cells slots 0 0 (F0 m pc ls st0) rest (vp_Si (fun r => r = r1) a) (fun _ => False))
    (kk : W p l e R s m args below meth c H locs cells slots Q (F0 m (pc + 3) ls (.int r1 :: rest))) : W p l e R s m args below meth c H locs cells slots Q (F0 m pc ls st0) :=
  vp_callSi (va_Run.run hr) (fun r e => by rw [e]; exact kk)
/-- a call that changes its cells wc to w1 x, x any such; the rest wr stays; ws2 is what then holds -/
theorem wk_v {β : Type} {w1 : β → va_W} {ok : β → Prop} {ws2 : β → va_W} (hr : va_Run p l e R s m args below meth c H locs cells slots mc ms (F0 m pc ls st0) rest (va_Qv (fun w => ∃ x : β, ok x ∧ w = w1 x) (Bq D (va_A wc H.size)) (va_A wc H.size) a) (va_A wc H.size))
    (hP : va_P D vwCl ws H) (hD : va_D A ws) (hS : va_S A H0 H locs) (hA : ∀ q, H0.size ≤ q → A q) (isC isR perm : List Nat) (hC : isC.map (fun i => ws[i]?) = wc.map some) (hR : isR.map (fun i => ws[i]?) = wr.map some) (hn : va_nd isR = true) (hdis : ∀ i ∈ isR, i ∉ isC)
    (hp : ∀ x, perm.map (fun i => (wr ++ w1 x)[i]?) = (ws2 x).map some) (hpn : va_nd perm = true)
    (kk : ∀ (x : β), ok x → ∀ (H1 : Heap) (locs1 : List Loc), va_P D vwCl (ws2 x) H1 → va_D A (ws2 x) → va_S A H0 H1 locs1 → W p l e R s m args below meth c H1 locs1 (cells + mc) (slots + ms) Q (F0 m (pc + 3) ls rest)) : W p l e R s m args below meth c H locs cells slots Q (F0 m pc ls st0) := by
  have hFc := va_free (wc := wc) hD hS hA isC hC
  refine va_callv hr hS (fun q _ h => hFc q h) hFc (fun w t H1 locs1 ht hvm hw hB hz1 hk1 hS1 => ?_)
  obtain ⟨x, hx, rfl⟩ := hw
  obtain ⟨hP1, hD1⟩ := hB
  rw [ht] at hP1
  obtain ⟨hP2, hD2⟩ := va_join (wr := wr) (w1 := w1 x) hP hD isC isR hC hR hn hdis hk1 hFc hP1 hD1
  exact kk x hx H1 locs1 (hP2.sub perm (fm_of (hp x))) (hD2.sub perm hpn (hp x)) hS1
theorem wk_i {β : Type} {r1 : β → Int32} {ok : β → Prop} {w1 ws2 : β → va_W} (hr : va_Run p l e R s m args below meth c H locs cells slots mc ms (F0 m pc ls st0) rest (va_Qi (fun r w => ∃ x : β, ok x ∧ r = r1 x ∧ w = w1 x) (Bq D (va_A wc H.size)) (va_A wc H.size) a) (va_A wc H.size))
    (hP : va_P D vwCl ws H) (hD : va_D A ws) (hS : va_S A H0 H locs) (hA : ∀ q, H0.size ≤ q → A q) (isC isR perm : List Nat) (hC : isC.map (fun i => ws[i]?) = wc.map some) (hR : isR.map (fun i => ws[i]?) = wr.map some) (hn : va_nd isR = true) (hdis : ∀ i ∈ isR, i ∉ isC)
    (hp : ∀ x, perm.map (fun i => (wr ++ w1 x)[i]?) = (ws2 x).map some) (hpn : va_nd perm = true)
    (kk : ∀ (x : β), ok x → ∀ (H1 : Heap) (locs1 : List Loc), va_P D vwCl (ws2 x) H1 → va_D A (ws2 x) → va_S A H0 H1 locs1 → W p l e R s m args below meth c H1 locs1 (cells + mc) (slots + ms) Q (F0 m (pc + 3) ls (.int (r1 x) :: rest))) : W p l e R s m args below meth c H locs cells slots Q (F0 m pc ls st0) := by
  have hFc := va_free (wc := wc) hD hS hA isC hC
  refine va_calli hr hS (fun q _ h => hFc q h) hFc (fun r w t H1 locs1 ht hvm hw hB hz1 hk1 hS1 => ?_)
  obtain ⟨x, hx, rfl, rfl⟩ := hw
  obtain ⟨hP1, hD1⟩ := hB
  rw [ht] at hP1
  obtain ⟨hP2, hD2⟩ := va_join (wr := wr) (w1 := w1 x) hP hD isC isR hC hR hn hdis hk1 hFc hP1 hD1
  exact kk x hx H1 locs1 (hP2.sub perm (fm_of (hp x))) (hD2.sub perm hpn (hp x)) hS1
end WK
/-- a contract's start: what every walk opens with -/
theorem mo_A {ws : va_W} {sz : Nat} : ∀ q : Nat, sz ≤ q → va_A ws sz q := fun _ h => Or.inr h
theorem hStart {p : Program} {l : Launch} {e : Env} {R : Room} {s : State} {m : MethodId} {args : Array Value} {below : List Frame} {meth : Method} {c : Code} {H : Heap} {locs : List Loc} {cells slots : Nat} {Q : State → Prop} {g : JFrame} (h : H = s.heap) (hl : locs = []) (k : W p l e R s m args below meth c H locs cells slots Q g) : W p l e R s m args below meth c s.heap [] cells slots Q g := by
  subst h; subst hl; exact k
theorem in_w {k : Int32} {m n : Nat} (h : vp_in k m) (hm : m ≤ n) : vp_in k n := by
  rw [vp_in_iff] at h ⊢
  omega
theorem in_add {k c : Int32} {m n : Nat} (h : vp_in k m) (h0 : 0 ≤ c.toInt) (hm : (m : Int) + c.toInt ≤ n) (hn : n < 2 ^ 31) : vp_in (k + c) n := by
  rw [vp_in_iff] at h ⊢
  have e : (k + c).toInt = k.toInt + c.toInt := by
    rw [Int32.toInt_add, Int.bmod_eq_of_le] <;> omega
  rw [e]
  omega
theorem in_of2 {k : Int32} (h0 : ¬ k < 0) (h : ¬ 1000 ≤ k) : vp_in k 1000 := by
  rw [vp_in_iff]
  have h1 : ¬ k.toInt < (0 : Int32).toInt := fun q => h0 (Int32.lt_iff_toInt_lt.mpr q)
  have h2 : ¬ (1000 : Int32).toInt ≤ k.toInt := fun q => h (Int32.le_iff_toInt_le.mpr q)
  have e1 : (0 : Int32).toInt = 0 := by decide
  have e2 : (1000 : Int32).toInt = 1000 := by decide
  rw [e1] at h1; rw [e2] at h2
  omega
theorem in_lo {n b : Int32} {m M : Nat} (hn : vp_in n M) (h : ¬ b < n) (hb : b.toInt + 1 = m) : vp_in n m := by
  rw [vp_in_iff] at hn ⊢
  have h1 : ¬ b.toInt < n.toInt := fun q => h (Int32.lt_iff_toInt_lt.mpr q)
  omega
theorem in_ne {n : Int32} (hn : vp_in n 1001) (h : ¬ n = 1000) : vp_in n 1000 := by
  rw [vp_in_iff] at hn ⊢
  have h1 : n.toInt ≠ 1000 := fun q => h (Int32.toInt_inj.mp (q.trans (by decide)))
  omega
theorem in_le {n b : Int32} {m M : Nat} (hn : vp_in n M) (h : n ≤ b) (hb : b.toInt + 1 = m) : vp_in n m := by
  rw [vp_in_iff] at hn ⊢
  have h1 : n.toInt ≤ b.toInt := Int32.le_iff_toInt_le.mp h
  omega
theorem isB.ite {c : Prop} [Decidable c] {a b : Int32} (ha : isB a) (hb : isB b) : isB (if c then a else b) := by
  split
  · exact ha
  · exact hb
theorem in_lt {k n : Int32} (h0 : ¬ k < 0) (h : ¬ n ≤ k) (hn : vp_in n 1001) : vp_in k 1000 := by
  rw [vp_in_iff] at hn ⊢
  have h1 : ¬ k.toInt < (0 : Int32).toInt := fun q => h0 (Int32.lt_iff_toInt_lt.mpr q)
  have h2 : ¬ n.toInt ≤ k.toInt := fun q => h (Int32.le_iff_toInt_le.mpr q)
  have e1 : (0 : Int32).toInt = 0 := by decide
  rw [e1] at h1
  omega
