/-! throws of IllegalArgumentException by the class: what they need, and how they end -/
abbrev IAE : String := "java/lang/IllegalArgumentException"
abbrev thN : List String := ["java/lang/RuntimeException", "java/lang/Exception"]
def thr (U : State) : Prop := va_Nw (.declares ⟨"java/lang/RuntimeException", "<init>", "(Ljava/lang/String;)V"⟩) U ∧ va_Nw (.declares ⟨"java/lang/Exception", "<init>", "(Ljava/lang/String;)V"⟩) U ∧ va_Nw (.declares ⟨"java/lang/Throwable", "<init>", "(Ljava/lang/String;)V"⟩) U ∧ va_Nw (.castable IAE IAE) U ∧
  (∃ a, vk_R RX9 65 "down is not -1048575 .. 1048575" a U) ∧ (∃ a, vk_R RX9 70 "along is not -16383 .. 16383" a U) ∧ (∃ a, vk_R RX9 95 "there is no such sheet" a U) ∧ (∃ a, vk_R RX9 118 "there is no such line" a U) ∧ (∃ a, vk_R RX9 120 "n is not 1 .. 16384" a U) ∧ (∃ a, vk_R RX9 97 "there is no such row or column" a U) ∧ (∃ a, vk_R RX9 111 "not all of the rectangle would lie on the sheet" a U)
theorem thr.warm {s U : State} (hW : s.WarmedH U.vm) (h : thr s) : thr U := by
  obtain ⟨h1, h2, h3, h4, ⟨a1, k1⟩, ⟨a2, k2⟩, ⟨a3, k3⟩, ⟨a4, k4⟩, ⟨a5, k5⟩, ⟨a6, k6⟩, ⟨a7, k7⟩⟩ := h
  exact ⟨va_Nw.warmD hW h1, va_Nw.warmD hW h2, va_Nw.warmD hW h3, va_Nw.warmC hW h4, ⟨a1, vk_R.warm hW k1⟩, ⟨a2, vk_R.warm hW k2⟩, ⟨a3, vk_R.warm hW k3⟩, ⟨a4, vk_R.warm hW k4⟩, ⟨a5, vk_R.warm hW k5⟩, ⟨a6, vk_R.warm hW k6⟩, ⟨a7, vk_R.warm hW k7⟩⟩
theorem thr.same {s U : State} (e : s.vm = U.vm) (h : thr s) : thr U := by
  obtain ⟨h1, h2, h3, h4, ⟨a1, k1⟩, ⟨a2, k2⟩, ⟨a3, k3⟩, ⟨a4, k4⟩, ⟨a5, k5⟩, ⟨a6, k6⟩, ⟨a7, k7⟩⟩ := h
  exact ⟨va_Nw.same rfl e h1, va_Nw.same rfl e h2, va_Nw.same rfl e h3, va_Nw.same rfl e h4, ⟨a1, vk_R.same e.symm k1⟩, ⟨a2, vk_R.same e.symm k2⟩, ⟨a3, vk_R.same e.symm k3⟩, ⟨a4, vk_R.same e.symm k4⟩, ⟨a5, vk_R.same e.symm k5⟩, ⟨a6, vk_R.same e.symm k6⟩, ⟨a7, vk_R.same e.symm k7⟩⟩
theorem thr_hat {args : Array Value} {s : State} (h1 : ∀ w ∈ (vx_atS RX9 67 IAE thN).filter goodWord, w.before args s = true) (h : thr s) : ∀ w ∈ vx_atS RX9 67 IAE thN, w.before args s = true :=
  vx_hat (B := [.declares ⟨"java/lang/RuntimeException", "<init>", "(Ljava/lang/String;)V"⟩, .declares ⟨"java/lang/Exception", "<init>", "(Ljava/lang/String;)V"⟩, .declares ⟨"java/lang/Throwable", "<init>", "(Ljava/lang/String;)V"⟩, .castable IAE IAE]) h1 (by decide +kernel)
    (vx_c (va_Nw.use rfl h.1) (vx_c (va_Nw.use rfl h.2.1) (vx_c (va_Nw.use rfl h.2.2.1) (vx_c (va_Nw.use rfl h.2.2.2.1) vx_n))))
theorem thr_good : ∀ w ∈ Cond.classLink RX9 63 IAE :: Cond.initialized IAE :: vx_atS RX9 67 IAE thN, vx_ot w = true := by decide +kernel
abbrev ZU (A : Nat → Prop) (U : State) (H : Heap) : Prop := vx_Zq Bundle.tN "UNASSIGNED_STACK" Bundle.steD A U H
abbrev ZN (A : Nat → Prop) (U : State) (H : Heap) : Prop := vx_Zq Bundle.tN "SUPPRESSED_SENTINEL" Bundle.listD A U H
def Pt (D : va_G) (tys : List (ClassId × FieldType)) (ws : va_W) (sz : Nat) (U : State) : Prop := Pw D tys ws sz U ∧ thr U ∧ ZU (va_A ws sz) U U.heap ∧ ZN (va_A ws sz) U U.heap
theorem Pt_blind {av : List Value} {D : va_G} {tys : List (ClassId × FieldType)} {ws : va_W} {sz : Nat} : FrameBlind (va_Pc av (Pt D tys ws sz)) := by
  intro a U g mk q
  obtain ⟨q0, qw, qt, q1, q2⟩ := q
  have h := Pw_blind (av := av) (D := D) (tys := tys) (ws := ws) (sz := sz) a U g mk ⟨q0, qw⟩
  exact ⟨q0, h.2, thr.same (s := U) (U := U.calling g mk a) rfl qt, vx_Zq.moved (u := U) (U := U.calling g mk a) (Vm.Alike.refl U.vm) q1, vx_Zq.moved (u := U) (U := U.calling g mk a) (Vm.Alike.refl U.vm) q2⟩
theorem Pt_at {av : List Value} {D : va_G} {tys : List (ClassId × FieldType)} {ws : va_W} {A : Nat → Prop} {s U : State} {H : Heap} {locs : List Loc} (hK : va_K D vwCl tys s) (hP : va_P D vwCl ws H) (hD : va_D A ws) (hN : nest s) (hT : thr s) (z1 : ZU A s s.heap) (z2 : ZN A s s.heap) (hS : va_S A s.heap H locs) (hF : ∀ q, va_A ws H.size q → A q) (hU : U.heap = H) (hW : s.WarmedH U.vm) : va_Pc av (Pt D tys ws H.size) av.toArray U :=
  ⟨rfl, (Pw_at (av := av) hK hP hD hN hU hW).2, hT.warm hW, by rw [hU]; exact vx_Zq.moved hW.alike (vx_Zq.narrow (vx_Zq.kept z1 (fun a h1 h2 => hS.2.1 a h1 h2)) hF), by rw [hU]; exact vx_Zq.moved hW.alike (vx_Zq.narrow (vx_Zq.kept z2 (fun a h1 h2 => hS.2.1 a h1 h2)) hF)⟩
/-- the world is as it was, where a method has thrown -/
abbrev Xw (D : va_G) (A : Nat → Prop) (ws : va_W) (bad : Prop) : String → State → State → Prop := vx_X (fun _ : Unit => bad) (fun E (_ : Unit) t => E = IAE ∧ va_P D vwCl ws t.heap ∧ va_D A ws) A
theorem Xw_throw {D : va_G} {A : Nat → Prop} {ws : va_W} {bad : Prop} {s : State} {H : Heap} {locs : List Loc} (hb : bad) (hP : va_P D vwCl ws H) (hD : va_D A ws) (hS : va_S A s.heap H locs) : ∀ t : State, s.vm.Alike t.vm → H.size ≤ t.heap.size → (∀ q : Nat, q < H.size → t.heap[q]? = H[q]?) → Xw D A ws bad IAE s t :=
  fun t _ h1 h2 => ⟨(), hb, ⟨rfl, hP.kept (fun k q hq => h2 q.1 ((hP k q hq).lt)), hD⟩, Nat.le_trans hS.1 h1, fun q g1 g2 => (h2 q (Nat.lt_of_lt_of_le g1 hS.1)).trans (hS.2.1 q g1 g2)⟩
section CK
variable {p : Program} {l : Launch} {e : Env} {R : Room} {s : State} {m : MethodId} {args : Array Value} {below : List Frame} {meth : Method} {c : Code} {H : Heap} {locs : List Loc} {cells slots : Nat} {Q : State → Prop}
variable {pc : Nat} {ls : Array Slot} {rest st0 : List Value} {a : Array Value} {A : Nat → Prop} {H0 : Heap} {mc ms : Nat} {D : va_G} {ws : va_W}
/-- a call of a method that looks at its arguments alone, and throws or not -/
theorem ck_call {good bad : Prop} (hr : vx_Run p l e R s m args below meth c H locs cells slots mc ms (F0 m pc ls st0) rest (va_Qv (fun w => ∃ _u : Unit, good ∧ w = []) (Bq D (va_A [] H.size)) (va_A [] H.size) a) (Xw D (va_A [] H.size) [] bad) (va_A [] H.size))
    (hP : va_P D vwCl ws H) (hS : va_S A H0 H locs) (hA : ∀ q, H0.size ≤ q → A q)
    (kx : bad → ∀ (ce : Cell) (q9 : Addr) (H1 : Heap) (locs1 : List Loc), va_P D vwCl ws H1 → va_S A H0 H1 locs1 → H1[q9]? = some ce → ce.vm = .none → s.vm.findClass IAE = some ce.cls → vx_W p l e R s m args below meth c H1 locs1 (cells + mc) (slots + ms) Q (F0 m pc ls rest) q9)
    (kk : good → ∀ (H1 : Heap) (locs1 : List Loc), va_P D vwCl ws H1 → va_S A H0 H1 locs1 → W p l e R s m args below meth c H1 locs1 (cells + mc) (slots + ms) Q (F0 m (pc + 3) ls rest)) : W p l e R s m args below meth c H locs cells slots Q (F0 m pc ls st0) := by
  have hF : ∀ q, va_A [] H.size q → A q := fun q h => by
    rcases h with ⟨k, e9, h9⟩ | h
    · simp at h9
    · exact hA q (Nat.le_trans hS.1 h)
  have hnk : ∀ q, q < H.size → ¬ va_A [] H.size q := fun q hq h => by
    rcases h with ⟨k, e9, h9⟩ | h
    · simp at h9
    · exact absurd hq (Nat.not_lt.mpr h)
  refine vx_callv hr hS (fun q _ h => hF q h) hF (fun q _ h => hF q h) (fun E ce q9 u t H1 locs1 ht hvm hbad hB hz hk hS1 hce hcv hcl => ?_) (fun w t H1 locs1 ht hvm hw hB hz hk hS1 => ?_)
  · obtain ⟨rfl, -, -⟩ := hB
    exact kx hbad ce q9 H1 locs1 (hP.kept (fun k q hq => hk q.1 ((hP k q hq).lt) (hnk q.1 ((hP k q hq).lt)))) hS1 hce hcv hcl
  · obtain ⟨-, hg, rfl⟩ := hw
    exact kk hg H1 locs1 (hP.kept (fun k q hq => hk q.1 ((hP k q hq).lt) (hnk q.1 ((hP k q hq).lt)))) hS1
end CK
theorem Xw_same {D : va_G} {A : Nat → Prop} {ws : va_W} {bad : Prop} {s t : State} {H : Heap} {locs : List Loc} (hb : bad) (hP : va_P D vwCl ws H) (hD : va_D A ws) (hS : va_S A s.heap H locs) (ht : t.heap = H) : Xw D A ws bad IAE s t :=
  ⟨(), hb, ⟨rfl, by rw [ht]; exact hP, hD⟩, hS.F ht⟩
