/-! what the law's entry gives: links, throws' needs, statics, the classes -/
theorem tb_at {args : Array Value} {s : State} (hts : ∀ w ∈ lw_tbl, w.before args s = true) {w : Cond} (k : Nat) (h : lw_tbl[k]? = some w) : w.before args s = true := hts w (List.mem_of_getElem? h)
set_option maxRecDepth 20000 in
theorem st_nest {args : Array Value} {s : State} (hts : ∀ w ∈ lw_tbl, w.before args s = true) : nest s :=
  ⟨va_Nw.of rfl (tb_at hts 79 (by decide +kernel)), va_Nw.of rfl (tb_at hts 334 (by decide +kernel)), va_Nw.of rfl (tb_at hts 297 (by decide +kernel)), va_Nw.of rfl (tb_at hts 432 (by decide +kernel)), va_Nw.of rfl (tb_at hts 490 (by decide +kernel)), va_Nw.of rfl (tb_at hts 339 (by decide +kernel)), va_Nw.of rfl (tb_at hts 363 (by decide +kernel)), va_Nw.of rfl (tb_at hts 329 (by decide +kernel)), va_Nw.of rfl (tb_at hts 354 (by decide +kernel))⟩
theorem st_str {args : Array Value} {s : State} {cur k : Nat} {tx : String} (hown : s.vm.findClass RX9 = some cur) (h : (Cond.stringRef RX9 k tx).before args s = true) : ∃ a, vk_R RX9 k tx a s := by
  obtain ⟨_, _, _, a, -, -, -, -, -, hev⟩ := Cond.stringRef_spec hown h
  exact ⟨a, vk_R.of h hev⟩
set_option maxRecDepth 20000 in
theorem st_thr {args : Array Value} {s : State} (hts : ∀ w ∈ lw_tbl, w.before args s = true) : thr s := by
  have hi : (Cond.instantiable RX9 4).before args s = true := (tb_at hts 40 (by decide +kernel))
  obtain ⟨cC, kC, hfc, -⟩ := Cond.instantiable_spec hi
  exact ⟨va_Nw.of rfl (tb_at hts 229 (by decide +kernel)), va_Nw.of rfl (tb_at hts 231 (by decide +kernel)), va_Nw.of rfl (tb_at hts 233 (by decide +kernel)), va_Nw.of rfl (tb_at hts 227 (by decide +kernel)), st_str hfc (tb_at hts 264 (by decide +kernel)), st_str hfc (tb_at hts 291 (by decide +kernel)), st_str hfc (tb_at hts 421 (by decide +kernel)), st_str hfc (tb_at hts 422 (by decide +kernel)), st_str hfc (tb_at hts 423 (by decide +kernel)), st_str hfc (tb_at hts 483 (by decide +kernel)), st_str hfc (tb_at hts 484 (by decide +kernel))⟩
set_option maxRecDepth 20000 in
theorem st_ZU {args : Array Value} {s : State} {A : Nat → Prop} (hts : ∀ w ∈ lw_tbl, w.before args s = true) (hgv : (Jvm.Cond.and given_1 narrow_1).before args s = true) (hA : ∀ a : Nat, a < s.heap.size → ¬ A a) : ZU A s s.heap := by
  have h : (Cond.isRef (.static Bundle.tN "UNASSIGNED_STACK" Bundle.steD)).before args s = true := flat_of_before _ hgv _ (by decide +kernel)
  exact vx_Zqof (tb_at hts 252 (by decide +kernel)) (tb_at hts 28 (by decide +kernel)) h hA
set_option maxRecDepth 20000 in
theorem st_ZN {args : Array Value} {s : State} {A : Nat → Prop} (hts : ∀ w ∈ lw_tbl, w.before args s = true) (hgv : (Jvm.Cond.and given_1 narrow_1).before args s = true) (hA : ∀ a : Nat, a < s.heap.size → ¬ A a) : ZN A s s.heap := by
  have h : (Cond.isRef (.static Bundle.tN "SUPPRESSED_SENTINEL" Bundle.listD)).before args s = true := flat_of_before _ hgv _ (by decide +kernel)
  exact vx_Zqof (tb_at hts 254 (by decide +kernel)) (tb_at hts 28 (by decide +kernel)) h hA
set_option maxRecDepth 20000 in
theorem st_known {args : Array Value} {s : State} (hts : ∀ w ∈ lw_tbl, w.before args s = true) : ∃ D : va_G, ∀ (k : Nat) (q : vw_C), vwCl[k]? = some q → u_Kn s q.1 q.2.1 q.2.2 (D.1 k) (D.2 k) := by
  obtain ⟨c0, i0, k0⟩ := u_known (C := RX0) (T := TX0) (N := 5) (n := 5) hts inX0 (tb_at hts 48 (by decide +kernel))
  obtain ⟨c1, i1, k1⟩ := u_known (C := RX2) (T := TX2) (N := 2) (n := 2) hts inX2 (tb_at hts 293 (by decide +kernel))
  obtain ⟨c2, i2, k2⟩ := u_known (C := RX4) (T := TX4) (N := 5) (n := 5) hts inX4 (tb_at hts 425 (by decide +kernel))
  obtain ⟨c3, i3, k3⟩ := u_known (C := RX5) (T := TX5) (N := 5) (n := 5) hts inX5 (tb_at hts 465 (by decide +kernel))
  obtain ⟨c4, i4, k4⟩ := u_known (C := RX6) (T := TX6) (N := 4) (n := 4) hts inX6 (tb_at hts 486 (by decide +kernel))
  obtain ⟨c5, i5, k5⟩ := u_known (C := RX7) (T := TX7) (N := 5) (n := 5) hts inX7 (tb_at hts 78 (by decide +kernel))
  obtain ⟨c6, i6, k6⟩ := u_known (C := RX8) (T := TX8) (N := 5) (n := 5) hts inX8 (tb_at hts 84 (by decide +kernel))
  obtain ⟨c7, i7, k7⟩ := u_known (C := RX9) (T := TX9) (N := 4) (n := 4) hts inX9 (tb_at hts 40 (by decide +kernel))
  obtain ⟨c8, i8, k8⟩ := u_known (C := RX10) (T := TX10) (N := 11) (n := 11) hts inX10 (tb_at hts 505 (by decide +kernel))
  refine ⟨(fun k => match k with | 0 => c0 | 1 => c1 | 2 => c2 | 3 => c3 | 4 => c4 | 5 => c5 | 6 => c6 | 7 => c7 | _ => c8, fun k => match k with | 0 => i0 | 1 => i1 | 2 => i2 | 3 => i3 | 4 => i4 | 5 => i5 | 6 => i6 | 7 => i7 | _ => i8), ?_⟩
  intro k q hq
  match k, hq with
  | 0, hq => cases hq; exact k0
  | 1, hq => cases hq; exact k1
  | 2, hq => cases hq; exact k2
  | 3, hq => cases hq; exact k3
  | 4, hq => cases hq; exact k4
  | 5, hq => cases hq; exact k5
  | 6, hq => cases hq; exact k6
  | 7, hq => cases hq; exact k7
  | 8, hq => cases hq; exact k8
  | k + 9, hq => simp [vwCl] at hq
