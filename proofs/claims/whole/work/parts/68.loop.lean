/-! the law's loop: a switch over eleven cases, seven ints a turn -/
theorem lp_in {i L : Nat} (hL : L ≤ 3584) (hi : i ≤ L) (h : ¬ nI L - 7 < nI i) : i + 7 ≤ L := by
  have e1 : (nI i).toInt = (i : Int) := nI_toInt (by omega)
  have e2 : (nI L).toInt = (L : Int) := nI_toInt (by omega)
  have e3 : (nI L - 7).toInt = (L : Int) - 7 := by
    rw [Int32.toInt_sub, e2, show (7 : Int32).toInt = 7 from rfl, Int.bmod_eq_of_le] <;> omega
  rw [lt_toInt, e1, e3] at h
  omega
set_option maxHeartbeats 4000000 in
set_option maxRecDepth 100000 in
theorem lp_next {p : Program} {l : Launch} {e : Env} {s : State} {m : MethodId} {below : List Frame} {meth : Method} {c : Code} {D : va_G} {A : Nat → Prop} {b h0 h1 h4 h5 h6 m0 m1 m2 ho : Nat} {cA cB cC cL : ClassId} {L : Nat} {xs : Nat → Int32} (C : Lc p l e s m below meth c D A b h0 h1 h4 h5 h6 m0 m1 m2 ho cA cB cC cL L xs) {cl sl i : Nat} (KH : Lw p l e s m below meth c D A b h0 h1 h4 h5 h6 m0 m1 m2 ho cA cB cC cL 23 cl sl (nI (i + 7))) : Lw p l e s m below meth c D A b h0 h1 h4 h5 h6 m0 m1 m2 ho cA cB cC cL 807 cl sl (nI i) := by
  obtain ⟨hst, ⟨hx, hb, hr, hml, hown, hts0, hX, hbl, hlocks, hgv⟩, hN, hT, z1, z2, hK, hA, hbA⟩ := C
  intro items nn1 nn2 f f2 g2 go h8 cd md ch qs qt ql qb qr isr wh sh rf ra rx ry kf ka kx ky H locs ls hB hR hP hD hS hl
  refine lv_iinc (v := nI (i + 7)) (lv' := [(4, .int (nI (i + 7))), (0, .ref b), (1, .ref h0), (2, .ref m0), (3, .ref ho)]) hx hb dL_law_807 hl (k := 4) rfl (nI_add i 7) (by decide) rfl (fun ls hl => ?_)
  refine lv_goto (tgt := 23) hx hb dL_law_810 (by decide) ?_
  exact KH items nn1 nn2 f f2 g2 go h8 cd md ch qs qt ql qb qr isr wh sh rf ra rx ry kf ka kx ky H locs ls hB hR hP hD hS (lv_sub hl [1, 2, 3, 4, 0] rfl)
set_option maxHeartbeats 4000000 in
set_option maxRecDepth 100000 in
theorem lp_turn {p : Program} {l : Launch} {e : Env} {s : State} {m : MethodId} {below : List Frame} {meth : Method} {c : Code} {D : va_G} {A : Nat → Prop} {b h0 h1 h4 h5 h6 m0 m1 m2 ho : Nat} {cA cB cC cL : ClassId} {L : Nat} {xs : Nat → Int32} (C : Lc p l e s m below meth c D A b h0 h1 h4 h5 h6 m0 m1 m2 ho cA cB cC cL L xs) (hAc : ∀ q : Nat, A q → s.heap.size ≤ q) (hL : L ≤ 3584) {cl sl i : Nat} (hcl : cl + 2 ≤ 651793) (hsl : sl + 11 ≤ 7140724) (hi : i ≤ L) (KN : i + 7 ≤ L → Lw p l e s m below meth c D A b h0 h1 h4 h5 h6 m0 m1 m2 ho cA cB cC cL 807 (cl + 2) (sl + 11) (nI i)) : Lw p l e s m below meth c D A b h0 h1 h4 h5 h6 m0 m1 m2 ho cA cB cC cL 23 cl sl (nI i) := by
  obtain ⟨hst, ⟨hx, hb, hr, hml, hown, hts0, hX, hbl, hlocks, hgv⟩, hN, hT, z1, z2, hK, hA, hbA⟩ := id C
  intro items nn1 nn2 f f2 g2 go h8 cd md ch qs qt ql qb qr isr wh sh rf ra rx ry kf ka kx ky H locs ls hB hR hP hD hS hl
  refine lv_iload hx hb dL_law_23 (lv_at hl 4 rfl) ?_
  refine lv_aload_n hx hb dL_law_25 rfl (lv_at hl 0 rfl) ?_
  refine va_slen hx hb hX hbl hbA hS dL_law_26 ?_
  refine lv_bipush (v := 7) hx hb dL_law_27 (by decide) ?_
  refine lv_isub hx hb dL_law_29 ?_
  refine lv_icmp_gt (tgt := 813) hx hb dL_law_30 (by decide) (fun _ => ?_) (fun c1 => ?_)
  · refine lv_iconst (v := 1) hx hb dL_law_813 (by decide) ?_
    refine va_forget (fun q hq => hAc _ (hS.2.2 q hq)) ?_
    refine W.widen (k := 651793) (n := 7140724) (by omega) (by omega) ?_
    exact lw_ret hx hb hr hlocks dL_law_814
  · have hi7 : i + 7 ≤ L := lp_in hL hi c1
    have v0 : vp_in (nI i) L := vp_in_nI (by omega) (by omega)
    refine lv_aload_n hx hb dL_law_33 rfl (lv_at hl 0 rfl) ?_
    refine lv_iload hx hb dL_law_34 (lv_at hl 4 rfl) ?_
    refine va_sld hx hb hX hbl hbA hS v0 dL_law_36 ?_
    refine lv_bipush (v := 15) hx hb dL_law_37 (by decide) ?_
    refine lv_iand hx hb dL_law_39 ?_
    refine lv_topi (fun v _ => ?_)
    rcases (show (v.toInt < 0 ∨ 10 < v.toInt) ∨ v.toInt = 0 ∨ v.toInt = 1 ∨ v.toInt = 2 ∨ v.toInt = 3 ∨ v.toInt = 4 ∨ v.toInt = 5 ∨ v.toInt = 6 ∨ v.toInt = 7 ∨ v.toInt = 8 ∨ v.toInt = 9 ∨ v.toInt = 10 by omega) with k9 | k9 | k9 | k9 | k9 | k9 | k9 | k9 | k9 | k9 | k9 | k9
    · refine lv_tableOut (tgt := 807) hx hb dL_law_40 k9 (by decide) ?_
      refine W.widen (k := cl + 2) (n := sl + 11) (by omega) (by omega) ?_
      exact KN hi7 items nn1 nn2 f f2 g2 go h8 cd md ch qs qt ql qb qr isr wh sh rf ra rx ry kf ka kx ky H locs ls hB hR hP hD hS hl
    · refine lv_tableIn (off := 60) (tgt := 100) hx hb dL_law_40 (by omega) (by omega) (by rw [k9]; rfl) (by decide) ?_
      exact lc_0 C hcl hsl hi7 hL (KN hi7) items nn1 nn2 f f2 g2 go h8 cd md ch qs qt ql qb qr isr wh sh rf ra rx ry kf ka kx ky H locs ls hB hR hP hD hS hl
    · refine lv_tableIn (off := 71) (tgt := 111) hx hb dL_law_40 (by omega) (by omega) (by rw [k9]; rfl) (by decide) ?_
      exact lc_1 C hcl hsl hi7 hL (KN hi7) items nn1 nn2 f f2 g2 go h8 cd md ch qs qt ql qb qr isr wh sh rf ra rx ry kf ka kx ky H locs ls hB hR hP hD hS hl
    · refine lv_tableIn (off := 96) (tgt := 136) hx hb dL_law_40 (by omega) (by omega) (by rw [k9]; rfl) (by decide) ?_
      exact lc_2 C hcl hsl hi7 hL (KN hi7) items nn1 nn2 f f2 g2 go h8 cd md ch qs qt ql qb qr isr wh sh rf ra rx ry kf ka kx ky H locs ls hB hR hP hD hS hl
    · refine lv_tableIn (off := 157) (tgt := 197) hx hb dL_law_40 (by omega) (by omega) (by rw [k9]; rfl) (by decide) ?_
      exact lc_3 C hcl hsl hi7 hL (KN hi7) items nn1 nn2 f f2 g2 go h8 cd md ch qs qt ql qb qr isr wh sh rf ra rx ry kf ka kx ky H locs ls hB hR hP hD hS hl
    · refine lv_tableIn (off := 244) (tgt := 284) hx hb dL_law_40 (by omega) (by omega) (by rw [k9]; rfl) (by decide) ?_
      exact lc_4 C hcl hsl hi7 hL (KN hi7) items nn1 nn2 f f2 g2 go h8 cd md ch qs qt ql qb qr isr wh sh rf ra rx ry kf ka kx ky H locs ls hB hR hP hD hS hl
    · refine lv_tableIn (off := 257) (tgt := 297) hx hb dL_law_40 (by omega) (by omega) (by rw [k9]; rfl) (by decide) ?_
      exact lc_5 C hcl hsl hi7 hL (KN hi7) items nn1 nn2 f f2 g2 go h8 cd md ch qs qt ql qb qr isr wh sh rf ra rx ry kf ka kx ky H locs ls hB hR hP hD hS hl
    · refine lv_tableIn (off := 282) (tgt := 322) hx hb dL_law_40 (by omega) (by omega) (by rw [k9]; rfl) (by decide) ?_
      exact lc_6 C hcl hsl hi7 hL (KN hi7) items nn1 nn2 f f2 g2 go h8 cd md ch qs qt ql qb qr isr wh sh rf ra rx ry kf ka kx ky H locs ls hB hR hP hD hS hl
    · refine lv_tableIn (off := 350) (tgt := 390) hx hb dL_law_40 (by omega) (by omega) (by rw [k9]; rfl) (by decide) ?_
      by_cases hz : xs (nI i + 3).toNatClampNeg = 0
      · exact lc_7_0 C hcl hsl hi7 hL hz (KN hi7) items nn1 nn2 f f2 g2 go h8 cd md ch qs qt ql qb qr isr wh sh rf ra rx ry kf ka kx ky H locs ls hB hR hP hD hS hl
      · exact lc_7_1 C hcl hsl hi7 hL hz (KN hi7) items nn1 nn2 f f2 g2 go h8 cd md ch qs qt ql qb qr isr wh sh rf ra rx ry kf ka kx ky H locs ls hB hR hP hD hS hl
    · refine lv_tableIn (off := 470) (tgt := 510) hx hb dL_law_40 (by omega) (by omega) (by rw [k9]; rfl) (by decide) ?_
      by_cases hz : xs (nI i + 3).toNatClampNeg = 0
      · exact lc_8_0 C hcl hsl hi7 hL hz (KN hi7) items nn1 nn2 f f2 g2 go h8 cd md ch qs qt ql qb qr isr wh sh rf ra rx ry kf ka kx ky H locs ls hB hR hP hD hS hl
      · exact lc_8_1 C hcl hsl hi7 hL hz (KN hi7) items nn1 nn2 f f2 g2 go h8 cd md ch qs qt ql qb qr isr wh sh rf ra rx ry kf ka kx ky H locs ls hB hR hP hD hS hl
    · refine lv_tableIn (off := 590) (tgt := 630) hx hb dL_law_40 (by omega) (by omega) (by rw [k9]; rfl) (by decide) ?_
      exact lc_9 C hcl hsl hi7 hL (KN hi7) items nn1 nn2 f f2 g2 go h8 cd md ch qs qt ql qb qr isr wh sh rf ra rx ry kf ka kx ky H locs ls hB hR hP hD hS hl
    · refine lv_tableIn (off := 663) (tgt := 703) hx hb dL_law_40 (by omega) (by omega) (by rw [k9]; rfl) (by decide) ?_
      exact lc_10 C hcl hsl hi7 hL (KN hi7) items nn1 nn2 f f2 g2 go h8 cd md ch qs qt ql qb qr isr wh sh rf ra rx ry kf ka kx ky H locs ls hB hR hP hD hS hl
theorem lp_go {p : Program} {l : Launch} {e : Env} {s : State} {m : MethodId} {below : List Frame} {meth : Method} {c : Code} {D : va_G} {A : Nat → Prop} {b h0 h1 h4 h5 h6 m0 m1 m2 ho : Nat} {cA cB cC cL : ClassId} {L : Nat} {xs : Nat → Int32} (C : Lc p l e s m below meth c D A b h0 h1 h4 h5 h6 m0 m1 m2 ho cA cB cC cL L xs) (hAc : ∀ q : Nat, A q → s.heap.size ≤ q) (hL : L ≤ 3584) :
    ∀ (n i cl sl : Nat), i ≤ L → L < i + 7 * n → cl + 2 * n ≤ 651793 → sl + 11 * n ≤ 7140724 → Lw p l e s m below meth c D A b h0 h1 h4 h5 h6 m0 m1 m2 ho cA cB cC cL 23 cl sl (nI i) := by
  intro n
  induction n with
  | zero => intro i cl sl h1 h2; exact absurd h2 (by omega)
  | succ n ih =>
    intro i cl sl hi hin hcl hsl
    exact lp_turn C hAc hL (by omega) (by omega) hi (fun hi7 => lp_next C (ih (i + 7) (cl + 2) (sl + 11) hi7 (by omega) (by omega) (by omega)))
