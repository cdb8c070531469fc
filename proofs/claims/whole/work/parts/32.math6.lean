/-! the class's steps -/
theorem stC {W : Nat} {cg r : Int32} {f : Nat → Int32} {item out : List Int32} {L : Int32} {n : Nat} (hL : nI W + L = nI (W + n)) (hi : ¬ [67] = item) (ho : out.length = n) (hW : W < 1000) :
    ((if r = 0 then cg + 1 else (if dT item out = 0 then cg else cg + 1), if r = 0 then nI W + 1 else nI W + L, if r = 0 then fX9_put f (nI W) 67 else wr f W out) : Int32 × Int32 × (Nat → Int32)) = (cg + dT item (if r = 0 then [67] else out), nI (W + (if r = 0 then [67] else out).length), wr f W (if r = 0 then [67] else out)) := by
  by_cases h : r = 0
  · simp only [if_pos h]
    rw [put_in _ _ hW, n1]
    exact (Prod.ext (by unfold dT; rw [if_neg hi]) rfl)
  · simp only [if_neg h]
    rw [hL, ho]
    refine Prod.ext ?_ rfl
    show (if dT item out = 0 then cg else cg + 1) = cg + dT item out
    unfold dT
    by_cases h2 : out = item
    · simp [h2]
    · simp [h2]
theorem s42 (K : Nat) : nI (K + 4) - 2 = nI (K + 2) := by rw [show (2 : Int32) = nI 2 from rfl, pk_sub (by omega)]; rfl
theorem s41 (K : Nat) : nI (K + 4) - 1 = nI (K + 3) := by rw [show (1 : Int32) = nI 1 from rfl, pk_sub (by omega)]; rfl
theorem s62 (K : Nat) : nI (K + 6) - 2 = nI (K + 4) := by rw [show (2 : Int32) = nI 2 from rfl, pk_sub (by omega)]; rfl
theorem s61 (K : Nat) : nI (K + 6) - 1 = nI (K + 5) := by rw [show (1 : Int32) = nI 1 from rfl, pk_sub (by omega)]; rfl
theorem kp0 (dn al wh rl rf ra rx ry kl kf ka kx ky : Int32) : (fX2_keeps dn al wh rl rf ra rx ry kl kf ka kx ky).1 = 0 ↔ ((if fX9_has wh 16 = 0 then fX8_shiftLoose rl rf ra rx ry dn else (1, rf, ra, rx, ry)).1 = 0 ∨ (if fX9_has wh 32 = 0 then fX8_shiftLoose kl kf ka kx ky al else (1, kf, ka, kx, ky)).1 = 0) := by
  unfold fX2_keeps
  generalize fX8_shiftLoose rl rf ra rx ry dn = S1
  generalize fX8_shiftLoose kl kf ka kx ky al = S2
  by_cases h1 : fX9_has wh 16 = 0 <;> by_cases h2 : S1.1 = 0 <;> by_cases h3 : fX9_has wh 32 = 0 <;> by_cases h4 : S2.1 = 0 <;> simp [h1, h2, h3, h4]
theorem kp1 (dn al wh rl rf ra rx ry kl kf ka kx ky : Int32) (R C : Int32 × Int32 × Int32 × Int32 × Int32) (hR : (if fX9_has wh 16 = 0 then fX8_shiftLoose rl rf ra rx ry dn else (1, rf, ra, rx, ry)) = R) (hC : (if fX9_has wh 32 = 0 then fX8_shiftLoose kl kf ka kx ky al else (1, kf, ka, kx, ky)) = C) (h5 : ¬ R.1 = 0) (h6 : ¬ C.1 = 0) :
    fX2_keeps dn al wh rl rf ra rx ry kl kf ka kx ky = (1, R.2.1, R.2.2.1, R.2.2.2.1, R.2.2.2.2, C.2.1, C.2.2.1, C.2.2.2.1, C.2.2.2.2) := by
  unfold fX2_keeps
  generalize fX8_shiftLoose rl rf ra rx ry dn = S1 at hR ⊢
  generalize fX8_shiftLoose kl kf ka kx ky al = S2 at hC ⊢
  subst hR hC
  by_cases h1 : fX9_has wh 16 = 0 <;> by_cases h2 : S1.1 = 0 <;> by_cases h3 : fX9_has wh 32 = 0 <;> by_cases h4 : S2.1 = 0 <;> simp_all
theorem mv1 (x y u : Int32) : fX10_moved x 1 y u = x := by
  unfold fX10_moved
  rw [if_neg (by decide)]
theorem rwL (A ll fi la ff lf x : Int32) (h1 : 1 ≤ fi) (h2 : fi ≤ ll) (h3 : 1 ≤ la) (h4 : la ≤ ll) (h5 : fi ≤ la) (t b : Int32) (ht : fX10_moved fi (if A = 0 then ff else 1) x ll = t) (hb : fX10_moved la (if A = 0 then lf else 1) x ll = b) :
    ((if A = 0 then fX8_shiftLoose ll fi la ff lf x else (1, fi, la, ff, lf)).1 = 0 ↔ (t = 0 ∨ b = 0)) ∧ (¬ t = 0 → ¬ b = 0 → (if A = 0 then fX8_shiftLoose ll fi la ff lf x else (1, fi, la, ff, lf)) = (1, if t ≤ b then t else b, if t ≤ b then b else t, if t ≤ b then ff else lf, if t ≤ b then lf else ff)) := by
  by_cases hA : A = 0
  · simp only [if_pos hA] at ht hb ⊢
    subst ht hb
    exact ⟨sl0 ll fi la ff lf x h1 h2 h3 h4, sl1 ll fi la ff lf x h1 h2 h3 h4⟩
  · simp only [if_neg hA, mv1] at ht hb ⊢
    subst ht hb
    have e1 : ¬ fi = 0 := fun q => by rw [q] at h1; exact absurd h1 (by decide)
    have e2 : ¬ la = 0 := fun q => by rw [q] at h3; exact absurd h3 (by decide)
    refine ⟨⟨fun q => absurd q (by decide), fun q => q.elim (fun z => absurd z e1) (fun z => absurd z e2)⟩, fun _ _ => ?_⟩
    simp only [if_pos h5]
theorem E_cp4 {m : Nat} (hm : m < 4) (dn al s r c : Int32) (hr : okR r) (hc : okC c) (P : Int32 × Int32 × Int32 × Int32 × Int32 × Int32 × Int32 × Int32 × Int32) (hP : fX2_keeps dn al 0 1048576 r r (fX9_has (nI m) 2) (fX9_has (nI m) 2) 16384 c c (fX9_has (nI m) 1) (fX9_has (nI m) 1) = P) :
    (if P.1 = 0 then [67] else [fX7_wordAt_0 0 0 P.2.2.2.1 P.2.2.2.2.1 P.2.2.2.2.2.2.2.1 P.2.2.2.2.2.2.2.2, s, P.2.1, P.2.2.2.2.2.1]) = tcp4 dn al (nI (4 + 16 * m)) s r c := by
  obtain ⟨a1, a2, a3, a4, a5, a6⟩ := hd4 m hm
  have w1 : fX9_has 0 16 = 0 := by decide
  have w2 : fX9_has 0 32 = 0 := by decide
  obtain ⟨x1, x2⟩ := rwL (fX9_has 0 16) 1048576 r r (fX9_has (nI m) 2) (fX9_has (nI m) 2) dn hr.1 hr.2 hr.1 hr.2 (Int32.le_refl r) _ _ rfl rfl
  obtain ⟨y1, y2⟩ := rwL (fX9_has 0 32) 16384 c c (fX9_has (nI m) 1) (fX9_has (nI m) 1) al hc.1 hc.2 hc.1 hc.2 (Int32.le_refl c) _ _ rfl rfl
  have k0 := kp0 dn al 0 1048576 r r (fX9_has (nI m) 2) (fX9_has (nI m) 2) 16384 c c (fX9_has (nI m) 1) (fX9_has (nI m) 1)
  have k1 := kp1 dn al 0 1048576 r r (fX9_has (nI m) 2) (fX9_has (nI m) 2) 16384 c c (fX9_has (nI m) 1) (fX9_has (nI m) 1) _ _ rfl rfl
  rw [hP] at k0 k1
  rw [x1, y1] at k0
  unfold tcp4
  rw [a1]
  simp only [w1, w2, if_true] at k0 k1 x2 y2
  generalize fX10_moved r (fX9_has (nI m) 2) dn 1048576 = t at *
  generalize fX10_moved c (fX9_has (nI m) 1) al 16384 = l at *
  by_cases h1 : t = 0
  · rw [if_pos (k0.mpr (Or.inl (Or.inl h1))), if_pos h1]
  by_cases h2 : l = 0
  · rw [if_pos (k0.mpr (Or.inr (Or.inl h2))), if_neg h1, if_pos h2]
  have g1 : ¬ P.1 = 0 := fun q => by rcases k0.mp q with (z | z) | (z | z) <;> first | exact h1 z | exact h2 z
  rw [if_neg g1, if_neg h1, if_neg h2]
  have x3 := x2 h1 h1
  have y3 := y2 h2 h2
  have k2 := k1 (by rw [x3]; exact (by decide : ¬ (1 : Int32) = 0)) (by rw [y3]; exact (by decide : ¬ (1 : Int32) = 0))
  rw [x3, y3] at k2
  rw [k2]
  simp only [ite_self]
  unfold fX7_wordAt_0
  rw [if_pos rfl, a4]
theorem E_cp6 {m : Nat} (hm : m < 48) (dn al s t l b r : Int32) (ht : okR t) (hl : okC l) (hb : okR b) (hr : okC r) (htb : t ≤ b) (hlr : l ≤ r) (P : Int32 × Int32 × Int32 × Int32 × Int32 × Int32 × Int32 × Int32 × Int32) (hP : fX2_keeps dn al (nI m &&& 48) 1048576 t b (fX9_has (nI m) 2) (fX9_has (nI m / 4) 2) 16384 l r (fX9_has (nI m) 1) (fX9_has (nI m / 4) 1) = P) :
    (if P.1 = 0 then [67] else [fX7_wordAt_0 1 (nI m &&& 48) P.2.2.2.1 P.2.2.2.2.1 P.2.2.2.2.2.2.2.1 P.2.2.2.2.2.2.2.2, s, P.2.1, P.2.2.2.2.2.1, P.2.2.1, P.2.2.2.2.2.2.1]) = tcp6 dn al (nI (5 + 16 * m)) s t l b r := by
  obtain ⟨a1, a2, a3, a4⟩ := hd5 m hm
  obtain ⟨b1, b2, b3, b4, b5, b6⟩ := hd6 m hm
  rw [b3, b4] at hP
  obtain ⟨x1, x2⟩ := rwL (fX9_has (nI m) 16) 1048576 t b (fX9_has (nI m) 2) (fX9_has (nI m) 8) dn ht.1 ht.2 hb.1 hb.2 htb _ _ rfl rfl
  obtain ⟨y1, y2⟩ := rwL (fX9_has (nI m) 32) 16384 l r (fX9_has (nI m) 1) (fX9_has (nI m) 4) al hl.1 hl.2 hr.1 hr.2 hlr _ _ rfl rfl
  have k0 := kp0 dn al (nI m &&& 48) 1048576 t b (fX9_has (nI m) 2) (fX9_has (nI m) 8) 16384 l r (fX9_has (nI m) 1) (fX9_has (nI m) 4)
  have k1 := kp1 dn al (nI m &&& 48) 1048576 t b (fX9_has (nI m) 2) (fX9_has (nI m) 8) 16384 l r (fX9_has (nI m) 1) (fX9_has (nI m) 4) _ _ rfl rfl
  rw [hP] at k0 k1
  rw [b1, b2] at k0 k1
  rw [x1, y1] at k0
  have hX := hdX m hm
  unfold tcp6 zz
  rw [a1]
  generalize fX10_moved t (if fX9_has (nI m) 16 = 0 then fX9_has (nI m) 2 else 1) dn 1048576 = t1 at *
  generalize fX10_moved b (if fX9_has (nI m) 16 = 0 then fX9_has (nI m) 8 else 1) dn 1048576 = b1 at *
  generalize fX10_moved l (if fX9_has (nI m) 32 = 0 then fX9_has (nI m) 1 else 1) al 16384 = l1 at *
  generalize fX10_moved r (if fX9_has (nI m) 32 = 0 then fX9_has (nI m) 4 else 1) al 16384 = r1 at *
  by_cases h1 : t1 = 0
  · rw [if_pos (k0.mpr (Or.inl (Or.inl h1))), if_pos h1]
  by_cases h2 : b1 = 0
  · rw [if_pos (k0.mpr (Or.inl (Or.inr h2))), if_neg h1, if_pos h2]
  by_cases h3 : l1 = 0
  · rw [if_pos (k0.mpr (Or.inr (Or.inl h3))), if_neg h1, if_neg h2, if_pos h3]
  by_cases h4 : r1 = 0
  · rw [if_pos (k0.mpr (Or.inr (Or.inr h4))), if_neg h1, if_neg h2, if_neg h3, if_pos h4]
  have g1 : ¬ P.1 = 0 := fun q => by rcases k0.mp q with (z | z) | (z | z) <;> first | exact h1 z | exact h2 z | exact h3 z | exact h4 z
  rw [if_neg g1, if_neg h1, if_neg h2, if_neg h3, if_neg h4]
  have x3 := x2 h1 h2
  have y3 := y2 h3 h4
  have k2 := k1 (by rw [x3]; exact (by decide : ¬ (1 : Int32) = 0)) (by rw [y3]; exact (by decide : ¬ (1 : Int32) = 0))
  rw [x3, y3] at k2
  rw [k2]
  unfold fX7_wordAt_0
  rw [if_neg (show ¬ (1 : Int32) = 0 by decide)]
  by_cases o1 : t1 ≤ b1 <;> by_cases o2 : l1 ≤ r1
  · have := hX false false
    simp only [if_true] at this
    simp only [if_pos o1, if_pos o2, this]
  · have := hX false true
    simp only [if_true, Bool.true_eq_false, if_false] at this
    simp only [if_pos o1, if_neg o2, this]
  · have := hX true false
    simp only [if_true, Bool.true_eq_false, if_false] at this
    simp only [if_neg o1, if_pos o2, this]
  · have := hX true true
    simp only [Bool.true_eq_false, if_false] at this
    simp only [if_neg o1, if_neg o2, this]
