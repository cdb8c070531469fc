theorem stD {W n : Nat} {cg r : Int32} {f : Nat → Int32} {item out : List Int32} (hi : ¬ [67] = item) (ho : out.length = n) :
    ((if r = 0 then cg + 1 else (if dT item out = 0 then cg else cg + 1), if r = 0 then nI (W + 1) else nI (W + n), if r = 0 then upd f W 67 else wr f W out) : Int32 × Int32 × (Nat → Int32)) = (cg + dT item (if r = 0 then [67] else out), nI (W + (if r = 0 then [67] else out).length), wr f W (if r = 0 then [67] else out)) := by
  by_cases h : r = 0
  · simp only [if_pos h]
    exact (Prod.ext (by unfold dT; rw [if_neg hi]) rfl)
  · simp only [if_neg h]
    rw [ho]
    refine Prod.ext ?_ rfl
    show (if dT item out = 0 then cg else cg + 1) = cg + dT item out
    unfold dT
    by_cases h2 : out = item
    · simp [h2]
    · simp [h2]
theorem E_mv4 {m : Nat} (hm4 : m < 4) (cs ct cl cb cr hm nh s1 rw cw s r c : Int32) (P : Int32 × Int32 × Int32 × Int32 × Int32 × Int32) (hP : P = (if inn cs ct cl cb cr (onS hm s) r c r c = 0 then (if inn s1 rw cw (cb + (rw - ct)) (cr + (cw - cl)) (onS hm s) r c r c = 0 then (1, told nh s (onS hm s), r, r, c, c) else (0, s, r, r, c, c)) else (1, told nh s s1, r + (rw - ct), r + (rw - ct), c + (cw - cl), c + (cw - cl)))) :
    (if P.1 = 0 then [67] else [fX7_wordAt_0 0 (nI m &&& 48) (fX9_has (nI m) 2) (fX9_has (nI m) 2) (fX9_has (nI m) 1) (fX9_has (nI m) 1), P.2.1, P.2.2.1, P.2.2.2.2.1]) = tmv4 cs ct cl cb cr hm nh s1 rw cw (nI (4 + 16 * m)) s r c := by
  obtain ⟨a1, a2, a3, a4, a5, a6⟩ := hd4 m hm4
  have w0 : fX7_wordAt_0 0 (nI m &&& 48) (fX9_has (nI m) 2) (fX9_has (nI m) 2) (fX9_has (nI m) 1) (fX9_has (nI m) 1) = nI (4 + 16 * m) := by
    unfold fX7_wordAt_0
    rw [if_pos rfl, a4]
  rw [w0]
  subst hP
  unfold tmv4
  by_cases h1 : inn cs ct cl cb cr (onS hm s) r c r c = 0
  · by_cases h2 : inn s1 rw cw (cb + (rw - ct)) (cr + (cw - cl)) (onS hm s) r c r c = 0
    · simp only [if_pos h1, if_pos h2, if_neg (show ¬ (1 : Int32) = 0 by decide)]
    · simp only [if_pos h1, if_neg h2, if_true]
  · simp only [if_neg h1, if_neg (show ¬ (1 : Int32) = 0 by decide)]
theorem E_mv6 {m : Nat} (hm6 : m < 48) (cs ct cl cb cr hm nh s1 rw cw s t l b r : Int32) (P : Int32 × Int32 × Int32 × Int32 × Int32 × Int32) (hP : P = (if inn cs ct cl cb cr (onS hm s) t l b r = 0 then (if inn s1 rw cw (cb + (rw - ct)) (cr + (cw - cl)) (onS hm s) t l b r = 0 then (1, told nh s (onS hm s), t, b, l, r) else (0, s, t, b, l, r)) else (1, told nh s s1, t + (rw - ct), b + (rw - ct), l + (cw - cl), r + (cw - cl)))) :
    (if P.1 = 0 then [67] else [fX7_wordAt_0 1 (nI m &&& 48) (fX9_has (nI m) 2) (fX9_has (nI m / 4) 2) (fX9_has (nI m) 1) (fX9_has (nI m / 4) 1), P.2.1, P.2.2.1, P.2.2.2.2.1, P.2.2.2.1, P.2.2.2.2.2]) = tmv6 cs ct cl cb cr hm nh s1 rw cw (nI (5 + 16 * m)) s t l b r := by
  obtain ⟨a1, a2, a3, a4⟩ := hd5 m hm6
  have w0 : fX7_wordAt_0 1 (nI m &&& 48) (fX9_has (nI m) 2) (fX9_has (nI m / 4) 2) (fX9_has (nI m) 1) (fX9_has (nI m / 4) 1) = nI (5 + 16 * m) := by
    unfold fX7_wordAt_0
    rw [if_neg (show ¬ (1 : Int32) = 0 by decide), a4]
  rw [w0]
  subst hP
  unfold tmv6
  rw [a1, a3]
  by_cases h1 : inn cs ct cl cb cr (onS hm s) t l b r = 0
  · by_cases h2 : inn s1 rw cw (cb + (rw - ct)) (cr + (cw - cl)) (onS hm s) t l b r = 0
    · simp only [if_pos h1, if_pos h2, if_neg (show ¬ (1 : Int32) = 0 by decide)]
    · simp only [if_pos h1, if_neg h2, if_true]
  · simp only [if_neg h1, if_neg (show ¬ (1 : Int32) = 0 by decide)]

theorem sC_cp4 {m N K W : Nat} {cg : Int32} {f : Nat → Int32} {dn al s r c : Int32} (hm : m < 4) (hsS : okS s) (hr : okR r) (hc : okC c) (hs : Seg f K [nI (4 + 16 * m), s, r, c]) (hK : K + 4 ≤ N) (hN : N ≤ 1000) (hW : W ≤ K) :
    fsc_cp_4 (nI N) f 1048576 16384 dn al cg (nI W) (nI K) = (cg + dT [nI (4 + 16 * m), s, r, c] (tcp4 dn al (nI (4 + 16 * m)) s r c), nI (W + (tcp4 dn al (nI (4 + 16 * m)) s r c).length), wr f W (tcp4 dn al (nI (4 + 16 * m)) s r c)) := by
  obtain ⟨a1, a2, a3, a4, a5, a6⟩ := hd4 m hm
  obtain ⟨e0, e1, e2, e3⟩ := seg4 hs
  unfold fsc_cp_4
  simp only [n1, n2, n3, n4, s42, s41, word_in f (show K < N by omega) hN, word_in f (show K + 1 < N by omega) hN, word_in f (show K + 2 < N by omega) hN, word_in f (show K + 3 < N by omega) hN, put_in f 67 (show W < 1000 by omega), e0, e1, e2, e3, a1, a3]
  generalize hP : fX2_keeps dn al 0 1048576 r r (fX9_has (nI m) 2) (fX9_has (nI m) 2) 16384 c c (fX9_has (nI m) 1) (fX9_has (nI m) 1) = P
  rw [store4 hs hK hN hW]
  refine Eq.trans (stD (n := 4) (r := P.1) ne4 rfl) ?_
  rw [E_cp4 hm dn al s r c hr hc P hP]

theorem sC_cp6 {m N K W : Nat} {cg : Int32} {f : Nat → Int32} {dn al s t l b r : Int32} (hm : m < 48) (hsS : okS s) (ht : okR t) (hl : okC l) (hb : okR b) (hr : okC r) (htb : t ≤ b) (hlr : l ≤ r) (hs : Seg f K [nI (5 + 16 * m), s, t, l, b, r]) (hK : K + 6 ≤ N) (hN : N ≤ 1000) (hW : W ≤ K) :
    fsc_cp_6 (nI N) f 1048576 16384 dn al cg (nI W) (nI K) = (cg + dT [nI (5 + 16 * m), s, t, l, b, r] (tcp6 dn al (nI (5 + 16 * m)) s t l b r), nI (W + (tcp6 dn al (nI (5 + 16 * m)) s t l b r).length), wr f W (tcp6 dn al (nI (5 + 16 * m)) s t l b r)) := by
  obtain ⟨a1, a2, a3, a4⟩ := hd5 m hm
  obtain ⟨e0, e1, e2, e3, e4, e5⟩ := seg6 hs
  unfold fsc_cp_6
  simp only [n1, n2, n3, n4, n5, n6, s62, s61, word_in f (show K < N by omega) hN, word_in f (show K + 1 < N by omega) hN, word_in f (show K + 2 < N by omega) hN, word_in f (show K + 3 < N by omega) hN, word_in f (show K + 4 < N by omega) hN, word_in f (show K + 5 < N by omega) hN, put_in f 67 (show W < 1000 by omega), e0, e1, e2, e3, e4, e5, a1]
  generalize hP : fX2_keeps dn al (nI m &&& 48) 1048576 t b (fX9_has (nI m) 2) (fX9_has (nI m / 4) 2) 16384 l r (fX9_has (nI m) 1) (fX9_has (nI m / 4) 1) = P
  rw [store6 hs hK hN hW]
  refine Eq.trans (stD (n := 6) (r := P.1) ne6 rfl) ?_
  rw [E_cp6 hm dn al s t l b r ht hl hb hr htb hlr P hP]

theorem sC_pi4 {m N K W : Nat} {cg : Int32} {f : Nat → Int32} {hom si co at_ nn s r c : Int32} (hm : m < 4) (hsS : okS s) (hr : okR r) (hc : okC c) (h3 : 1 ≤ at_) (h4 : at_ ≤ fX10_lines co) (h5 : 1 ≤ nn) (h6 : nn ≤ 16384) (hs : Seg f K [nI (4 + 16 * m), s, r, c]) (hK : K + 4 ≤ N) (hN : N ≤ 1000) (hW : W ≤ K) :
    fsc_pi_4 (nI N) f 1048576 16384 hom si co at_ nn cg (nI W) (nI K) = (cg + dT [nI (4 + 16 * m), s, r, c] (tsh4 hom si co at_ nn (nI (4 + 16 * m)) s r c), nI (W + (tsh4 hom si co at_ nn (nI (4 + 16 * m)) s r c).length), wr f W (tsh4 hom si co at_ nn (nI (4 + 16 * m)) s r c)) := by
  obtain ⟨a1, a2, a3, a4, a5, a6⟩ := hd4 m hm
  obtain ⟨e0, e1, e2, e3⟩ := seg4 hs
  unfold fsc_pi_4
  simp only [n1, n2, n3, n4, s42, s41, word_in f (show K < N by omega) hN, word_in f (show K + 1 < N by omega) hN, word_in f (show K + 2 < N by omega) hN, word_in f (show K + 3 < N by omega) hN, put_in f 67 (show W < 1000 by omega), e0, e1, e2, e3, a1]
  generalize hP : fX3_keeps_4 hom si co at_ nn s 1048576 r r 16384 c c = P
  rw [store4 hs hK hN hW]
  refine Eq.trans (stD (n := 4) (r := P.1) ne4 rfl) ?_
  rw [E_ln4 hm hom si co at_ nn s r c hsS hr hc (fX8_openGap 1048576 r r at_ nn) (fX8_openGap 16384 c c at_ nn) (fun z => og4 0 1048576 r at_ nn rfl hr.1 hr.2 h3 (by rw [z] at h4; exact h4) h5 h6) (fun z => og4 1 16384 c at_ nn rfl hc.1 hc.2 h3 (by have e : fX10_lines co = 16384 := if_neg z; rw [e] at h4; exact h4) h5 h6) P hP]

theorem sC_pi6 {m N K W : Nat} {cg : Int32} {f : Nat → Int32} {hom si co at_ nn s t l b r : Int32} (hm : m < 48) (hsS : okS s) (ht : okR t) (hl : okC l) (hb : okR b) (hr : okC r) (htb : t ≤ b) (hlr : l ≤ r) (h3 : 1 ≤ at_) (h4 : at_ ≤ fX10_lines co) (h5 : 1 ≤ nn) (h6 : nn ≤ 16384) (hs : Seg f K [nI (5 + 16 * m), s, t, l, b, r]) (hK : K + 6 ≤ N) (hN : N ≤ 1000) (hW : W ≤ K) :
    fsc_pi_6 (nI N) f 1048576 16384 hom si co at_ nn cg (nI W) (nI K) = (cg + dT [nI (5 + 16 * m), s, t, l, b, r] (tsh6 hom si co at_ nn (nI (5 + 16 * m)) s t l b r), nI (W + (tsh6 hom si co at_ nn (nI (5 + 16 * m)) s t l b r).length), wr f W (tsh6 hom si co at_ nn (nI (5 + 16 * m)) s t l b r)) := by
  obtain ⟨a1, a2, a3, a4⟩ := hd5 m hm
  obtain ⟨e0, e1, e2, e3, e4, e5⟩ := seg6 hs
  unfold fsc_pi_6
  simp only [n1, n2, n3, n4, n5, n6, s62, s61, word_in f (show K < N by omega) hN, word_in f (show K + 1 < N by omega) hN, word_in f (show K + 2 < N by omega) hN, word_in f (show K + 3 < N by omega) hN, word_in f (show K + 4 < N by omega) hN, word_in f (show K + 5 < N by omega) hN, put_in f 67 (show W < 1000 by omega), e0, e1, e2, e3, e4, e5, a1]
  generalize hP : fX3_keeps_4 hom si co at_ nn s 1048576 t b 16384 l r = P
  rw [store6 hs hK hN hW]
  refine Eq.trans (stD (n := 6) (r := P.1) ne6 rfl) ?_
  rw [E_ln6 hm hom si co at_ nn s t l b r hsS (fX8_openGap 1048576 t b at_ nn) (fX8_openGap 16384 l r at_ nn) (fun z => gap6 co 1048576 t b at_ nn (by rw [z]; rfl) ht.1 htb hb.2 h3 (by rw [z] at h4; exact h4) h5 h6) (fun z => gap6 co 16384 l r at_ nn (by exact (if_neg z).symm) hl.1 hlr hr.2 h3 (by have e : fX10_lines co = 16384 := if_neg z; rw [e] at h4; exact h4) h5 h6) P hP]

theorem sC_to4 {m N K W : Nat} {cg : Int32} {f : Nat → Int32} {hom si co at_ nn s r c : Int32} (hm : m < 4) (hsS : okS s) (hr : okR r) (hc : okC c) (h3 : 1 ≤ at_) (h4 : at_ ≤ fX10_lines co) (h5 : 1 ≤ nn) (h6 : nn ≤ 16384) (hs : Seg f K [nI (4 + 16 * m), s, r, c]) (hK : K + 4 ≤ N) (hN : N ≤ 1000) (hW : W ≤ K) :
    fsc_to_4 (nI N) f 1048576 16384 hom si co at_ nn cg (nI W) (nI K) = (cg + dT [nI (4 + 16 * m), s, r, c] (tsh4 hom si co at_ (-nn) (nI (4 + 16 * m)) s r c), nI (W + (tsh4 hom si co at_ (-nn) (nI (4 + 16 * m)) s r c).length), wr f W (tsh4 hom si co at_ (-nn) (nI (4 + 16 * m)) s r c)) := by
  obtain ⟨a1, a2, a3, a4, a5, a6⟩ := hd4 m hm
  obtain ⟨e0, e1, e2, e3⟩ := seg4 hs
  unfold fsc_to_4
  simp only [n1, n2, n3, n4, s42, s41, word_in f (show K < N by omega) hN, word_in f (show K + 1 < N by omega) hN, word_in f (show K + 2 < N by omega) hN, word_in f (show K + 3 < N by omega) hN, put_in f 67 (show W < 1000 by omega), e0, e1, e2, e3, a1]
  generalize hP : fX3_keeps_5 hom si co at_ nn s 1048576 r r 16384 c c = P
  rw [store4 hs hK hN hW]
  refine Eq.trans (stD (n := 4) (r := P.1) ne4 rfl) ?_
  rw [E_ln4 hm hom si co at_ (-nn) s r c hsS hr hc (fX8_closeGap 1048576 r r at_ nn) (fX8_closeGap 16384 c c at_ nn) (fun z => cg4 0 1048576 r at_ nn rfl hr.1 hr.2 h3 (by rw [z] at h4; exact h4) h5 h6) (fun z => cg4 1 16384 c at_ nn rfl hc.1 hc.2 h3 (by have e : fX10_lines co = 16384 := if_neg z; rw [e] at h4; exact h4) h5 h6) P hP]

theorem sC_to6 {m N K W : Nat} {cg : Int32} {f : Nat → Int32} {hom si co at_ nn s t l b r : Int32} (hm : m < 48) (hsS : okS s) (ht : okR t) (hl : okC l) (hb : okR b) (hr : okC r) (htb : t ≤ b) (hlr : l ≤ r) (h3 : 1 ≤ at_) (h4 : at_ ≤ fX10_lines co) (h5 : 1 ≤ nn) (h6 : nn ≤ 16384) (hs : Seg f K [nI (5 + 16 * m), s, t, l, b, r]) (hK : K + 6 ≤ N) (hN : N ≤ 1000) (hW : W ≤ K) :
    fsc_to_6 (nI N) f 1048576 16384 hom si co at_ nn cg (nI W) (nI K) = (cg + dT [nI (5 + 16 * m), s, t, l, b, r] (tsh6 hom si co at_ (-nn) (nI (5 + 16 * m)) s t l b r), nI (W + (tsh6 hom si co at_ (-nn) (nI (5 + 16 * m)) s t l b r).length), wr f W (tsh6 hom si co at_ (-nn) (nI (5 + 16 * m)) s t l b r)) := by
  obtain ⟨a1, a2, a3, a4⟩ := hd5 m hm
  obtain ⟨e0, e1, e2, e3, e4, e5⟩ := seg6 hs
  unfold fsc_to_6
  simp only [n1, n2, n3, n4, n5, n6, s62, s61, word_in f (show K < N by omega) hN, word_in f (show K + 1 < N by omega) hN, word_in f (show K + 2 < N by omega) hN, word_in f (show K + 3 < N by omega) hN, word_in f (show K + 4 < N by omega) hN, word_in f (show K + 5 < N by omega) hN, put_in f 67 (show W < 1000 by omega), e0, e1, e2, e3, e4, e5, a1]
  generalize hP : fX3_keeps_5 hom si co at_ nn s 1048576 t b 16384 l r = P
  rw [store6 hs hK hN hW]
  refine Eq.trans (stD (n := 6) (r := P.1) ne6 rfl) ?_
  rw [E_ln6 hm hom si co at_ (-nn) s t l b r hsS (fX8_closeGap 1048576 t b at_ nn) (fX8_closeGap 16384 l r at_ nn) (fun z => gapD6 co 1048576 t b at_ nn (by rw [z]; rfl) ht.1 htb hb.2 h3 (by rw [z] at h4; exact h4) h5 h6) (fun z => gapD6 co 16384 l r at_ nn (by exact (if_neg z).symm) hl.1 hlr hr.2 h3 (by have e : fX10_lines co = 16384 := if_neg z; rw [e] at h4; exact h4) h5 h6) P hP]

