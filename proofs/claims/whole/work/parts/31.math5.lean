/-! the reference's steps -/
theorem lostM {W : Nat} {ch : Int32} {g : Nat → Int32} {item : List Int32} (hi : ¬ [67] = item) : ((nI (W + 1), ch + 1, upd g W 67) : Int32 × Int32 × (Nat → Int32)) = (nI (W + ([67] : List Int32).length), ch + dT item [67], wr g W [67]) := by
  unfold dT
  rw [if_neg hi]
  rfl
theorem ne4 {a b c d : Int32} : ¬ ([67] : List Int32) = [a, b, c, d] := fun q => by cases q
theorem ne6 {a b c d e f : Int32} : ¬ ([67] : List Int32) = [a, b, c, d, e, f] := fun q => by cases q
theorem sM_cp4 {m W K : Nat} {ch : Int32} {f g : Nat → Int32} {dn al s r c : Int32} (hm : m < 4) (hs : Seg f K [nI (4 + 16 * m), s, r, c]) (hK : K + 4 ≤ 1000) (hW : W + 4 ≤ 1000) :
    fscp_4 (nI W) ch f g dn al (nI K) = (nI (W + (tcp4 dn al (nI (4 + 16 * m)) s r c).length), ch + dT [nI (4 + 16 * m), s, r, c] (tcp4 dn al (nI (4 + 16 * m)) s r c), wr g W (tcp4 dn al (nI (4 + 16 * m)) s r c)) := by
  obtain ⟨a1, a2, a3, a4, a5, a6⟩ := hd4 m hm
  obtain ⟨e0, e1, e2, e3⟩ := seg4 hs
  unfold fscp_4 tcp4
  simp only [n1, n2, n3, c0 (show K < 2000 by omega), c0 (show K + 1 < 2000 by omega), c0 (show K + 2 < 2000 by omega), c0 (show K + 3 < 2000 by omega), c0 (show W < 2000 by omega), e0, e1, e2, e3, a1, a5, a6]
  by_cases h1 : fX10_moved r (fX9_has (nI m) 2) dn 1048576 = 0
  · simp only [if_pos h1]
    exact lostM ne4
  · by_cases h2 : fX10_moved c (fX9_has (nI m) 1) al 16384 = 0
    · simp only [if_neg h1, if_pos h2]
      exact lostM ne4
    · simp only [if_neg h1, if_neg h2]
      rw [mkP hs hK hW]
      rfl
theorem sM_cp6 {m W K : Nat} {ch : Int32} {f g : Nat → Int32} {dn al s t l b r : Int32} (hm : m < 48) (hs : Seg f K [nI (5 + 16 * m), s, t, l, b, r]) (hK : K + 6 ≤ 1000) (hW : W + 6 ≤ 1000) :
    fX10_copyRange (nI W) ch f g (nI K) dn al = (nI (W + (tcp6 dn al (nI (5 + 16 * m)) s t l b r).length), ch + dT [nI (5 + 16 * m), s, t, l, b, r] (tcp6 dn al (nI (5 + 16 * m)) s t l b r), wr g W (tcp6 dn al (nI (5 + 16 * m)) s t l b r)) := by
  obtain ⟨a1, a2, a3, a4⟩ := hd5 m hm
  obtain ⟨b1, b2, b3, b4, b5, b6⟩ := hd6 m hm
  obtain ⟨d1, d2, d3, d4⟩ := hd7 m hm
  obtain ⟨e0, e1, e2, e3, e4, e5⟩ := seg6 hs
  unfold fX10_copyRange tcp6 zz
  simp only [n1, n2, n3, n4, n5, c0 (show K < 2000 by omega), c0 (show K + 1 < 2000 by omega), c0 (show K + 2 < 2000 by omega), c0 (show K + 3 < 2000 by omega), c0 (show K + 4 < 2000 by omega), c0 (show K + 5 < 2000 by omega), c0 (show W < 2000 by omega), e0, e1, e2, e3, e4, e5, a1, b5, b6, d1, d2, d3, d4]
  generalize fX10_moved t (if fX9_has (nI m) 16 = 0 then fX9_has (nI m) 2 else 1) dn 1048576 = t1
  generalize fX10_moved b (if fX9_has (nI m) 16 = 0 then fX9_has (nI m) 8 else 1) dn 1048576 = b1
  generalize fX10_moved l (if fX9_has (nI m) 32 = 0 then fX9_has (nI m) 1 else 1) al 16384 = l1
  generalize fX10_moved r (if fX9_has (nI m) 32 = 0 then fX9_has (nI m) 4 else 1) al 16384 = r1
  by_cases h1 : t1 = 0
  · simp only [if_pos h1]
    exact lostM ne6
  by_cases h2 : b1 = 0
  · simp only [if_neg h1, if_pos h2]
    exact lostM ne6
  by_cases h3 : l1 = 0
  · simp only [if_neg h1, if_neg h2, if_pos h3]
    exact lostM ne6
  by_cases h4 : r1 = 0
  · simp only [if_neg h1, if_neg h2, if_neg h3, if_pos h4]
    exact lostM ne6
  simp only [if_neg h1, if_neg h2, if_neg h3, if_neg h4]
  rw [mkR hs hK hW]
  rfl
theorem sM_sh4 {m W K : Nat} {ch : Int32} {f g : Nat → Int32} {hom si z at_ nn s r c : Int32} (hm : m < 4) (hs : Seg f K [nI (4 + 16 * m), s, r, c]) (hK : K + 4 ≤ 1000) (hW : W + 4 ≤ 1000) :
    fssh_4 (nI W) ch f g hom si z at_ nn (nI K) = (nI (W + (tsh4 hom si z at_ nn (nI (4 + 16 * m)) s r c).length), ch + dT [nI (4 + 16 * m), s, r, c] (tsh4 hom si z at_ nn (nI (4 + 16 * m)) s r c), wr g W (tsh4 hom si z at_ nn (nI (4 + 16 * m)) s r c)) := by
  obtain ⟨e0, e1, e2, e3⟩ := seg4 hs
  unfold fssh_4 tsh4 onS
  simp only [n0, n1, n2, n3, c0 (show K < 2000 by omega), c0 (show K + 1 < 2000 by omega), c0 (show K + 2 < 2000 by omega), c0 (show K + 3 < 2000 by omega), c0 (show W < 2000 by omega), c0 (show W + 1 < 2000 by omega), c0 (show W + 1 + 1 < 2000 by omega), c0 (show W + 1 + 1 + 1 < 2000 by omega), e0, e1, e2, e3]
  by_cases h0 : (if 0 ≤ s then s else hom) = si
  · simp only [if_pos h0, if_neg (show ¬ (1 : Int32) = 0 by decide)]
    generalize (if z = 0 then fX10_shifted r 0 at_ nn else r) = row
    generalize (if z = 0 then c else fX10_shifted c 1 at_ nn) = col
    by_cases h1 : row = 0
    · simp only [if_pos h1]
      exact lostM ne4
    · by_cases h2 : col = 0
      · simp only [if_neg h1, if_pos h2]
        exact lostM ne4
      · simp only [if_neg h1, if_neg h2]
        rw [mkP hs hK hW]
        rfl
  · simp only [if_neg h0, if_true]
    rw [dT_self, Int32.add_zero]
    rfl
theorem sM_sr {m W K : Nat} {ch : Int32} {f g : Nat → Int32} {z at_ nn s t l b r : Int32} {hom si : Int32} (h0 : onS hom s = si) (hm : m < 48) (hs : Seg f K [nI (5 + 16 * m), s, t, l, b, r]) (hK : K + 6 ≤ 1000) (hW : W + 6 ≤ 1000) :
    fX10_shiftRange (nI W) ch f g (nI K) z at_ nn = (nI (W + (tsh6 hom si z at_ nn (nI (5 + 16 * m)) s t l b r).length), ch + dT [nI (5 + 16 * m), s, t, l, b, r] (tsh6 hom si z at_ nn (nI (5 + 16 * m)) s t l b r), wr g W (tsh6 hom si z at_ nn (nI (5 + 16 * m)) s t l b r)) := by
  obtain ⟨e0, e1, e2, e3, e4, e5⟩ := seg6 hs
  unfold fX10_shiftRange tsh6
  rw [if_pos h0]
  simp only [n1, n2, n3, n4, n5, c0 (show K < 2000 by omega), c0 (show K + 1 < 2000 by omega), c0 (show K + 2 < 2000 by omega), c0 (show K + 3 < 2000 by omega), c0 (show K + 4 < 2000 by omega), c0 (show K + 5 < 2000 by omega), c0 (show W < 2000 by omega), e0, e1, e2, e3, e4, e5]
  by_cases hz : z = 0
  · simp only [if_pos hz]
    show (if fst6 z at_ nn t b = 0 then _ else if lst6 z at_ nn t b = 0 then _ else _) = _
    by_cases h1 : fst6 z at_ nn t b = 0
    · simp only [if_pos h1]
      exact lostM ne6
    by_cases h2 : lst6 z at_ nn t b = 0
    · simp only [if_neg h1, if_pos h2]
      exact lostM ne6
    simp only [if_neg h1, if_neg h2]
    rw [mkR hs hK hW]
    rfl
  · simp only [if_neg hz]
    show (if fst6 z at_ nn l r = 0 then _ else if lst6 z at_ nn l r = 0 then _ else _) = _
    by_cases h1 : fst6 z at_ nn l r = 0
    · simp only [if_pos h1]
      exact lostM ne6
    by_cases h2 : lst6 z at_ nn l r = 0
    · simp only [if_neg h1, if_pos h2]
      exact lostM ne6
    simp only [if_neg h1, if_neg h2]
    rw [mkR hs hK hW]
    rfl
theorem sM_sh6 {m W K : Nat} {ch : Int32} {f g : Nat → Int32} {hom si z at_ nn s t l b r : Int32} (hm : m < 48) (hs : Seg f K [nI (5 + 16 * m), s, t, l, b, r]) (hK : K + 6 ≤ 1000) (hW : W + 6 ≤ 1000) :
    fssh_6 (nI W) ch f g hom si z at_ nn (nI K) = (nI (W + (tsh6 hom si z at_ nn (nI (5 + 16 * m)) s t l b r).length), ch + dT [nI (5 + 16 * m), s, t, l, b, r] (tsh6 hom si z at_ nn (nI (5 + 16 * m)) s t l b r), wr g W (tsh6 hom si z at_ nn (nI (5 + 16 * m)) s t l b r)) := by
  obtain ⟨e0, e1, e2, e3, e4, e5⟩ := seg6 hs
  unfold fssh_6
  simp only [n0, n1, n2, n3, n4, n5, c0 (show K < 2000 by omega), c0 (show K + 1 < 2000 by omega), c0 (show K + 2 < 2000 by omega), c0 (show K + 3 < 2000 by omega), c0 (show K + 4 < 2000 by omega), c0 (show K + 5 < 2000 by omega), c0 (show W < 2000 by omega), c0 (show W + 1 < 2000 by omega), c0 (show W + 1 + 1 < 2000 by omega), c0 (show W + 1 + 1 + 1 < 2000 by omega), c0 (show W + 1 + 1 + 1 + 1 < 2000 by omega), c0 (show W + 1 + 1 + 1 + 1 + 1 < 2000 by omega), e0, e1, e2, e3, e4, e5]
  by_cases h0 : onS hom s = si
  · have h0' : (if 0 ≤ s then s else hom) = si := h0
    simp only [if_pos h0', if_neg (show ¬ (1 : Int32) = 0 by decide)]
    rw [sM_sr h0 hm hs hK hW]
  · have h0' : ¬ (if 0 ≤ s then s else hom) = si := h0
    simp only [if_neg h0', if_true]
    unfold tsh6
    rw [if_neg h0, dT_self, Int32.add_zero]
    rfl
theorem sM_mv4 {m W K : Nat} {ch : Int32} {f g : Nat → Int32} {sh tp lf bt rt hm nh s1 rw cl s r c : Int32} (h4 : m < 4) (hs : Seg f K [nI (4 + 16 * m), s, r, c]) (hK : K + 4 ≤ 1000) (hW : W + 4 ≤ 1000) :
    fX10_moveItem_4 (nI W) ch sh tp lf bt rt f g (nI K) hm nh s1 rw cl = (nI (W + (tmv4 sh tp lf bt rt hm nh s1 rw cl (nI (4 + 16 * m)) s r c).length), ch + dT [nI (4 + 16 * m), s, r, c] (tmv4 sh tp lf bt rt hm nh s1 rw cl (nI (4 + 16 * m)) s r c), wr g W (tmv4 sh tp lf bt rt hm nh s1 rw cl (nI (4 + 16 * m)) s r c)) := by
  obtain ⟨e0, e1, e2, e3⟩ := seg4 hs
  unfold fX10_moveItem_4 tmv4
  simp only [n1, n2, n3, c0 (show K < 2000 by omega), c0 (show K + 1 < 2000 by omega), c0 (show K + 2 < 2000 by omega), c0 (show K + 3 < 2000 by omega), c0 (show W < 2000 by omega), e0, e1, e2, e3]
  show (if inn sh tp lf bt rt (onS hm s) r c r c = 0 then (if inn s1 rw cl (bt + (rw - tp)) (rt + (cl - lf)) (onS hm s) r c r c = 0 then _ else _) else _) = _
  by_cases h1 : inn sh tp lf bt rt (onS hm s) r c r c = 0
  · have h1' : (if (if 0 ≤ s then s else hm) = sh then (if r < tp then (0 : Int32) else (if bt < r then 0 else (if c < lf then 0 else (if rt < c then 0 else 1)))) else 0) = 0 := h1
    by_cases h2 : inn s1 rw cl (bt + (rw - tp)) (rt + (cl - lf)) (onS hm s) r c r c = 0
    · simp only [if_pos h1, if_pos h2, if_pos h1']
      rw [mkP hs hK hW, Int32.add_zero, Int32.add_zero]
      rfl
    · simp only [if_pos h1, if_neg h2]
      exact lostM ne4
  · have h1' : ¬ (if (if 0 ≤ s then s else hm) = sh then (if r < tp then (0 : Int32) else (if bt < r then 0 else (if c < lf then 0 else (if rt < c then 0 else 1)))) else 0) = 0 := h1
    simp only [if_neg h1, if_neg h1']
    rw [mkP hs hK hW]
    rfl
theorem sM_mv6 {m W K : Nat} {ch : Int32} {f g : Nat → Int32} {sh tp lf bt rt hm nh s1 rw cl s t l b r : Int32} (h6 : m < 48) (hs : Seg f K [nI (5 + 16 * m), s, t, l, b, r]) (hK : K + 6 ≤ 1000) (hW : W + 6 ≤ 1000) :
    fX10_moveItem_6 (nI W) ch sh tp lf bt rt f g (nI K) hm nh s1 rw cl = (nI (W + (tmv6 sh tp lf bt rt hm nh s1 rw cl (nI (5 + 16 * m)) s t l b r).length), ch + dT [nI (5 + 16 * m), s, t, l, b, r] (tmv6 sh tp lf bt rt hm nh s1 rw cl (nI (5 + 16 * m)) s t l b r), wr g W (tmv6 sh tp lf bt rt hm nh s1 rw cl (nI (5 + 16 * m)) s t l b r)) := by
  obtain ⟨e0, e1, e2, e3, e4, e5⟩ := seg6 hs
  unfold fX10_moveItem_6 tmv6
  simp only [n1, n2, n3, n4, n5, c0 (show K < 2000 by omega), c0 (show K + 1 < 2000 by omega), c0 (show K + 2 < 2000 by omega), c0 (show K + 3 < 2000 by omega), c0 (show K + 4 < 2000 by omega), c0 (show K + 5 < 2000 by omega), c0 (show W < 2000 by omega), e0, e1, e2, e3, e4, e5]
  show (if inn sh tp lf bt rt (onS hm s) t l b r = 0 then (if inn s1 rw cl (bt + (rw - tp)) (rt + (cl - lf)) (onS hm s) t l b r = 0 then _ else _) else _) = _
  by_cases h1 : inn sh tp lf bt rt (onS hm s) t l b r = 0
  · have h1' : (if (if 0 ≤ s then s else hm) = sh then (if t < tp then (0 : Int32) else (if bt < b then 0 else (if l < lf then 0 else (if rt < r then 0 else 1)))) else 0) = 0 := h1
    by_cases h2 : inn s1 rw cl (bt + (rw - tp)) (rt + (cl - lf)) (onS hm s) t l b r = 0
    · simp only [if_pos h1, if_pos h2, if_pos h1']
      rw [mkR hs hK hW, Int32.add_zero, Int32.add_zero, Int32.add_zero, Int32.add_zero]
      rfl
    · simp only [if_pos h1, if_neg h2]
      exact lostM ne6
  · have h1' : ¬ (if (if 0 ≤ s then s else hm) = sh then (if t < tp then (0 : Int32) else (if bt < b then 0 else (if l < lf then 0 else (if rt < r then 0 else 1)))) else 0) = 0 := h1
    simp only [if_neg h1, if_neg h1']
    rw [mkR hs hK hW]
    rfl
