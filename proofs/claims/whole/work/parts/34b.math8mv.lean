theorem sC_mv4 {m N K W : Nat} {cg : Int32} {f : Nat → Int32} {hom nh cs ct cl cb cr ts tt tl s r c : Int32} (hm : m < 4) (hsS : okS s) (hr : okR r) (hc : okC c) (hs : Seg f K [nI (4 + 16 * m), s, r, c]) (hK : K + 4 ≤ N) (hN : N ≤ 1000) (hW : W ≤ K) :
    fsc_mv_4 (nI N) f hom nh cs ct cl cb cr ts tt tl ((tt + cb) - ct) ((tl + cr) - cl) cg (nI W) (nI K) = (cg + dT [nI (4 + 16 * m), s, r, c] (tmv4 cs ct cl cb cr hom nh ts tt tl (nI (4 + 16 * m)) s r c), nI (W + (tmv4 cs ct cl cb cr hom nh ts tt tl (nI (4 + 16 * m)) s r c).length), wr f W (tmv4 cs ct cl cb cr hom nh ts tt tl (nI (4 + 16 * m)) s r c)) := by
  obtain ⟨a1, a2, a3, a4, a5, a6⟩ := hd4 m hm
  obtain ⟨e0, e1, e2, e3⟩ := seg4 hs
  unfold fsc_mv_4
  simp only [n1, n2, n3, n4, s42, s41, word_in f (show K < N by omega) hN, word_in f (show K + 1 < N by omega) hN, word_in f (show K + 2 < N by omega) hN, word_in f (show K + 3 < N by omega) hN, put_in f 67 (show W < 1000 by omega), e0, e1, e2, e3, a1]
  generalize hP : fX6_keeps hom nh cs ct cl cb cr ts tt tl ((tt + cb) - ct) ((tl + cr) - cl) s r r c c = P
  rw [store4 hs hK hN hW]
  refine Eq.trans (stD (n := 4) (r := P.1) ne4 rfl) ?_
  rw [E_mv4 hm cs ct cl cb cr hom nh ts tt tl s r c P (E_mv cs ct cl cb cr hom nh ts tt tl s r r c c hsS P hP)]

theorem sC_mv6 {m N K W : Nat} {cg : Int32} {f : Nat → Int32} {hom nh cs ct cl cb cr ts tt tl s t l b r : Int32} (hm : m < 48) (hsS : okS s) (ht : okR t) (hl : okC l) (hb : okR b) (hr : okC r) (htb : t ≤ b) (hlr : l ≤ r) (hs : Seg f K [nI (5 + 16 * m), s, t, l, b, r]) (hK : K + 6 ≤ N) (hN : N ≤ 1000) (hW : W ≤ K) :
    fsc_mv_6 (nI N) f hom nh cs ct cl cb cr ts tt tl ((tt + cb) - ct) ((tl + cr) - cl) cg (nI W) (nI K) = (cg + dT [nI (5 + 16 * m), s, t, l, b, r] (tmv6 cs ct cl cb cr hom nh ts tt tl (nI (5 + 16 * m)) s t l b r), nI (W + (tmv6 cs ct cl cb cr hom nh ts tt tl (nI (5 + 16 * m)) s t l b r).length), wr f W (tmv6 cs ct cl cb cr hom nh ts tt tl (nI (5 + 16 * m)) s t l b r)) := by
  obtain ⟨a1, a2, a3, a4⟩ := hd5 m hm
  obtain ⟨e0, e1, e2, e3, e4, e5⟩ := seg6 hs
  unfold fsc_mv_6
  simp only [n1, n2, n3, n4, n5, n6, s62, s61, word_in f (show K < N by omega) hN, word_in f (show K + 1 < N by omega) hN, word_in f (show K + 2 < N by omega) hN, word_in f (show K + 3 < N by omega) hN, word_in f (show K + 4 < N by omega) hN, word_in f (show K + 5 < N by omega) hN, put_in f 67 (show W < 1000 by omega), e0, e1, e2, e3, e4, e5, a1]
  generalize hP : fX6_keeps hom nh cs ct cl cb cr ts tt tl ((tt + cb) - ct) ((tl + cr) - cl) s t b l r = P
  rw [store6 hs hK hN hW]
  refine Eq.trans (stD (n := 6) (r := P.1) ne6 rfl) ?_
  rw [E_mv6 hm cs ct cl cb cr hom nh ts tt tl s t l b r P (E_mv cs ct cl cb cr hom nh ts tt tl s t b l r hsS P hP)]
