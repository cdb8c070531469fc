/-! numbers: what the walk's functions say, over lists of numbers -/
theorem addI {x y : Int32} (h1 : -2147483648 ≤ x.toInt + y.toInt) (h2 : x.toInt + y.toInt < 2147483648) : (x + y).toInt = x.toInt + y.toInt := by
  rw [Int32.toInt_add, Int.bmod_eq_of_le] <;> omega
theorem subI {x y : Int32} (h1 : -2147483648 ≤ x.toInt - y.toInt) (h2 : x.toInt - y.toInt < 2147483648) : (x - y).toInt = x.toInt - y.toInt := by
  rw [Int32.toInt_sub, Int.bmod_eq_of_le] <;> omega
theorem gr_t1 (fi la ll x y : Int32) (h1 : 1 ≤ fi) (h2 : fi ≤ la) (h3 : la ≤ 16384) (h4 : 1 ≤ x) (h5 : x ≤ 16384) (h6 : 1 ≤ y) (h7 : y ≤ 16384) (hc : ¬ fi < x) : fi ≤ fi + y := by grind
theorem gr_t2 (fi x y : Int32) (h1 : 1 ≤ fi) (h2 : fi ≤ 1048576) (h6 : 1 ≤ y) (h7 : y ≤ 16384) : (if fi < x then fi else fi + y) ≤ 2000000 := by grind
/-- the numbers ws stand from place k on -/
def Seg (f : Nat → Int32) (k : Nat) (ws : List Int32) : Prop := ∀ i, i < ws.length → f (k + i) = ws.getD i 0
/-- ws is written from place k on -/
def wr (f : Nat → Int32) : Nat → List Int32 → Nat → Int32
  | _, [] => f
  | k, x :: xs => wr (upd f k x) (k + 1) xs
theorem wr_lo : ∀ (ws : List Int32) (f : Nat → Int32) (k j : Nat), j < k → wr f k ws j = f j
  | [], _, _, _, _ => rfl
  | x :: xs, f, k, j, h => by
    show wr (upd f k x) (k + 1) xs j = f j
    rw [wr_lo xs _ _ _ (by omega)]
    exact pk_un (by omega)
theorem wr_hi : ∀ (ws : List Int32) (f : Nat → Int32) (k j : Nat), k + ws.length ≤ j → wr f k ws j = f j
  | [], _, _, _, _ => rfl
  | x :: xs, f, k, j, h => by
    have h : k + (xs.length + 1) ≤ j := h
    show wr (upd f k x) (k + 1) xs j = f j
    rw [wr_hi xs _ _ _ (by omega)]
    exact pk_un (by omega)
theorem wr_seg : ∀ (ws : List Int32) (f : Nat → Int32) (k : Nat), Seg (wr f k ws) k ws
  | [], _, _, i, h => absurd h (Nat.not_lt_zero i)
  | x :: xs, f, k, i, h => by
    show wr (upd f k x) (k + 1) xs (k + i) = (x :: xs).getD i 0
    cases i with
    | zero =>
      rw [wr_lo _ _ _ _ (by omega)]
      exact pk_us
    | succ i =>
      have h9 := wr_seg xs (upd f k x) (k + 1) i (by have h : i + 1 < xs.length + 1 := h; omega)
      rw [show k + (i + 1) = k + 1 + i by omega, h9]
      rfl
theorem lt_toInt {x y : Int32} : x < y ↔ x.toInt < y.toInt := Int32.lt_iff_toInt_lt
theorem le_toInt {x y : Int32} : x ≤ y ↔ x.toInt ≤ y.toInt := Int32.le_iff_toInt_le
theorem eq_toInt {x y : Int32} : x = y ↔ x.toInt = y.toInt := Int32.toInt_inj.symm
theorem n0 (K : Nat) : nI K + 0 = nI K := by rw [show (0 : Int32) = nI 0 from rfl, nI_add]; rfl
theorem n1 (K : Nat) : nI K + 1 = nI (K + 1) := nI_add K 1
theorem n2 (K : Nat) : nI K + 2 = nI (K + 2) := nI_add K 2
theorem n3 (K : Nat) : nI K + 3 = nI (K + 3) := nI_add K 3
theorem n4 (K : Nat) : nI K + 4 = nI (K + 4) := nI_add K 4
theorem n5 (K : Nat) : nI K + 5 = nI (K + 5) := nI_add K 5
theorem n6 (K : Nat) : nI K + 6 = nI (K + 6) := nI_add K 6
theorem c0 {K : Nat} (h : K < 2000) : (nI K).toNatClampNeg = K := nI_clamp (by omega)
theorem word_in {N K : Nat} (f : Nat → Int32) (h : K < N) (hN : N ≤ 1000) : fX9_word (nI N) f (nI K) = f K := by
  unfold fX9_word
  rw [if_neg (nI_pos (by omega)), if_neg (nI_ge h (by omega)), if_neg (show ¬ (1000 : Int32) ≤ nI K from nI_ge (a := K) (b := 1000) (by omega) (by omega)), nI_clamp (by omega)]
theorem put_in {K : Nat} (f : Nat → Int32) (w : Int32) (h : K < 1000) : fX9_put f (nI K) w = upd f K w := by
  unfold fX9_put
  rw [if_neg (nI_pos (by omega)), if_neg (show ¬ (1000 : Int32) ≤ nI K from nI_ge (a := K) (b := 1000) (by omega) (by omega)), nI_clamp (by omega)]
/-- 1 if the numbers aren't the same -/
def dT (item out : List Int32) : Int32 := if out = item then 0 else 1
theorem dT_self (a : List Int32) : dT a a = 0 := if_pos rfl
theorem seg4 {f : Nat → Int32} {K : Nat} {a b c d : Int32} (h : Seg f K [a, b, c, d]) : f K = a ∧ f (K + 1) = b ∧ f (K + 2) = c ∧ f (K + 3) = d :=
  ⟨h 0 (Nat.le_of_ble_eq_true rfl), h 1 (Nat.le_of_ble_eq_true rfl), h 2 (Nat.le_of_ble_eq_true rfl), h 3 (Nat.le_of_ble_eq_true rfl)⟩
theorem seg6 {f : Nat → Int32} {K : Nat} {a b c d x y : Int32} (h : Seg f K [a, b, c, d, x, y]) : f K = a ∧ f (K + 1) = b ∧ f (K + 2) = c ∧ f (K + 3) = d ∧ f (K + 4) = x ∧ f (K + 5) = y :=
  ⟨h 0 (Nat.le_of_ble_eq_true rfl), h 1 (Nat.le_of_ble_eq_true rfl), h 2 (Nat.le_of_ble_eq_true rfl), h 3 (Nat.le_of_ble_eq_true rfl), h 4 (Nat.le_of_ble_eq_true rfl), h 5 (Nat.le_of_ble_eq_true rfl)⟩
theorem mkP {W K : Nat} {ch : Int32} {f g : Nat → Int32} {h s r c p1 p2 p3 : Int32} (hs : Seg f K [h, s, r, c]) (hK : K + 4 ≤ 1000) (hW : W + 4 ≤ 1000) :
    fX10_makePlace (nI W) ch f g (nI K) p1 p2 p3 = (nI (W + 4), ch + dT [h, s, r, c] [h, p1, p2, p3], wr g W [h, p1, p2, p3]) := by
  obtain ⟨e0, e1, e2, e3⟩ := seg4 hs
  unfold fX10_makePlace dT
  simp only [n1, n2, n3, c0 (show K < 2000 by omega), c0 (show K + 1 < 2000 by omega), c0 (show K + 2 < 2000 by omega), c0 (show K + 3 < 2000 by omega), c0 (show W < 2000 by omega), c0 (show W + 1 < 2000 by omega), c0 (show W + 1 + 1 < 2000 by omega), c0 (show W + 1 + 1 + 1 < 2000 by omega), e0, e1, e2, e3]
  refine Prod.ext rfl (Prod.ext ?_ rfl)
  show ch + _ = ch + _
  congr 1
  by_cases h1 : p1 = s <;> by_cases h2 : p2 = r <;> by_cases h3 : p3 = c <;> simp [h1, h2, h3]
theorem mkR {W K : Nat} {ch : Int32} {f g : Nat → Int32} {h s t l b r x p2 p3 p4 p5 p6 : Int32} (hs : Seg f K [h, s, t, l, b, r]) (hK : K + 6 ≤ 1000) (hW : W + 6 ≤ 1000) :
    fX10_makeRange (nI W) ch f g (nI K) x p2 p3 p4 p5 p6 = (nI (W + 6), ch + dT [h, s, t, l, b, r] [5 + 16 * x, p2, p3, p4, p5, p6], wr g W [5 + 16 * x, p2, p3, p4, p5, p6]) := by
  obtain ⟨e0, e1, e2, e3, e4, e5⟩ := seg6 hs
  unfold fX10_makeRange dT
  simp only [n1, n2, n3, n4, n5, c0 (show K < 2000 by omega), c0 (show K + 1 < 2000 by omega), c0 (show K + 2 < 2000 by omega), c0 (show K + 3 < 2000 by omega), c0 (show K + 4 < 2000 by omega), c0 (show K + 5 < 2000 by omega), c0 (show W < 2000 by omega), c0 (show W + 1 < 2000 by omega), c0 (show W + 1 + 1 < 2000 by omega), c0 (show W + 1 + 1 + 1 < 2000 by omega), c0 (show W + 1 + 1 + 1 + 1 < 2000 by omega), c0 (show W + 1 + 1 + 1 + 1 + 1 < 2000 by omega), e0, e1, e2, e3, e4, e5]
  refine Prod.ext rfl (Prod.ext ?_ rfl)
  show ch + _ = ch + _
  congr 1
  by_cases h0 : 5 + 16 * x = h <;> by_cases h1 : p2 = s <;> by_cases h2 : p3 = t <;> by_cases h3 : p4 = l <;> by_cases h4 : p5 = b <;> by_cases h5 : p6 = r <;> simp [h0, h1, h2, h3, h4, h5]
theorem store4 {N K W : Nat} {f : Nat → Int32} {h s r c isr wh sh rf rx ry kf kx ky : Int32} (hs : Seg f K [h, s, r, c]) (hK : K + 4 ≤ N) (hN : N ≤ 1000) (hW : W ≤ K) :
    fX9_store_4 (nI N) f isr wh sh rf rx ry kf kx ky (nI K) (nI W) = (dT [h, s, r, c] [fX7_wordAt_0 isr wh rx ry kx ky, sh, rf, kf], wr f W [fX7_wordAt_0 isr wh rx ry kx ky, sh, rf, kf]) := by
  obtain ⟨e0, e1, e2, e3⟩ := seg4 hs
  unfold fX9_store_4 dT
  generalize fX7_wordAt_0 isr wh rx ry kx ky = x0
  simp only [n0, n1, n2, n3, word_in _ (show K < N by omega) hN, word_in _ (show K + 1 < N by omega) hN, word_in _ (show K + 2 < N by omega) hN, word_in _ (show K + 3 < N by omega) hN, put_in _ _ (show W < 1000 by omega), put_in _ _ (show W + 1 < 1000 by omega), put_in _ _ (show W + 2 < 1000 by omega), put_in _ _ (show W + 3 < 1000 by omega)]
  rw [pk_un (show K + 1 ≠ W by omega), pk_un (show K + 2 ≠ W + 1 by omega), pk_un (show K + 2 ≠ W by omega), pk_un (show K + 3 ≠ W + 2 by omega), pk_un (show K + 3 ≠ W + 1 by omega), pk_un (show K + 3 ≠ W by omega), e0, e1, e2, e3]
  refine Prod.ext ?_ rfl
  by_cases h0 : x0 = h <;> by_cases h1 : sh = s <;> by_cases h2 : rf = r <;> by_cases h3 : kf = c <;> simp [h0, h1, h2, h3]
theorem store6 {N K W : Nat} {f : Nat → Int32} {h s t l b r isr wh sh rf ra rx ry kf ka kx ky : Int32} (hs : Seg f K [h, s, t, l, b, r]) (hK : K + 6 ≤ N) (hN : N ≤ 1000) (hW : W ≤ K) :
    fX9_store_6 (nI N) f isr wh sh rf ra rx ry kf ka kx ky (nI K) (nI W) = (dT [h, s, t, l, b, r] [fX7_wordAt_0 isr wh rx ry kx ky, sh, rf, kf, ra, ka], wr f W [fX7_wordAt_0 isr wh rx ry kx ky, sh, rf, kf, ra, ka]) := by
  obtain ⟨e0, e1, e2, e3, e4, e5⟩ := seg6 hs
  unfold fX9_store_6 dT
  generalize fX7_wordAt_0 isr wh rx ry kx ky = x0
  simp only [n0, n1, n2, n3, n4, n5, word_in _ (show K < N by omega) hN, word_in _ (show K + 1 < N by omega) hN, word_in _ (show K + 2 < N by omega) hN, word_in _ (show K + 3 < N by omega) hN, word_in _ (show K + 4 < N by omega) hN, word_in _ (show K + 5 < N by omega) hN, put_in _ _ (show W < 1000 by omega), put_in _ _ (show W + 1 < 1000 by omega), put_in _ _ (show W + 2 < 1000 by omega), put_in _ _ (show W + 3 < 1000 by omega), put_in _ _ (show W + 4 < 1000 by omega), put_in _ _ (show W + 5 < 1000 by omega)]
  rw [pk_un (show K + 1 ≠ W by omega), pk_un (show K + 2 ≠ W + 1 by omega), pk_un (show K + 2 ≠ W by omega), pk_un (show K + 3 ≠ W + 2 by omega), pk_un (show K + 3 ≠ W + 1 by omega), pk_un (show K + 3 ≠ W by omega), pk_un (show K + 4 ≠ W + 3 by omega), pk_un (show K + 4 ≠ W + 2 by omega), pk_un (show K + 4 ≠ W + 1 by omega), pk_un (show K + 4 ≠ W by omega), pk_un (show K + 5 ≠ W + 4 by omega), pk_un (show K + 5 ≠ W + 3 by omega), pk_un (show K + 5 ≠ W + 2 by omega), pk_un (show K + 5 ≠ W + 1 by omega), pk_un (show K + 5 ≠ W by omega), e0, e1, e2, e3, e4, e5]
  refine Prod.ext ?_ rfl
  by_cases h0 : x0 = h <;> by_cases h1 : sh = s <;> by_cases h2 : rf = t <;> by_cases h3 : kf = l <;> by_cases h4 : ra = b <;> by_cases h5 : ka = r <;> simp [h0, h1, h2, h3, h4, h5]
