/-! items, and what becomes of them -/
def okS (s : Int32) : Prop := -1 ≤ s ∧ s ≤ 7
def okR (r : Int32) : Prop := 1 ≤ r ∧ r ≤ 1048576
def okC (c : Int32) : Prop := 1 ≤ c ∧ c ≤ 16384
def okP (ws : List Int32) : Prop := ∃ (m : Nat) (s r c : Int32), m < 4 ∧ okS s ∧ okR r ∧ okC c ∧ ws = [nI (4 + 16 * m), s, r, c]
def okG (ws : List Int32) : Prop := ∃ (m : Nat) (s t l b r : Int32), m < 48 ∧ okS s ∧ okR t ∧ okC l ∧ okR b ∧ okC r ∧ t ≤ b ∧ l ≤ r ∧ (¬ fX9_has (nI m) 16 = 0 → t = 1 ∧ b = 1048576) ∧ (¬ fX9_has (nI m) 32 = 0 → l = 1 ∧ r = 16384) ∧ ws = [nI (5 + 16 * m), s, t, l, b, r]
def okO (ws : List Int32) : Prop := ∃ x : Int32, fX9_itemLength x = 1 ∧ ws = [x]
def okI (ws : List Int32) : Prop := okO ws ∨ okP ws ∨ okG ws
theorem hd4 : ∀ m, m < 4 → (nI (4 + 16 * m) / 16 = nI m ∧ fX9_itemLength (nI (4 + 16 * m)) = 4 ∧ (nI m &&& 48) = 0 ∧ 4 + 16 * fX7_cornerMarks (fX9_has (nI m) 2) (fX9_has (nI m) 1) = nI (4 + 16 * m) ∧ (if (nI m &&& 2) ≤ 0 then (0 : Int32) else 1) = fX9_has (nI m) 2 ∧ (if (nI m &&& 1) ≤ 0 then (0 : Int32) else 1) = fX9_has (nI m) 1) := by decide +kernel
theorem hd5 : ∀ m, m < 48 → (nI (5 + 16 * m) / 16 = nI m ∧ fX9_itemLength (nI (5 + 16 * m)) = 6 ∧ 5 + 16 * nI m = nI (5 + 16 * m) ∧ 5 + 16 * (((nI m &&& 48) + fX7_cornerMarks (fX9_has (nI m) 2) (fX9_has (nI m) 1)) + 4 * fX7_cornerMarks (fX9_has (nI m / 4) 2) (fX9_has (nI m / 4) 1)) = nI (5 + 16 * m)) := by decide +kernel
theorem hd6 : ∀ m, m < 48 → (fX9_has (nI m &&& 48) 16 = fX9_has (nI m) 16 ∧ fX9_has (nI m &&& 48) 32 = fX9_has (nI m) 32 ∧ fX9_has (nI m / 4) 2 = fX9_has (nI m) 8 ∧ fX9_has (nI m / 4) 1 = fX9_has (nI m) 4 ∧ (if (nI m / 32 - nI m / 32 / 2 * 2) = 1 then (1 : Int32) else 0) = fX9_has (nI m) 32 ∧ (if (nI m / 16 - nI m / 16 / 2 * 2) = 1 then (1 : Int32) else 0) = fX9_has (nI m) 16) := by decide +kernel
theorem hd7 : ∀ m, m < 48 → ((if (nI m &&& 2) ≤ 0 then (0 : Int32) else 1) = fX9_has (nI m) 2 ∧ (if (nI m &&& 8) ≤ 0 then (0 : Int32) else 1) = fX9_has (nI m) 8 ∧ (if (nI m &&& 1) ≤ 0 then (0 : Int32) else 1) = fX9_has (nI m) 1 ∧ (if (nI m &&& 4) ≤ 0 then (0 : Int32) else 1) = fX9_has (nI m) 4) := by decide +kernel
/-- the marks, rows exchanged or not, columns exchanged or not -/
theorem hdX : ∀ m, m < 48 → ∀ er ec : Bool, 5 + 16 * (((nI m &&& 48) + (if ec = false then (nI m &&& 5) else (nI m &&& 1) * 4 + (nI m &&& 4) / 4)) + (if er = false then (nI m &&& 10) else (nI m &&& 2) * 4 + (nI m &&& 8) / 4)) = 5 + 16 * (((nI m &&& 48) + fX7_cornerMarks (if er = false then fX9_has (nI m) 2 else fX9_has (nI m) 8) (if ec = false then fX9_has (nI m) 1 else fX9_has (nI m) 4)) + 4 * fX7_cornerMarks (if er = false then fX9_has (nI m) 8 else fX9_has (nI m) 2) (if ec = false then fX9_has (nI m) 4 else fX9_has (nI m) 1)) := by decide +kernel
def mX (m : Nat) (er ec : Bool) : Nat := m / 16 * 16 + (if ec = false then m % 2 + m / 4 % 2 * 4 else m % 2 * 4 + m / 4 % 2) + (if er = false then m / 2 % 2 * 2 + m / 8 % 2 * 8 else m / 2 % 2 * 8 + m / 8 % 2 * 2)
theorem hdY : ∀ m, m < 48 → ∀ er ec : Bool, mX m er ec < 48 ∧ 5 + 16 * (((nI m &&& 48) + (if ec = false then (nI m &&& 5) else (nI m &&& 1) * 4 + (nI m &&& 4) / 4)) + (if er = false then (nI m &&& 10) else (nI m &&& 2) * 4 + (nI m &&& 8) / 4)) = nI (5 + 16 * mX m er ec) ∧ fX9_has (nI (mX m er ec)) 16 = fX9_has (nI m) 16 ∧ fX9_has (nI (mX m er ec)) 32 = fX9_has (nI m) 32 := by decide +kernel
def tcp4 (dn al h s r c : Int32) : List Int32 :=
  if fX10_moved r (fX9_has (h / 16) 2) dn 1048576 = 0 then [67] else if fX10_moved c (fX9_has (h / 16) 1) al 16384 = 0 then [67] else [h, s, fX10_moved r (fX9_has (h / 16) 2) dn 1048576, fX10_moved c (fX9_has (h / 16) 1) al 16384]
def zz (x a b : Int32) : Int32 := if fX9_has x a = 0 then fX9_has x b else 1
def tcp6 (dn al h s t l b r : Int32) : List Int32 :=
  if fX10_moved t (zz (h / 16) 16 2) dn 1048576 = 0 then [67] else if fX10_moved b (zz (h / 16) 16 8) dn 1048576 = 0 then [67] else
  if fX10_moved l (zz (h / 16) 32 1) al 16384 = 0 then [67] else if fX10_moved r (zz (h / 16) 32 4) al 16384 = 0 then [67] else
  [5 + 16 * (((h / 16 &&& 48) + (if fX10_moved l (zz (h / 16) 32 1) al 16384 ≤ fX10_moved r (zz (h / 16) 32 4) al 16384 then (h / 16 &&& 5) else (h / 16 &&& 1) * 4 + (h / 16 &&& 4) / 4)) + (if fX10_moved t (zz (h / 16) 16 2) dn 1048576 ≤ fX10_moved b (zz (h / 16) 16 8) dn 1048576 then (h / 16 &&& 10) else (h / 16 &&& 2) * 4 + (h / 16 &&& 8) / 4)), s,
   if fX10_moved t (zz (h / 16) 16 2) dn 1048576 ≤ fX10_moved b (zz (h / 16) 16 8) dn 1048576 then fX10_moved t (zz (h / 16) 16 2) dn 1048576 else fX10_moved b (zz (h / 16) 16 8) dn 1048576,
   if fX10_moved l (zz (h / 16) 32 1) al 16384 ≤ fX10_moved r (zz (h / 16) 32 4) al 16384 then fX10_moved l (zz (h / 16) 32 1) al 16384 else fX10_moved r (zz (h / 16) 32 4) al 16384,
   if fX10_moved t (zz (h / 16) 16 2) dn 1048576 ≤ fX10_moved b (zz (h / 16) 16 8) dn 1048576 then fX10_moved b (zz (h / 16) 16 8) dn 1048576 else fX10_moved t (zz (h / 16) 16 2) dn 1048576,
   if fX10_moved l (zz (h / 16) 32 1) al 16384 ≤ fX10_moved r (zz (h / 16) 32 4) al 16384 then fX10_moved r (zz (h / 16) 32 4) al 16384 else fX10_moved l (zz (h / 16) 32 1) al 16384]
def onS (hom s : Int32) : Int32 := if 0 ≤ s then s else hom
def tsh4 (hom si z at_ nn h s r c : Int32) : List Int32 :=
  if onS hom s = si then (if (if z = 0 then fX10_shifted r 0 at_ nn else r) = 0 then [67] else if (if z = 0 then c else fX10_shifted c 1 at_ nn) = 0 then [67] else [h, s, if z = 0 then fX10_shifted r 0 at_ nn else r, if z = 0 then c else fX10_shifted c 1 at_ nn]) else [h, s, r, c]
def fst6 (z at_ nn a e : Int32) : Int32 := if (if a = 1 then (if e = fX10_lines z then (1 : Int32) else 0) else 0) = 0 then fX10_firstLeft a e z at_ nn else a
def lst6 (z at_ nn a e : Int32) : Int32 := if (if a = 1 then (if e = fX10_lines z then (1 : Int32) else 0) else 0) = 0 then fX10_lastLeft a e z at_ nn else e
def tsh6 (hom si z at_ nn h s t l b r : Int32) : List Int32 :=
  if onS hom s = si then (if fst6 z at_ nn (if z = 0 then t else l) (if z = 0 then b else r) = 0 then [67] else if lst6 z at_ nn (if z = 0 then t else l) (if z = 0 then b else r) = 0 then [67] else
    if z = 0 then [5 + 16 * (h / 16), s, fst6 z at_ nn t b, l, lst6 z at_ nn t b, r] else [5 + 16 * (h / 16), s, t, fst6 z at_ nn l r, b, lst6 z at_ nn l r]) else [h, s, t, l, b, r]
def inn (sh tp lf bt rt o t l b r : Int32) : Int32 := if o = sh then (if t < tp then 0 else (if bt < b then 0 else (if l < lf then 0 else (if rt < r then 0 else 1)))) else 0
def told (nh s to : Int32) : Int32 := if 0 ≤ s then to else (if to = nh then (-1) else to)
def tmv4 (sh tp lf bt rt hm nh s1 rw cl h s r c : Int32) : List Int32 :=
  if inn sh tp lf bt rt (onS hm s) r c r c = 0 then (if inn s1 rw cl (bt + (rw - tp)) (rt + (cl - lf)) (onS hm s) r c r c = 0 then [h, told nh s (onS hm s), r, c] else [67]) else [h, told nh s s1, r + (rw - tp), c + (cl - lf)]
def tmv6 (sh tp lf bt rt hm nh s1 rw cl h s t l b r : Int32) : List Int32 :=
  if inn sh tp lf bt rt (onS hm s) t l b r = 0 then (if inn s1 rw cl (bt + (rw - tp)) (rt + (cl - lf)) (onS hm s) t l b r = 0 then [5 + 16 * (h / 16), told nh s (onS hm s), t, l, b, r] else [67]) else [5 + 16 * (h / 16), told nh s s1, t + (rw - tp), l + (cl - lf), b + (rw - tp), r + (cl - lf)]
