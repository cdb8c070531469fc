def Tcp (dn al : Int32) : List Int32 → List Int32
  | [h, s, r, c] => tcp4 dn al h s r c
  | [h, s, t, l, b, r] => tcp6 dn al h s t l b r
  | ws => ws
def Tsh (hom si z at_ nn : Int32) : List Int32 → List Int32
  | [h, s, r, c] => tsh4 hom si z at_ nn h s r c
  | [h, s, t, l, b, r] => tsh6 hom si z at_ nn h s t l b r
  | ws => ws
def Tmv (cs ct cl cb cr hm nh ts rw cw : Int32) : List Int32 → List Int32
  | [h, s, r, c] => tmv4 cs ct cl cb cr hm nh ts rw cw h s r c
  | [h, s, t, l, b, r] => tmv6 cs ct cl cb cr hm nh ts rw cw h s t l b r
  | ws => ws
theorem Tcp_ok {dn al : Int32} {it : List Int32} (h : okI it) : okI (Tcp dn al it) ∧ (Tcp dn al it).length ≤ it.length := by
  rcases h with ⟨x, hx, rfl⟩ | ⟨m, s, r, c, hm, h1, h2, h3, rfl⟩ | ⟨m, s, t, l, b, r, hm, h1, h2, h3, h4, h5, h6, h7, h8, h9, rfl⟩
  · exact ⟨Or.inl ⟨x, hx, rfl⟩, Nat.le_refl _⟩
  · refine ⟨ok_cp4 hm h1 h2 h3, ?_⟩
    show (tcp4 dn al (nI (4 + 16 * m)) s r c).length ≤ 4
    unfold tcp4
    repeat' split
    all_goals exact Nat.le_of_ble_eq_true rfl
  · refine ⟨ok_cp6 hm h1 h2 h3 h4 h5 h6 h7 h8 h9, ?_⟩
    show (tcp6 dn al (nI (5 + 16 * m)) s t l b r).length ≤ 6
    unfold tcp6
    by_cases q1 : fX10_moved t (zz (nI (5 + 16 * m) / 16) 16 2) dn 1048576 = 0
    · rw [if_pos q1]; exact Nat.le_of_ble_eq_true rfl
    rw [if_neg q1]
    by_cases q2 : fX10_moved b (zz (nI (5 + 16 * m) / 16) 16 8) dn 1048576 = 0
    · rw [if_pos q2]; exact Nat.le_of_ble_eq_true rfl
    rw [if_neg q2]
    by_cases q3 : fX10_moved l (zz (nI (5 + 16 * m) / 16) 32 1) al 16384 = 0
    · rw [if_pos q3]; exact Nat.le_of_ble_eq_true rfl
    rw [if_neg q3]
    by_cases q4 : fX10_moved r (zz (nI (5 + 16 * m) / 16) 32 4) al 16384 = 0
    · rw [if_pos q4]; exact Nat.le_of_ble_eq_true rfl
    rw [if_neg q4]
    exact Nat.le_refl 6
theorem Tsh_ok {hom si z at_ n nn : Int32} (h3 : 1 ≤ at_) (h4 : at_ ≤ fX10_lines z) (h5 : 1 ≤ n) (h6 : n ≤ 16384) (hn : nn = n ∨ nn = -n) {it : List Int32} (h : okI it) : okI (Tsh hom si z at_ nn it) ∧ (Tsh hom si z at_ nn it).length ≤ it.length := by
  rcases h with ⟨x, hx, rfl⟩ | ⟨m, s, r, c, hm, g1, g2, g3, rfl⟩ | ⟨m, s, t, l, b, r, hm, g1, g2, g3, g4, g5, g6, g7, g8, g9, rfl⟩
  · exact ⟨Or.inl ⟨x, hx, rfl⟩, Nat.le_refl _⟩
  · refine ⟨ok_sh4 hm g1 g2 g3 h3 h4 h5 h6 hn, ?_⟩
    show (tsh4 hom si z at_ nn (nI (4 + 16 * m)) s r c).length ≤ 4
    unfold tsh4
    by_cases q0 : onS hom s = si
    · rw [if_pos q0]
      by_cases q1 : (if z = 0 then fX10_shifted r 0 at_ nn else r) = 0
      · rw [if_pos q1]; exact Nat.le_of_ble_eq_true rfl
      rw [if_neg q1]
      by_cases q2 : (if z = 0 then c else fX10_shifted c 1 at_ nn) = 0
      · rw [if_pos q2]; exact Nat.le_of_ble_eq_true rfl
      rw [if_neg q2]
      exact Nat.le_refl 4
    · rw [if_neg q0]
      exact Nat.le_refl 4
  · refine ⟨ok_sh6 hm g1 g2 g3 g4 g5 g6 g7 g8 g9 h3 h4 h5 h6 hn, ?_⟩
    show (tsh6 hom si z at_ nn (nI (5 + 16 * m)) s t l b r).length ≤ 6
    unfold tsh6
    by_cases q0 : onS hom s = si
    · rw [if_pos q0]
      by_cases q1 : fst6 z at_ nn (if z = 0 then t else l) (if z = 0 then b else r) = 0
      · rw [if_pos q1]; exact Nat.le_of_ble_eq_true rfl
      rw [if_neg q1]
      by_cases q2 : lst6 z at_ nn (if z = 0 then t else l) (if z = 0 then b else r) = 0
      · rw [if_pos q2]; exact Nat.le_of_ble_eq_true rfl
      rw [if_neg q2]
      by_cases q3 : z = 0
      · rw [if_pos q3]; exact Nat.le_refl 6
      · rw [if_neg q3]; exact Nat.le_refl 6
    · rw [if_neg q0]
      exact Nat.le_refl 6
theorem Tmv_ok {cs ct cl cb cr hm nh ts rw cw : Int32} (hM : MvOk ct cl cb cr hm ts rw cw) {it : List Int32} (h : okI it) : okI (Tmv cs ct cl cb cr hm nh ts rw cw it) ∧ (Tmv cs ct cl cb cr hm nh ts rw cw it).length ≤ it.length := by
  rcases h with ⟨x, hx, rfl⟩ | ⟨m, s, r, c, h4, g1, g2, g3, rfl⟩ | ⟨m, s, t, l, b, r, h6, g1, g2, g3, g4, g5, g6, g7, g8, g9, rfl⟩
  · exact ⟨Or.inl ⟨x, hx, rfl⟩, Nat.le_refl _⟩
  · refine ⟨ok_mv4 h4 g1 g2 g3 hM, ?_⟩
    show (tmv4 cs ct cl cb cr hm nh ts rw cw (nI (4 + 16 * m)) s r c).length ≤ 4
    unfold tmv4
    by_cases q0 : inn cs ct cl cb cr (onS hm s) r c r c = 0
    · rw [if_pos q0]
      by_cases q1 : inn ts rw cw (cb + (rw - ct)) (cr + (cw - cl)) (onS hm s) r c r c = 0
      · rw [if_pos q1]; exact Nat.le_refl 4
      · rw [if_neg q1]; exact Nat.le_of_ble_eq_true rfl
    · rw [if_neg q0]; exact Nat.le_refl 4
  · refine ⟨ok_mv6 h6 g1 g2 g3 g4 g5 g6 g7 g8 g9 hM, ?_⟩
    show (tmv6 cs ct cl cb cr hm nh ts rw cw (nI (5 + 16 * m)) s t l b r).length ≤ 6
    unfold tmv6
    by_cases q0 : inn cs ct cl cb cr (onS hm s) t l b r = 0
    · rw [if_pos q0]
      by_cases q1 : inn ts rw cw (cb + (rw - ct)) (cr + (cw - cl)) (onS hm s) t l b r = 0
      · rw [if_pos q1]; exact Nat.le_refl 6
      · rw [if_neg q1]; exact Nat.le_of_ble_eq_true rfl
    · rw [if_neg q0]; exact Nat.le_refl 6
theorem lenEq (x : Int32) : (if 0 ≤ x then (if (x - x / 16 * 16) = 4 then (4 : Int32) else (if (x - x / 16 * 16) = 5 then 6 else 1)) else 1) = fX9_itemLength x := by
  unfold fX9_itemLength fX9_isOfKind
  by_cases h : x < 0
  · rw [if_neg (Int32.not_le.mpr h), if_pos h, if_pos rfl, if_pos h, if_pos rfl]
  · rw [if_pos (Int32.not_lt.mp h), if_neg h, if_neg h]
    by_cases h4 : (x - x / 16 * 16) = 4
    · rw [if_pos h4, if_pos h4, if_neg (by decide)]
    · rw [if_neg h4, if_neg h4, if_pos rfl]
      by_cases h5 : (x - x / 16 * 16) = 5
      · rw [if_pos h5, if_pos h5, if_neg (by decide)]
      · rw [if_neg h5, if_neg h5, if_pos rfl]
theorem lenM {f : Nat → Int32} {K : Nat} {x : Int32} (h : K < 2000) (hx : f K = x) : fX10_lengthAt f (nI K) = fX9_itemLength x := by
  unfold fX10_lengthAt
  rw [c0 h, hx, lenEq]
theorem seg1 {f : Nat → Int32} {K : Nat} {x : Int32} (h : Seg f K [x]) : f K = x := h 0 (Nat.le_of_ble_eq_true rfl)
/-- what the reference's loops leave: the answer, the numbers' count and their row -/
def resS (T : List Int32 → List Int32) (items : List (List Int32)) (f g : Nat → Int32) : Int32 × Int32 × Int32 × Int32 × (Nat → Int32) × (Nat → Int32) :=
  (cnt T items, nI (outs T items).length, nI (outs T items).length, cnt T items, ffin (outs T items).length f (wr g 0 (outs T items)), wr g 0 (outs T items))
def resM (good : Int32) (T : List Int32 → List Int32) (items : List (List Int32)) (md ch : Int32) (f g : Nat → Int32) : Int32 × Int32 × Int32 × Int32 × Int32 × (Nat → Int32) × (Nat → Int32) :=
  if good = 1 then (cnt T items, 0, nI (outs T items).length, nI (outs T items).length, cnt T items, ffin (outs T items).length f (wr g 0 (outs T items)), wr g 0 (outs T items)) else (0, 1, nI items.flatten.length, md, ch, f, g)
theorem outs_le {T : List Int32 → List Int32} : ∀ {items : List (List Int32)}, (∀ it ∈ items, okI it ∧ (T it).length ≤ it.length) → (outs T items).length ≤ items.flatten.length
  | [], _ => Nat.le_refl 0
  | it :: l, h => by
    have e1 : outs T (it :: l) = T it ++ outs T l := rfl
    have h1 := (h it List.mem_cons_self).2
    have h2 := outs_le (fun x hx => h x (List.mem_cons_of_mem _ hx))
    rw [e1, List.length_append, List.flatten_cons, List.length_append]
    omega
