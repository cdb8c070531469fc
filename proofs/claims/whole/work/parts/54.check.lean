def fX9_checkLines (p1 : Int32) (p2 : Int32) (p3 : Int32) (p4 : Int32) (p5 : Int32) : Int32 := if (fX9_isSheet p1) = 0 then 0 else (if (fX9_isSheet p2) = 0 then 0 else (let v_1 : Int32 := (if p3 = 0 then 1048576 else 16384); if (fX9_isLine p4 v_1) = 0 then 0 else (if p5 < 1 then 0 else (if p5 ≤ 16384 then 1 else 0))))
abbrev rmX9_checkLines : Room := { frames := 6, cells := 1, slots := 6, locals := 82 }
abbrev qX9_checkLines (D : va_G) (sz : Nat) (p1 : Int32) (p2 : Int32) (p3 : Int32) (p4 : Int32) (p5 : Int32) : Array Value → State → Outcome → State → Prop := va_Qv (fun w_9 => ∃ _u : Unit, fX9_checkLines p1 p2 p3 p4 p5 = 1 ∧ w_9 = []) (Bq D (va_A [] sz)) (va_A [] sz)
set_option maxHeartbeats 4000000 in
set_option maxRecDepth 100000 in
theorem kX9_checkLines (l : Launch) (hst : l.stackTraces = false) (D : va_G) (sz : Nat) (p1 : Int32) (p2 : Int32) (p3 : Int32) (p4 : Int32) (p5 : Int32) : vx_Met l yX9_checkLines wsX9_checkLines rmX9_checkLines (va_Pc [.int p1, .int p2, .int p3, .int p4, .int p5] (Pt D [] [] sz)) (qX9_checkLines D sz p1 p2 p3 p4 p5) (Xw D (va_A [] sz) [] ((fX9_checkLines p1 p2 p3 p4 p5) = 0)) 1 6 (va_A [] sz) := by
  refine vx_ofW (cc := cX9_checkLines) (maxL := 5) (ret := none) (by decide) rfl ?_
  intro p e s m args below meth c s₁ B hml hout hv
  obtain ⟨hargs, ⟨hsz, hP, hK, hD0, hN⟩, hT, z1, z2⟩ := hv
  have hx := B.exec
  have hb := B.bytes
  have hr := B.returns
  have hts := atoms_spec (ws := wsX9_checkLines) B.pre
  have hflt : ∀ w ∈ (vx_atS RX9 67 IAE thN).filter goodWord, w.before args s = true := fun w h => hts w (List.mem_cons_of_mem _ (List.mem_append_right _ h))
  have hown : s.vm.findClass RX9 = some m.cls := findClass_of_methodNamed B.named
  have hlocks := B.notSynchronized
  subst hsz
  obtain ⟨A, hAe⟩ : ∃ A, A = va_A [] s.heap.size := ⟨_, rfl⟩
  have hD : va_D A [] := by rw [hAe]; exact hD0.self
  have hA : ∀ q : Nat, s.heap.size ≤ q → A q := by rw [hAe]; exact mo_A
  have z1 : ZU A s s.heap := by rw [hAe]; exact z1
  have z2 : ZN A s s.heap := by rw [hAe]; exact z2
  have hfr : ∀ q, A q → (va_A [] s.heap.size) q := fun q h => hAe ▸ h
  obtain ⟨Q, hQe⟩ : ∃ Q, Q = vx_MQ below (qX9_checkLines D s.heap.size p1 p2 p3 p4 p5) (Xw D A [] ((fX9_checkLines p1 p2 p3 p4 p5) = 0)) args s 1 6 (va_A [] s.heap.size) := ⟨_, rfl⟩
  have hQ2 : vx_MQ below (qX9_checkLines D s.heap.size p1 p2 p3 p4 p5) (Xw D (va_A [] s.heap.size) [] ((fX9_checkLines p1 p2 p3 p4 p5) = 0)) args s 1 6 (va_A [] s.heap.size) = Q := by rw [hQe, hAe]
  rw [hQ2]
  have hS : va_S A s.heap s.heap [] := va_S.rf
  obtain ⟨H, hHe⟩ : ∃ H, H = s.heap := ⟨_, rfl⟩
  obtain ⟨locs, hLe⟩ : ∃ L : List Loc, L = [] := ⟨_, rfl⟩
  have hP : va_P D vwCl [] H := by rw [hHe]; exact hP
  have hS : va_S A s.heap H locs := by rw [hHe, hLe]; exact hS
  have hl := lv_entry ([.int p1, .int p2, .int p3, .int p4, .int p5]) (n := 5) (Nat.le_of_ble_eq_true rfl)
  rw [show entryFrame m args 5 = entryFrame m (([.int p1, .int p2, .int p3, .int p4, .int p5] : List Value).toArray) 5 by rw [hargs], lg_entry_eq]
  generalize (lg_sl ([.int p1, .int p2, .int p3, .int p4, .int p5]) ++ List.replicate (5 - (lg_sl ([.int p1, .int p2, .int p3, .int p4, .int p5])).length) Slot.unset).toArray = ls at hl ⊢
  have hl : lv_has ls 5 [(0, .int p1), (1, .int p2), (2, .int p3), (3, .int p4), (4, .int p5)] := hl
  refine hStart hHe hLe ?_
  clear hHe hLe hQ2
  have k_48 := hts (.constant RX9 48 (1048576)) (by decide +kernel)
  refine lv_iload_n hx hb dX9_checkLines_0 rfl (lv_at hl 0 rfl) ?_
  have hPc := hP.sub (ws' := []) [] rfl
  have hDc := hD.sub (ws' := []) [] (by decide) rfl
  have hKc := hK.sub (tys' := []) [] rfl
  refine rd_i (va_runS (As := [.int p1]) (rest := []) ⟨hx, hb, hml, hown, hts⟩ (kX9_isSheet l D H.size p1 ) (va_cwS 1 hts gX9_checkLines_X9_isSheet rfl rfl rfl (by decide +kernel) ⟨Nat.le_of_ble_eq_true rfl, Nat.le_of_ble_eq_true rfl⟩) ⟨Pw_blind, fun U hU hW => Pw_at hKc hPc hDc hN hU hW⟩ rfl rfl hl.1 rfl (lv_room (Nat.le_of_ble_eq_true rfl)) dX9_checkLines_1 ⟨show 0 ≤ 1 by decide, show 0 ≤ 6 by decide⟩) ?_
  refine lv_if_eq (tgt := 14) hx hb dX9_checkLines_4 (by decide) (fun c4 => ?_) (fun c4 => ?_)
  · have hF : (fX9_checkLines p1 p2 p3 p4 p5) = 0 := by exact (if_pos c4)
    obtain ⟨sa, hsa⟩ := hT.2.2.2.2.2.2.1
    subst hQe
    exact vx_throwS (names := thN) (cls := IAE) hx hb hst hown (by decide) (by decide) (hts (.classLink RX9 63 IAE) (by decide +kernel)) (hts (.initialized IAE) (by decide +kernel)) hsa (thr_hat hflt hT) thr_good z1 z2 hS (by rw [hml]; exact hl.1) dX9_checkLines_14 dX9_checkLines_17 dX9_checkLines_18 dX9_checkLines_20 dX9_checkLines_23 (fun x h => (hout x h).elim) (Nat.le_of_ble_eq_true rfl) (Nat.le_of_ble_eq_true rfl) (show 1 ≤ 1 by decide) (show 6 ≤ 6 by decide) hlocks (Xw_throw hF hP hD hS) (fun z h => hfr _ (hS.2.2 z h)) (by decide) (by decide)
  · refine lv_iload_n hx hb dX9_checkLines_7 rfl (lv_at hl 1 rfl) ?_
    have hPc := hP.sub (ws' := []) [] rfl
    have hDc := hD.sub (ws' := []) [] (by decide) rfl
    have hKc := hK.sub (tys' := []) [] rfl
    refine rd_i (va_runS (As := [.int p2]) (rest := []) ⟨hx, hb, hml, hown, hts⟩ (kX9_isSheet l D H.size p2 ) (va_cwS 1 hts gX9_checkLines_X9_isSheet rfl rfl rfl (by decide +kernel) ⟨Nat.le_of_ble_eq_true rfl, Nat.le_of_ble_eq_true rfl⟩) ⟨Pw_blind, fun U hU hW => Pw_at hKc hPc hDc hN hU hW⟩ rfl rfl hl.1 rfl (lv_room (Nat.le_of_ble_eq_true rfl)) dX9_checkLines_8 ⟨show 0 ≤ 1 by decide, show 0 ≤ 6 by decide⟩) ?_
    refine lv_if_ne (tgt := 24) hx hb dX9_checkLines_11 (by decide) (fun c11 => ?_) (fun c11 => ?_)
    · refine lv_iload_n hx hb dX9_checkLines_24 rfl (lv_at hl 3 rfl) ?_
      refine lv_iload_n hx hb dX9_checkLines_25 rfl (lv_at hl 2 rfl) ?_
      have K37_1 : ∀ (v_1 : Int32), v_1 = (if p3 = 0 then 1048576 else 16384) → ∀ ls : Array Slot, lv_has ls 5 [(4, .int p5)] → W p l e (headSpec wsX9_checkLines rmX9_checkLines).room s m args below meth c H locs 0 0 Q (F0 m 37 ls [.int v_1, .int p4]) := by
        intro v_1 ev_1 ls hl
        have hPc := hP.sub (ws' := []) [] rfl
        have hDc := hD.sub (ws' := []) [] (by decide) rfl
        have hKc := hK.sub (tys' := []) [] rfl
        refine rd_i (va_runS (As := [.int p4, .int v_1]) (rest := []) ⟨hx, hb, hml, hown, hts⟩ (kX9_isLine l D H.size p4 v_1 ) (va_cwS 2 hts gX9_checkLines_X9_isLine rfl rfl rfl (by decide +kernel) ⟨Nat.le_of_ble_eq_true rfl, Nat.le_of_ble_eq_true rfl⟩) ⟨Pw_blind, fun U hU hW => Pw_at hKc hPc hDc hN hU hW⟩ rfl rfl hl.1 rfl (lv_room (Nat.le_of_ble_eq_true rfl)) dX9_checkLines_37 ⟨show 0 ≤ 1 by decide, show 0 ≤ 6 by decide⟩) ?_
        refine lv_if_ne (tgt := 53) hx hb dX9_checkLines_40 (by decide) (fun c40 => ?_) (fun c40 => ?_)
        · refine lv_iload hx hb dX9_checkLines_53 (lv_at hl 0 rfl) ?_
          refine lv_iconst (v := 1) hx hb dX9_checkLines_55 (by decide) ?_
          refine lv_icmp_lt (tgt := 67) hx hb dX9_checkLines_56 (by decide) (fun c56 => ?_) (fun c56 => ?_)
          · have hF : (fX9_checkLines p1 p2 p3 p4 p5) = 0 := by subst ev_1; exact ((if_neg c4).trans ((if_neg c11).trans ((if_neg c40).trans (if_pos c56))))
            obtain ⟨sa, hsa⟩ := hT.2.2.2.2.2.2.2.2.1
            subst hQe
            exact vx_throwS (names := thN) (cls := IAE) hx hb hst hown (by decide) (by decide) (hts (.classLink RX9 63 IAE) (by decide +kernel)) (hts (.initialized IAE) (by decide +kernel)) hsa (thr_hat hflt hT) thr_good z1 z2 hS (by rw [hml]; exact hl.1) dX9_checkLines_67 dX9_checkLines_70 dX9_checkLines_71 dX9_checkLines_73 dX9_checkLines_76 (fun x h => (hout x h).elim) (Nat.le_of_ble_eq_true rfl) (Nat.le_of_ble_eq_true rfl) (show 1 ≤ 1 by decide) (show 6 ≤ 6 by decide) hlocks (Xw_throw hF hP hD hS) (fun z h => hfr _ (hS.2.2 z h)) (by decide) (by decide)
          · refine lv_iload hx hb dX9_checkLines_59 (lv_at hl 0 rfl) ?_
            refine lv_sipush (v := 16384) hx hb dX9_checkLines_61 (by decide) ?_
            refine lv_icmp_le (tgt := 77) hx hb dX9_checkLines_64 (by decide) (fun c64 => ?_) (fun c64 => ?_)
            · have hF : (fX9_checkLines p1 p2 p3 p4 p5) = 1 := by subst ev_1; exact ((if_neg c4).trans ((if_neg c11).trans ((if_neg c40).trans ((if_neg c56).trans (if_pos c64)))))
              subst hAe
              subst hQe
              refine W.widen (k := 1) (n := 6) (by decide) (by decide) ?_
              exact vx_ret (W.vret hx hb hr (fun t ht hW => ⟨⟨_, rfl, ⟨(), hF, rfl⟩, by rw [ht]; exact hP, hD⟩, hS.F ht⟩) hS.2.2 dX9_checkLines_77)
            · have hF : (fX9_checkLines p1 p2 p3 p4 p5) = 0 := by subst ev_1; exact ((if_neg c4).trans ((if_neg c11).trans ((if_neg c40).trans ((if_neg c56).trans (if_neg c64)))))
              obtain ⟨sa, hsa⟩ := hT.2.2.2.2.2.2.2.2.1
              subst hQe
              exact vx_throwS (names := thN) (cls := IAE) hx hb hst hown (by decide) (by decide) (hts (.classLink RX9 63 IAE) (by decide +kernel)) (hts (.initialized IAE) (by decide +kernel)) hsa (thr_hat hflt hT) thr_good z1 z2 hS (by rw [hml]; exact hl.1) dX9_checkLines_67 dX9_checkLines_70 dX9_checkLines_71 dX9_checkLines_73 dX9_checkLines_76 (fun x h => (hout x h).elim) (Nat.le_of_ble_eq_true rfl) (Nat.le_of_ble_eq_true rfl) (show 1 ≤ 1 by decide) (show 6 ≤ 6 by decide) hlocks (Xw_throw hF hP hD hS) (fun z h => hfr _ (hS.2.2 z h)) (by decide) (by decide)
        · have hF : (fX9_checkLines p1 p2 p3 p4 p5) = 0 := by subst ev_1; exact ((if_neg c4).trans ((if_neg c11).trans (if_pos c40)))
          obtain ⟨sa, hsa⟩ := hT.2.2.2.2.2.2.2.1
          subst hQe
          exact vx_throwS (names := thN) (cls := IAE) hx hb hst hown (by decide) (by decide) (hts (.classLink RX9 63 IAE) (by decide +kernel)) (hts (.initialized IAE) (by decide +kernel)) hsa (thr_hat hflt hT) thr_good z1 z2 hS (by rw [hml]; exact hl.1) dX9_checkLines_43 dX9_checkLines_46 dX9_checkLines_47 dX9_checkLines_49 dX9_checkLines_52 (fun x h => (hout x h).elim) (Nat.le_of_ble_eq_true rfl) (Nat.le_of_ble_eq_true rfl) (show 1 ≤ 1 by decide) (show 6 ≤ 6 by decide) hlocks (Xw_throw hF hP hD hS) (fun z h => hfr _ (hS.2.2 z h)) (by decide) (by decide)
      refine lv_if_eq (tgt := 35) hx hb dX9_checkLines_26 (by decide) (fun c26 => ?_) (fun c26 => ?_)
      · refine lv_ldc (v := 1048576) hx hb hown k_48 dX9_checkLines_35 ?_
        exact K37_1 _ (if_pos c26).symm ls (lv_sub hl [4] rfl)
      · refine lv_sipush (v := 16384) hx hb dX9_checkLines_29 (by decide) ?_
        refine lv_goto (tgt := 37) hx hb dX9_checkLines_32 (by decide) ?_
        exact K37_1 _ (if_neg c26).symm ls (lv_sub hl [4] rfl)
    · have hF : (fX9_checkLines p1 p2 p3 p4 p5) = 0 := by exact ((if_neg c4).trans (if_pos c11))
      obtain ⟨sa, hsa⟩ := hT.2.2.2.2.2.2.1
      subst hQe
      exact vx_throwS (names := thN) (cls := IAE) hx hb hst hown (by decide) (by decide) (hts (.classLink RX9 63 IAE) (by decide +kernel)) (hts (.initialized IAE) (by decide +kernel)) hsa (thr_hat hflt hT) thr_good z1 z2 hS (by rw [hml]; exact hl.1) dX9_checkLines_14 dX9_checkLines_17 dX9_checkLines_18 dX9_checkLines_20 dX9_checkLines_23 (fun x h => (hout x h).elim) (Nat.le_of_ble_eq_true rfl) (Nat.le_of_ble_eq_true rfl) (show 1 ≤ 1 by decide) (show 6 ≤ 6 by decide) hlocks (Xw_throw hF hP hD hS) (fun z h => hfr _ (hS.2.2 z h)) (by decide) (by decide)
