section
-- ===== PART A: goes FIRST, ahead of the names: the tables' words, and 'selects' of the private methods out of them =====
/-- a private method of a class that the tables say can be made, by its rows of tables_1 -/
def lw_okq (q : MethodName × Nat) : Prop := (q.1.cls ≠ "java/lang/invoke/MethodHandle" ∧ q.1.cls ≠ "java/lang/invoke/VarHandle") ∧ Cond.instantiable q.1.cls q.2 ∈ tables_1 ∧ Cond.privateMethod q.1 ∈ tables_1 ∧ Cond.instanceMethod q.1 ∈ tables_1
theorem lw_p0 : lw_okq (⟨"ReferenceMover", "hasRoomFor", "(I)Z"⟩, 4) := ⟨⟨by decide +kernel, by decide +kernel⟩, List.mem_of_getElem? (i := 18) (by decide +kernel), List.mem_of_getElem? (i := 144) (by decide +kernel), List.mem_of_getElem? (i := 145) (by decide +kernel)⟩
theorem lw_p1 : lw_okq (⟨"ReferenceMover", "append", "(I)V"⟩, 4) := ⟨⟨by decide +kernel, by decide +kernel⟩, List.mem_of_getElem? (i := 18) (by decide +kernel), List.mem_of_getElem? (i := 148) (by decide +kernel), List.mem_of_getElem? (i := 149) (by decide +kernel)⟩
theorem lw_p2 : lw_okq (⟨"ReferenceMover", "put", "(II)V"⟩, 4) := ⟨⟨by decide +kernel, by decide +kernel⟩, List.mem_of_getElem? (i := 18) (by decide +kernel), List.mem_of_getElem? (i := 152) (by decide +kernel), List.mem_of_getElem? (i := 153) (by decide +kernel)⟩
theorem lw_p3 : lw_okq (⟨"java/lang/Throwable", "fillInStackTrace", "(I)Ljava/lang/Throwable;"⟩, 6) := ⟨⟨by decide +kernel, by decide +kernel⟩, List.mem_of_getElem? (i := 240) (by decide +kernel), List.mem_of_getElem? (i := 238) (by decide +kernel), List.mem_of_getElem? (i := 239) (by decide +kernel)⟩
theorem lw_p4 : lw_okq (⟨"ReferenceMover", "changeReferences", "(LReferenceMover$Change;)I"⟩, 4) := ⟨⟨by decide +kernel, by decide +kernel⟩, List.mem_of_getElem? (i := 18) (by decide +kernel), List.mem_of_getElem? (i := 287) (by decide +kernel), List.mem_of_getElem? (i := 288) (by decide +kernel)⟩
theorem lw_p5 : lw_okq (⟨"ReferenceMover", "load", "(II)V"⟩, 4) := ⟨⟨by decide +kernel, by decide +kernel⟩, List.mem_of_getElem? (i := 18) (by decide +kernel), List.mem_of_getElem? (i := 295) (by decide +kernel), List.mem_of_getElem? (i := 296) (by decide +kernel)⟩
theorem lw_p6 : lw_okq (⟨"ReferenceMover$Span", "exchange", "()V"⟩, 5) := ⟨⟨by decide +kernel, by decide +kernel⟩, List.mem_of_getElem? (i := 62) (by decide +kernel), List.mem_of_getElem? (i := 319) (by decide +kernel), List.mem_of_getElem? (i := 320) (by decide +kernel)⟩
theorem lw_p7 : lw_okq (⟨"ReferenceMover", "store", "(III)Z"⟩, 4) := ⟨⟨by decide +kernel, by decide +kernel⟩, List.mem_of_getElem? (i := 18) (by decide +kernel), List.mem_of_getElem? (i := 371) (by decide +kernel), List.mem_of_getElem? (i := 372) (by decide +kernel)⟩
theorem lw_p8 : lw_okq (⟨"ReferenceMover$Reference", "rangeMarks", "()I"⟩, 5) := ⟨⟨by decide +kernel, by decide +kernel⟩, List.mem_of_getElem? (i := 56) (by decide +kernel), List.mem_of_getElem? (i := 379) (by decide +kernel), List.mem_of_getElem? (i := 380) (by decide +kernel)⟩
theorem lw_p9 : lw_okq (⟨"ReferenceMover$Reference", "firstMarks", "()I"⟩, 5) := ⟨⟨by decide +kernel, by decide +kernel⟩, List.mem_of_getElem? (i := 56) (by decide +kernel), List.mem_of_getElem? (i := 386) (by decide +kernel), List.mem_of_getElem? (i := 387) (by decide +kernel)⟩
theorem lw_p10 : lw_okq (⟨"ReferenceMoverModel", "put", "(I)V"⟩, 11) := ⟨⟨by decide +kernel, by decide +kernel⟩, List.mem_of_getElem? (i := 483) (by decide +kernel), List.mem_of_getElem? (i := 535) (by decide +kernel), List.mem_of_getElem? (i := 536) (by decide +kernel)⟩
theorem lw_p11 : lw_okq (⟨"ReferenceMoverModel", "begin", "()V"⟩, 11) := ⟨⟨by decide +kernel, by decide +kernel⟩, List.mem_of_getElem? (i := 483) (by decide +kernel), List.mem_of_getElem? (i := 568) (by decide +kernel), List.mem_of_getElem? (i := 569) (by decide +kernel)⟩
theorem lw_p12 : lw_okq (⟨"ReferenceMoverModel", "lengthAt", "(I)I"⟩, 11) := ⟨⟨by decide +kernel, by decide +kernel⟩, List.mem_of_getElem? (i := 483) (by decide +kernel), List.mem_of_getElem? (i := 572) (by decide +kernel), List.mem_of_getElem? (i := 573) (by decide +kernel)⟩
theorem lw_p13 : lw_okq (⟨"ReferenceMoverModel", "make", "(I)V"⟩, 11) := ⟨⟨by decide +kernel, by decide +kernel⟩, List.mem_of_getElem? (i := 483) (by decide +kernel), List.mem_of_getElem? (i := 579) (by decide +kernel), List.mem_of_getElem? (i := 580) (by decide +kernel)⟩
theorem lw_p14 : lw_okq (⟨"ReferenceMoverModel", "copyRange", "(III)V"⟩, 11) := ⟨⟨by decide +kernel, by decide +kernel⟩, List.mem_of_getElem? (i := 483) (by decide +kernel), List.mem_of_getElem? (i := 583) (by decide +kernel), List.mem_of_getElem? (i := 584) (by decide +kernel)⟩
theorem lw_p15 : lw_okq (⟨"ReferenceMoverModel", "lose", "()V"⟩, 11) := ⟨⟨by decide +kernel, by decide +kernel⟩, List.mem_of_getElem? (i := 483) (by decide +kernel), List.mem_of_getElem? (i := 587) (by decide +kernel), List.mem_of_getElem? (i := 588) (by decide +kernel)⟩
def lw_privs_1 : List (MethodName × Nat) := [(⟨"ReferenceMover", "hasRoomFor", "(I)Z"⟩, 4), (⟨"ReferenceMover", "append", "(I)V"⟩, 4), (⟨"ReferenceMover", "put", "(II)V"⟩, 4), (⟨"java/lang/Throwable", "fillInStackTrace", "(I)Ljava/lang/Throwable;"⟩, 6), (⟨"ReferenceMover", "changeReferences", "(LReferenceMover$Change;)I"⟩, 4), (⟨"ReferenceMover", "load", "(II)V"⟩, 4), (⟨"ReferenceMover$Span", "exchange", "()V"⟩, 5), (⟨"ReferenceMover", "store", "(III)Z"⟩, 4), (⟨"ReferenceMover$Reference", "rangeMarks", "()I"⟩, 5), (⟨"ReferenceMover$Reference", "firstMarks", "()I"⟩, 5), (⟨"ReferenceMoverModel", "put", "(I)V"⟩, 11), (⟨"ReferenceMoverModel", "begin", "()V"⟩, 11), (⟨"ReferenceMoverModel", "lengthAt", "(I)I"⟩, 11), (⟨"ReferenceMoverModel", "make", "(I)V"⟩, 11), (⟨"ReferenceMoverModel", "copyRange", "(III)V"⟩, 11), (⟨"ReferenceMoverModel", "lose", "()V"⟩, 11)]
theorem lw_r1 : ∀ q ∈ lw_privs_1, lw_okq q := List.forall_mem_cons.mpr ⟨lw_p0, List.forall_mem_cons.mpr ⟨lw_p1, List.forall_mem_cons.mpr ⟨lw_p2, List.forall_mem_cons.mpr ⟨lw_p3, List.forall_mem_cons.mpr ⟨lw_p4, List.forall_mem_cons.mpr ⟨lw_p5, List.forall_mem_cons.mpr ⟨lw_p6, List.forall_mem_cons.mpr ⟨lw_p7, List.forall_mem_cons.mpr ⟨lw_p8, List.forall_mem_cons.mpr ⟨lw_p9, List.forall_mem_cons.mpr ⟨lw_p10, List.forall_mem_cons.mpr ⟨lw_p11, List.forall_mem_cons.mpr ⟨lw_p12, List.forall_mem_cons.mpr ⟨lw_p13, List.forall_mem_cons.mpr ⟨lw_p14, List.forall_mem_cons.mpr ⟨lw_p15, fun _ h => absurd h List.not_mem_nil⟩⟩⟩⟩⟩⟩⟩⟩⟩⟩⟩⟩⟩⟩⟩⟩
theorem lw_p16 : lw_okq (⟨"ReferenceMoverModel", "makeRange", "(IIIIIII)V"⟩, 11) := ⟨⟨by decide +kernel, by decide +kernel⟩, List.mem_of_getElem? (i := 483) (by decide +kernel), List.mem_of_getElem? (i := 591) (by decide +kernel), List.mem_of_getElem? (i := 592) (by decide +kernel)⟩
theorem lw_p17 : lw_okq (⟨"ReferenceMoverModel", "makePlace", "(IIII)V"⟩, 11) := ⟨⟨by decide +kernel, by decide +kernel⟩, List.mem_of_getElem? (i := 483) (by decide +kernel), List.mem_of_getElem? (i := 595) (by decide +kernel), List.mem_of_getElem? (i := 596) (by decide +kernel)⟩
theorem lw_p18 : lw_okq (⟨"ReferenceMoverModel", "finish", "()I"⟩, 11) := ⟨⟨by decide +kernel, by decide +kernel⟩, List.mem_of_getElem? (i := 483) (by decide +kernel), List.mem_of_getElem? (i := 599) (by decide +kernel), List.mem_of_getElem? (i := 600) (by decide +kernel)⟩
theorem lw_p19 : lw_okq (⟨"ReferenceMoverModel", "shift", "(IIZII)I"⟩, 11) := ⟨⟨by decide +kernel, by decide +kernel⟩, List.mem_of_getElem? (i := 483) (by decide +kernel), List.mem_of_getElem? (i := 613) (by decide +kernel), List.mem_of_getElem? (i := 614) (by decide +kernel)⟩
theorem lw_p20 : lw_okq (⟨"ReferenceMoverModel", "shiftRange", "(IZII)V"⟩, 11) := ⟨⟨by decide +kernel, by decide +kernel⟩, List.mem_of_getElem? (i := 483) (by decide +kernel), List.mem_of_getElem? (i := 617) (by decide +kernel), List.mem_of_getElem? (i := 618) (by decide +kernel)⟩
theorem lw_p21 : lw_okq (⟨"ReferenceMoverModel", "moveItem", "(IIIIII)V"⟩, 11) := ⟨⟨by decide +kernel, by decide +kernel⟩, List.mem_of_getElem? (i := 483) (by decide +kernel), List.mem_of_getElem? (i := 642) (by decide +kernel), List.mem_of_getElem? (i := 643) (by decide +kernel)⟩
def lw_privs_2 : List (MethodName × Nat) := [(⟨"ReferenceMoverModel", "makeRange", "(IIIIIII)V"⟩, 11), (⟨"ReferenceMoverModel", "makePlace", "(IIII)V"⟩, 11), (⟨"ReferenceMoverModel", "finish", "()I"⟩, 11), (⟨"ReferenceMoverModel", "shift", "(IIZII)I"⟩, 11), (⟨"ReferenceMoverModel", "shiftRange", "(IZII)V"⟩, 11), (⟨"ReferenceMoverModel", "moveItem", "(IIIIII)V"⟩, 11)]
theorem lw_r2 : ∀ q ∈ lw_privs_2, lw_okq q := List.forall_mem_cons.mpr ⟨lw_p16, List.forall_mem_cons.mpr ⟨lw_p17, List.forall_mem_cons.mpr ⟨lw_p18, List.forall_mem_cons.mpr ⟨lw_p19, List.forall_mem_cons.mpr ⟨lw_p20, List.forall_mem_cons.mpr ⟨lw_p21, fun _ h => absurd h List.not_mem_nil⟩⟩⟩⟩⟩⟩
def lw_privs : List (MethodName × Nat) := lw_privs_1 ++ (lw_privs_2)
def lw_tbl : List Cond := k2_sels lw_privs ++ tables_1
theorem lw_privs_ok : ∀ q ∈ lw_privs, lw_okq q := by
  show ∀ q ∈ lw_privs_1 ++ (lw_privs_2), lw_okq q
  exact List.forall_mem_append.mpr ⟨lw_r1, lw_r2⟩
end
section
/-! ===== BEGIN words of one list among another's, by their places ===== -/
theorem goodIn_r {big : List Cond} (ws : List Cond) (ps : List Nat) (hp : ws = ps.filterMap (fun i => big[i]?)) (h : ws.all goodWord = true) : GoodIn big ws := by
  intro w hw
  have h1 := List.all_eq_true.mp h w hw
  rw [hp] at hw
  obtain ⟨i, -, hi⟩ := List.mem_filterMap.mp hw
  have hm : w ∈ big := by first | exact List.mem_of_getElem? hi | exact List.getElem?_mem hi
  exact ⟨hm, good_of_word h1⟩
theorem goodIn_app {big a b : List Cond} (ha : GoodIn big a) (hb : GoodIn big b) : GoodIn big (a ++ b) := fun w h => (List.mem_append.mp h).elim (ha w) (hb w)
theorem goodIn_ca {big a b : List Cond} {c : Cond} (ha : GoodIn big (c :: a)) (hb : GoodIn big b) : GoodIn big (c :: (a ++ b)) := fun w h => (List.mem_cons.mp h).elim (fun e => ha w (List.mem_cons.mpr (Or.inl e))) (fun h => (List.mem_append.mp h).elim (fun h => ha w (List.mem_cons.mpr (Or.inr h))) (hb w))
theorem goodIn_sub {big ws : List Cond} (hm : ∀ w ∈ ws, w ∈ big) (h : ws.all goodWord = true) : GoodIn big ws := fun w hw => ⟨hm w hw, good_of_word (List.all_eq_true.mp h w hw)⟩
/-! ===== END ===== -/
end
section
/-! ===== BEGIN printed: names, fields, word lists, decode rows ===== -/
def RX0 : String := "ReferenceMover$Area"
def TX0 : u_T := fun k => match k with
  | 0 => ("ReferenceMover$Area", "sheet", "I", true)
  | 1 => ("ReferenceMover$Area", "top", "I", true)
  | 2 => ("ReferenceMover$Area", "left", "I", true)
  | 3 => ("ReferenceMover$Area", "bottom", "I", true)
  | _ => ("ReferenceMover$Area", "right", "I", true)
def tyX0 : Nat → FieldType := fun k => match k with
  | 0 => .int
  | 1 => .int
  | 2 => .int
  | 3 => .int
  | _ => .int
abbrev wsX00 : List Cond := u_ws RX0 TX0 5
theorem nmX0 : ∀ a, a < 5 → ∀ b, b < 5 → a ≠ b → (TX0 a).2.1 ≠ (TX0 b).2.1 := by decide +kernel
theorem tyX0_ok : ∀ k, k < 5 → parseFieldDescriptor (TX0 k).2.2.1 = some (tyX0 k) := by decide +kernel
abbrev cX0_init : ByteArray := prog_2_method_1_code
def yX0_init : MethodName := ⟨RX0, "<init>", "(IIIII)V"⟩
abbrev cX0_holds : ByteArray := prog_2_method_2_code
def yX0_holds : MethodName := ⟨RX0, "holds", "(LReferenceMover$Reference;I)Z"⟩
def RX1 : String := "ReferenceMover$Change"
def TX1 : u_T := fun k => match k with
  | _ => ("", "", "", false)
def tyX1 : Nat → FieldType := fun k => match k with
  | _ => .int
abbrev wsX10 : List Cond := u_ws RX1 TX1 0
theorem nmX1 : ∀ a, a < 0 → ∀ b, b < 0 → a ≠ b → (TX1 a).2.1 ≠ (TX1 b).2.1 := by decide +kernel
theorem tyX1_ok : ∀ k, k < 0 → parseFieldDescriptor (TX1 k).2.2.1 = some (tyX1 k) := by decide +kernel
abbrev cX1_init : ByteArray := prog_3_method_1_code
def yX1_init : MethodName := ⟨RX1, "<init>", "()V"⟩
def RX2 : String := "ReferenceMover$Copying"
def TX2 : u_T := fun k => match k with
  | 0 => ("ReferenceMover$Copying", "down", "I", true)
  | _ => ("ReferenceMover$Copying", "along", "I", true)
def tyX2 : Nat → FieldType := fun k => match k with
  | 0 => .int
  | _ => .int
abbrev wsX20 : List Cond := u_ws RX2 TX2 2
theorem nmX2 : ∀ a, a < 2 → ∀ b, b < 2 → a ≠ b → (TX2 a).2.1 ≠ (TX2 b).2.1 := by decide +kernel
theorem tyX2_ok : ∀ k, k < 2 → parseFieldDescriptor (TX2 k).2.2.1 = some (tyX2 k) := by decide +kernel
abbrev cX2_init : ByteArray := prog_4_method_1_code
def yX2_init : MethodName := ⟨RX2, "<init>", "(II)V"⟩
abbrev cX2_keeps : ByteArray := prog_4_method_2_code
def yX2_keeps : MethodName := ⟨RX2, "keeps", "(LReferenceMover$Reference;)Z"⟩
def RX3 : String := "ReferenceMover$LineChange"
def TX3 : u_T := fun k => match k with
  | _ => ("", "", "", false)
def tyX3 : Nat → FieldType := fun k => match k with
  | _ => .int
abbrev wsX30 : List Cond := u_ws RX3 TX3 0
theorem nmX3 : ∀ a, a < 0 → ∀ b, b < 0 → a ≠ b → (TX3 a).2.1 ≠ (TX3 b).2.1 := by decide +kernel
theorem tyX3_ok : ∀ k, k < 0 → parseFieldDescriptor (TX3 k).2.2.1 = some (tyX3 k) := by decide +kernel
abbrev cX3_init : ByteArray := prog_5_method_1_code
def yX3_init : MethodName := ⟨RX3, "<init>", "(IIZII)V"⟩
abbrev cX3_keeps : ByteArray := prog_5_method_2_code
def yX3_keeps : MethodName := ⟨RX3, "keeps", "(LReferenceMover$Reference;)Z"⟩
def RX4 : String := "ReferenceMover$LinesPutIn"
def TX4 : u_T := fun k => match k with
  | 0 => ("ReferenceMover$LineChange", "home", "I", true)
  | 1 => ("ReferenceMover$LineChange", "sheet", "I", true)
  | 2 => ("ReferenceMover$LineChange", "columns", "Z", true)
  | 3 => ("ReferenceMover$LineChange", "at", "I", true)
  | _ => ("ReferenceMover$LineChange", "n", "I", true)
def tyX4 : Nat → FieldType := fun k => match k with
  | 0 => .int
  | 1 => .int
  | 2 => .boolean
  | 3 => .int
  | _ => .int
abbrev wsX40 : List Cond := u_ws RX4 TX4 5
theorem nmX4 : ∀ a, a < 5 → ∀ b, b < 5 → a ≠ b → (TX4 a).2.1 ≠ (TX4 b).2.1 := by decide +kernel
theorem tyX4_ok : ∀ k, k < 5 → parseFieldDescriptor (TX4 k).2.2.1 = some (tyX4 k) := by decide +kernel
abbrev cX4_init : ByteArray := prog_6_method_1_code
def yX4_init : MethodName := ⟨RX4, "<init>", "(IIZII)V"⟩
abbrev cX4_keepsLines : ByteArray := prog_6_method_2_code
def yX4_keepsLines : MethodName := ⟨RX4, "keepsLines", "(LReferenceMover$Span;)Z"⟩
def RX5 : String := "ReferenceMover$LinesTakenOut"
def TX5 : u_T := fun k => match k with
  | 0 => ("ReferenceMover$LineChange", "home", "I", true)
  | 1 => ("ReferenceMover$LineChange", "sheet", "I", true)
  | 2 => ("ReferenceMover$LineChange", "columns", "Z", true)
  | 3 => ("ReferenceMover$LineChange", "at", "I", true)
  | _ => ("ReferenceMover$LineChange", "n", "I", true)
def tyX5 : Nat → FieldType := fun k => match k with
  | 0 => .int
  | 1 => .int
  | 2 => .boolean
  | 3 => .int
  | _ => .int
abbrev wsX50 : List Cond := u_ws RX5 TX5 5
theorem nmX5 : ∀ a, a < 5 → ∀ b, b < 5 → a ≠ b → (TX5 a).2.1 ≠ (TX5 b).2.1 := by decide +kernel
theorem tyX5_ok : ∀ k, k < 5 → parseFieldDescriptor (TX5 k).2.2.1 = some (tyX5 k) := by decide +kernel
abbrev cX5_init : ByteArray := prog_7_method_1_code
def yX5_init : MethodName := ⟨RX5, "<init>", "(IIZII)V"⟩
abbrev cX5_keepsLines : ByteArray := prog_7_method_2_code
def yX5_keepsLines : MethodName := ⟨RX5, "keepsLines", "(LReferenceMover$Span;)Z"⟩
def RX6 : String := "ReferenceMover$Moving"
def TX6 : u_T := fun k => match k with
  | 0 => ("ReferenceMover$Moving", "home", "I", true)
  | 1 => ("ReferenceMover$Moving", "newHome", "I", true)
  | 2 => ("ReferenceMover$Moving", "cut", "LReferenceMover$Area;", true)
  | _ => ("ReferenceMover$Moving", "target", "LReferenceMover$Area;", true)
def tyX6 : Nat → FieldType := fun k => match k with
  | 0 => .int
  | 1 => .int
  | 2 => .object "ReferenceMover$Area"
  | _ => .object "ReferenceMover$Area"
abbrev wsX60 : List Cond := u_ws RX6 TX6 4
theorem nmX6 : ∀ a, a < 4 → ∀ b, b < 4 → a ≠ b → (TX6 a).2.1 ≠ (TX6 b).2.1 := by decide +kernel
theorem tyX6_ok : ∀ k, k < 4 → parseFieldDescriptor (TX6 k).2.2.1 = some (tyX6 k) := by decide +kernel
abbrev cX6_init : ByteArray := prog_8_method_1_code
def yX6_init : MethodName := ⟨RX6, "<init>", "(IILReferenceMover$Area;LReferenceMover$Area;)V"⟩
abbrev cX6_keeps : ByteArray := prog_8_method_2_code
def yX6_keeps : MethodName := ⟨RX6, "keeps", "(LReferenceMover$Reference;)Z"⟩
def RX7 : String := "ReferenceMover$Reference"
def TX7 : u_T := fun k => match k with
  | 0 => ("ReferenceMover$Reference", "rows", "LReferenceMover$Span;", true)
  | 1 => ("ReferenceMover$Reference", "columns", "LReferenceMover$Span;", true)
  | 2 => ("ReferenceMover$Reference", "isRange", "Z", false)
  | 3 => ("ReferenceMover$Reference", "whole", "I", false)
  | _ => ("ReferenceMover$Reference", "sheet", "I", false)
def tyX7 : Nat → FieldType := fun k => match k with
  | 0 => .object "ReferenceMover$Span"
  | 1 => .object "ReferenceMover$Span"
  | 2 => .boolean
  | 3 => .int
  | _ => .int
abbrev wsX70 : List Cond := u_ws RX7 TX7 5
theorem nmX7 : ∀ a, a < 5 → ∀ b, b < 5 → a ≠ b → (TX7 a).2.1 ≠ (TX7 b).2.1 := by decide +kernel
theorem tyX7_ok : ∀ k, k < 5 → parseFieldDescriptor (TX7 k).2.2.1 = some (tyX7 k) := by decide +kernel
abbrev cX7_init : ByteArray := prog_9_method_1_code
def yX7_init : MethodName := ⟨RX7, "<init>", "()V"⟩
abbrev cX7_sheetSeenFrom : ByteArray := prog_9_method_2_code
def yX7_sheetSeenFrom : MethodName := ⟨RX7, "sheetSeenFrom", "(I)I"⟩
abbrev cX7_wordAt : ByteArray := prog_9_method_3_code
def yX7_wordAt : MethodName := ⟨RX7, "wordAt", "(I)I"⟩
abbrev cX7_firstMarks : ByteArray := prog_9_method_4_code
def yX7_firstMarks : MethodName := ⟨RX7, "firstMarks", "()I"⟩
abbrev cX7_rangeMarks : ByteArray := prog_9_method_5_code
def yX7_rangeMarks : MethodName := ⟨RX7, "rangeMarks", "()I"⟩
abbrev cX7_cornerMarks : ByteArray := prog_9_method_6_code
def yX7_cornerMarks : MethodName := ⟨RX7, "cornerMarks", "(ZZ)I"⟩
def RX8 : String := "ReferenceMover$Span"
def TX8 : u_T := fun k => match k with
  | 0 => ("ReferenceMover$Span", "lastLine", "I", true)
  | 1 => ("ReferenceMover$Span", "first", "I", false)
  | 2 => ("ReferenceMover$Span", "last", "I", false)
  | 3 => ("ReferenceMover$Span", "firstFixed", "Z", false)
  | _ => ("ReferenceMover$Span", "lastFixed", "Z", false)
def tyX8 : Nat → FieldType := fun k => match k with
  | 0 => .int
  | 1 => .int
  | 2 => .int
  | 3 => .boolean
  | _ => .boolean
abbrev wsX80 : List Cond := u_ws RX8 TX8 5
theorem nmX8 : ∀ a, a < 5 → ∀ b, b < 5 → a ≠ b → (TX8 a).2.1 ≠ (TX8 b).2.1 := by decide +kernel
theorem tyX8_ok : ∀ k, k < 5 → parseFieldDescriptor (TX8 k).2.2.1 = some (tyX8 k) := by decide +kernel
abbrev cX8_init : ByteArray := prog_10_method_1_code
def yX8_init : MethodName := ⟨RX8, "<init>", "(I)V"⟩
abbrev cX8_setFirst : ByteArray := prog_10_method_2_code
def yX8_setFirst : MethodName := ⟨RX8, "setFirst", "(IZ)V"⟩
abbrev cX8_setLast : ByteArray := prog_10_method_3_code
def yX8_setLast : MethodName := ⟨RX8, "setLast", "(IZ)V"⟩
abbrev cX8_isWithin : ByteArray := prog_10_method_4_code
def yX8_isWithin : MethodName := ⟨RX8, "isWithin", "(II)Z"⟩
abbrev cX8_shift : ByteArray := prog_10_method_5_code
def yX8_shift : MethodName := ⟨RX8, "shift", "(I)V"⟩
abbrev cX8_shiftLoose : ByteArray := prog_10_method_6_code
def yX8_shiftLoose : MethodName := ⟨RX8, "shiftLoose", "(I)Z"⟩
abbrev cX8_exchange : ByteArray := prog_10_method_7_code
def yX8_exchange : MethodName := ⟨RX8, "exchange", "()V"⟩
abbrev cX8_openGap : ByteArray := prog_10_method_8_code
def yX8_openGap : MethodName := ⟨RX8, "openGap", "(II)Z"⟩
abbrev cX8_closeGap : ByteArray := prog_10_method_9_code
def yX8_closeGap : MethodName := ⟨RX8, "closeGap", "(II)Z"⟩
def RX9 : String := "ReferenceMover"
def TX9 : u_T := fun k => match k with
  | 0 => ("ReferenceMover", "code", "[I", true)
  | 1 => ("ReferenceMover", "size", "I", false)
  | 2 => ("ReferenceMover", "cut", "LReferenceMover$Area;", false)
  | _ => ("ReferenceMover", "reference", "LReferenceMover$Reference;", true)
def tyX9 : Nat → FieldType := fun k => match k with
  | 0 => .array .int
  | 1 => .int
  | 2 => .object "ReferenceMover$Area"
  | _ => .object "ReferenceMover$Reference"
abbrev wsX90 : List Cond := u_ws RX9 TX9 4
theorem nmX9 : ∀ a, a < 4 → ∀ b, b < 4 → a ≠ b → (TX9 a).2.1 ≠ (TX9 b).2.1 := by decide +kernel
theorem tyX9_ok : ∀ k, k < 4 → parseFieldDescriptor (TX9 k).2.2.1 = some (tyX9 k) := by decide +kernel
abbrev cX9_init : ByteArray := prog_1_method_1_code
def yX9_init : MethodName := ⟨RX9, "<init>", "()V"⟩
abbrev cX9_clear : ByteArray := prog_1_method_2_code
def yX9_clear : MethodName := ⟨RX9, "clear", "()V"⟩
abbrev cX9_other : ByteArray := prog_1_method_3_code
def yX9_other : MethodName := ⟨RX9, "other", "(I)Z"⟩
abbrev cX9_place : ByteArray := prog_1_method_4_code
def yX9_place : MethodName := ⟨RX9, "place", "(IIII)Z"⟩
abbrev cX9_range : ByteArray := prog_1_method_5_code
def yX9_range : MethodName := ⟨RX9, "range", "(IIIIII)Z"⟩
abbrev cX9_size : ByteArray := prog_1_method_6_code
def yX9_size : MethodName := ⟨RX9, "size", "()I"⟩
abbrev cX9_word : ByteArray := prog_1_method_7_code
def yX9_word : MethodName := ⟨RX9, "word", "(I)I"⟩
abbrev cX9_copy : ByteArray := prog_1_method_8_code
def yX9_copy : MethodName := ⟨RX9, "copy", "(II)I"⟩
abbrev cX9_insert : ByteArray := prog_1_method_9_code
def yX9_insert : MethodName := ⟨RX9, "insert", "(IIZII)I"⟩
abbrev cX9_delete : ByteArray := prog_1_method_10_code
def yX9_delete : MethodName := ⟨RX9, "delete", "(IIZII)I"⟩
abbrev cX9_rectangle : ByteArray := prog_1_method_11_code
def yX9_rectangle : MethodName := ⟨RX9, "rectangle", "(IIIII)Z"⟩
abbrev cX9_move : ByteArray := prog_1_method_12_code
def yX9_move : MethodName := ⟨RX9, "move", "(IIIII)I"⟩
abbrev cX9_isSheet : ByteArray := prog_1_method_13_code
def yX9_isSheet : MethodName := ⟨RX9, "isSheet", "(I)Z"⟩
abbrev cX9_isSheetOrNone : ByteArray := prog_1_method_14_code
def yX9_isSheetOrNone : MethodName := ⟨RX9, "isSheetOrNone", "(I)Z"⟩
abbrev cX9_isLine : ByteArray := prog_1_method_15_code
def yX9_isLine : MethodName := ⟨RX9, "isLine", "(II)Z"⟩
abbrev cX9_areLines : ByteArray := prog_1_method_16_code
def yX9_areLines : MethodName := ⟨RX9, "areLines", "(III)Z"⟩
abbrev cX9_areAllLines : ByteArray := prog_1_method_17_code
def yX9_areAllLines : MethodName := ⟨RX9, "areAllLines", "(III)Z"⟩
abbrev cX9_has : ByteArray := prog_1_method_18_code
def yX9_has : MethodName := ⟨RX9, "has", "(II)Z"⟩
abbrev cX9_isOfKind : ByteArray := prog_1_method_19_code
def yX9_isOfKind : MethodName := ⟨RX9, "isOfKind", "(II)Z"⟩
abbrev cX9_checkLines : ByteArray := prog_1_method_20_code
def yX9_checkLines : MethodName := ⟨RX9, "checkLines", "(IIZII)V"⟩
abbrev cX9_hasRoomFor : ByteArray := prog_1_method_21_code
def yX9_hasRoomFor : MethodName := ⟨RX9, "hasRoomFor", "(I)Z"⟩
abbrev cX9_append : ByteArray := prog_1_method_22_code
def yX9_append : MethodName := ⟨RX9, "append", "(I)V"⟩
abbrev cX9_put : ByteArray := prog_1_method_23_code
def yX9_put : MethodName := ⟨RX9, "put", "(II)V"⟩
abbrev cX9_changeReferences : ByteArray := prog_1_method_24_code
def yX9_changeReferences : MethodName := ⟨RX9, "changeReferences", "(LReferenceMover$Change;)I"⟩
abbrev cX9_itemLength : ByteArray := prog_1_method_25_code
def yX9_itemLength : MethodName := ⟨RX9, "itemLength", "(I)I"⟩
abbrev cX9_load : ByteArray := prog_1_method_26_code
def yX9_load : MethodName := ⟨RX9, "load", "(II)V"⟩
abbrev cX9_store : ByteArray := prog_1_method_27_code
def yX9_store : MethodName := ⟨RX9, "store", "(III)Z"⟩
def RX10 : String := "ReferenceMoverModel"
def TX10 : u_T := fun k => match k with
  | 0 => ("ReferenceMoverModel", "code", "I", false)
  | 1 => ("ReferenceMoverModel", "size", "I", false)
  | 2 => ("ReferenceMoverModel", "words", "[I", true)
  | 3 => ("ReferenceMoverModel", "made", "I", false)
  | 4 => ("ReferenceMoverModel", "making", "[I", true)
  | 5 => ("ReferenceMoverModel", "changed", "I", false)
  | 6 => ("ReferenceMoverModel", "sheet", "I", false)
  | 7 => ("ReferenceMoverModel", "top", "I", false)
  | 8 => ("ReferenceMoverModel", "left", "I", false)
  | 9 => ("ReferenceMoverModel", "bottom", "I", false)
  | _ => ("ReferenceMoverModel", "right", "I", false)
def tyX10 : Nat → FieldType := fun k => match k with
  | 0 => .int
  | 1 => .int
  | 2 => .array .int
  | 3 => .int
  | 4 => .array .int
  | 5 => .int
  | 6 => .int
  | 7 => .int
  | 8 => .int
  | 9 => .int
  | _ => .int
abbrev wsX100 : List Cond := u_ws RX10 TX10 11
theorem nmX10 : ∀ a, a < 11 → ∀ b, b < 11 → a ≠ b → (TX10 a).2.1 ≠ (TX10 b).2.1 := by decide +kernel
theorem tyX10_ok : ∀ k, k < 11 → parseFieldDescriptor (TX10 k).2.2.1 = some (tyX10 k) := by decide +kernel
abbrev cX10_init : ByteArray := prog_12_method_1_code
def yX10_init : MethodName := ⟨RX10, "<init>", "()V"⟩
abbrev cX10_thrown : ByteArray := prog_12_method_2_code
def yX10_thrown : MethodName := ⟨RX10, "thrown", "()I"⟩
abbrev cX10_within : ByteArray := prog_12_method_3_code
def yX10_within : MethodName := ⟨RX10, "within", "(III)Z"⟩
abbrev cX10_clear : ByteArray := prog_12_method_4_code
def yX10_clear : MethodName := ⟨RX10, "clear", "()V"⟩
abbrev cX10_put : ByteArray := prog_12_method_5_code
def yX10_put : MethodName := ⟨RX10, "put", "(I)V"⟩
abbrev cX10_other : ByteArray := prog_12_method_6_code
def yX10_other : MethodName := ⟨RX10, "other", "(I)Z"⟩
abbrev cX10_isCell : ByteArray := prog_12_method_7_code
def yX10_isCell : MethodName := ⟨RX10, "isCell", "(II)Z"⟩
abbrev cX10_place : ByteArray := prog_12_method_8_code
def yX10_place : MethodName := ⟨RX10, "place", "(IIII)Z"⟩
abbrev cX10_range : ByteArray := prog_12_method_9_code
def yX10_range : MethodName := ⟨RX10, "range", "(IIIIII)Z"⟩
abbrev cX10_size : ByteArray := prog_12_method_10_code
def yX10_size : MethodName := ⟨RX10, "size", "()I"⟩
abbrev cX10_word : ByteArray := prog_12_method_11_code
def yX10_word : MethodName := ⟨RX10, "word", "(I)I"⟩
abbrev cX10_make : ByteArray := prog_12_method_12_code
def yX10_make : MethodName := ⟨RX10, "make", "(I)V"⟩
abbrev cX10_lengthAt : ByteArray := prog_12_method_13_code
def yX10_lengthAt : MethodName := ⟨RX10, "lengthAt", "(I)I"⟩
abbrev cX10_lose : ByteArray := prog_12_method_14_code
def yX10_lose : MethodName := ⟨RX10, "lose", "()V"⟩
abbrev cX10_makePlace : ByteArray := prog_12_method_15_code
def yX10_makePlace : MethodName := ⟨RX10, "makePlace", "(IIII)V"⟩
abbrev cX10_makeRange : ByteArray := prog_12_method_16_code
def yX10_makeRange : MethodName := ⟨RX10, "makeRange", "(IIIIIII)V"⟩
abbrev cX10_finish : ByteArray := prog_12_method_17_code
def yX10_finish : MethodName := ⟨RX10, "finish", "()I"⟩
abbrev cX10_begin : ByteArray := prog_12_method_18_code
def yX10_begin : MethodName := ⟨RX10, "begin", "()V"⟩
abbrev cX10_moved : ByteArray := prog_12_method_19_code
def yX10_moved : MethodName := ⟨RX10, "moved", "(IZII)I"⟩
abbrev cX10_copyRange : ByteArray := prog_12_method_20_code
def yX10_copyRange : MethodName := ⟨RX10, "copyRange", "(III)V"⟩
abbrev cX10_copy : ByteArray := prog_12_method_21_code
def yX10_copy : MethodName := ⟨RX10, "copy", "(II)I"⟩
abbrev cX10_lines : ByteArray := prog_12_method_22_code
def yX10_lines : MethodName := ⟨RX10, "lines", "(Z)I"⟩
abbrev cX10_shifted : ByteArray := prog_12_method_23_code
def yX10_shifted : MethodName := ⟨RX10, "shifted", "(IZII)I"⟩
abbrev cX10_firstLeft : ByteArray := prog_12_method_24_code
def yX10_firstLeft : MethodName := ⟨RX10, "firstLeft", "(IIZII)I"⟩
abbrev cX10_lastLeft : ByteArray := prog_12_method_25_code
def yX10_lastLeft : MethodName := ⟨RX10, "lastLeft", "(IIZII)I"⟩
abbrev cX10_shiftRange : ByteArray := prog_12_method_26_code
def yX10_shiftRange : MethodName := ⟨RX10, "shiftRange", "(IZII)V"⟩
abbrev cX10_shift : ByteArray := prog_12_method_27_code
def yX10_shift : MethodName := ⟨RX10, "shift", "(IIZII)I"⟩
abbrev cX10_isLine : ByteArray := prog_12_method_28_code
def yX10_isLine : MethodName := ⟨RX10, "isLine", "(IIZII)Z"⟩
abbrev cX10_insert : ByteArray := prog_12_method_29_code
def yX10_insert : MethodName := ⟨RX10, "insert", "(IIZII)I"⟩
abbrev cX10_delete : ByteArray := prog_12_method_30_code
def yX10_delete : MethodName := ⟨RX10, "delete", "(IIZII)I"⟩
abbrev cX10_rectangle : ByteArray := prog_12_method_31_code
def yX10_rectangle : MethodName := ⟨RX10, "rectangle", "(IIIII)Z"⟩
abbrev cX10_moveItem : ByteArray := prog_12_method_32_code
def yX10_moveItem : MethodName := ⟨RX10, "moveItem", "(IIIIII)V"⟩
abbrev cX10_move : ByteArray := prog_12_method_33_code
def yX10_move : MethodName := ⟨RX10, "move", "(IIIII)I"⟩
def RJ9 : String := "java/lang/Math"
def TJ9 : u_T := fun k => match k with
  | _ => ("", "", "", false)
def tyJ9 : Nat → FieldType := fun k => match k with
  | _ => .int
abbrev wsJ90 : List Cond := u_ws RJ9 TJ9 0
theorem nmJ9 : ∀ a, a < 0 → ∀ b, b < 0 → a ≠ b → (TJ9 a).2.1 ≠ (TJ9 b).2.1 := by decide +kernel
theorem tyJ9_ok : ∀ k, k < 0 → parseFieldDescriptor (TJ9 k).2.2.1 = some (tyJ9 k) := by decide +kernel
abbrev cJ9_min_7cf53 : ByteArray := prog_15_method_69_code
def yJ9_min_7cf53 : MethodName := ⟨RJ9, "min", "(II)I"⟩
def RJ0 : String := "java/lang/String"
def TJ0 : u_T := fun k => match k with
  | _ => ("", "", "", false)
def tyJ0 : Nat → FieldType := fun k => match k with
  | _ => .int
abbrev wsJ00 : List Cond := u_ws RJ0 TJ0 0
theorem nmJ0 : ∀ a, a < 0 → ∀ b, b < 0 → a ≠ b → (TJ0 a).2.1 ≠ (TJ0 b).2.1 := by decide +kernel
theorem tyJ0_ok : ∀ k, k < 0 → parseFieldDescriptor (TJ0 k).2.2.1 = some (tyJ0 k) := by decide +kernel
def RL : String := "ReferenceMoverLaw"
def wsX0_init : List Cond := .code yX0_init cX0_init 6 none :: ([.methodLink RX0 1 objectInit, .instanceMethod objectInit, .code objectInit ⟨#[0xb1]⟩ 1 none, .fieldLink RX0 7 "ReferenceMover$Area" "sheet" "I", .fieldLink RX0 13 "ReferenceMover$Area" "top" "I", .fieldLink RX0 16 "ReferenceMover$Area" "left" "I", .fieldLink RX0 19 "ReferenceMover$Area" "bottom" "I", .fieldLink RX0 22 "ReferenceMover$Area" "right" "I"] ++ wsX00)
def wsX7_sheetSeenFrom : List Cond := .code yX7_sheetSeenFrom cX7_sheetSeenFrom 2 (some .int) :: ([.fieldLink RX7 24 "ReferenceMover$Reference" "sheet" "I"] ++ wsX70)
def wsX8_isWithin : List Cond := .code yX8_isWithin cX8_isWithin 3 (some .boolean) :: ([.fieldLink RX8 13 "ReferenceMover$Span" "first" "I", .fieldLink RX8 20 "ReferenceMover$Span" "last" "I"] ++ wsX80)
def wsX0_holds : List Cond := .code yX0_holds cX0_holds 3 (some .boolean) :: ([.fieldLink RX0 7 "ReferenceMover$Area" "sheet" "I", .fieldLink RX0 31 "ReferenceMover$Reference" "rows" "LReferenceMover$Span;", .fieldLink RX0 13 "ReferenceMover$Area" "top" "I", .fieldLink RX0 19 "ReferenceMover$Area" "bottom" "I", .fieldLink RX0 41 "ReferenceMover$Reference" "columns" "LReferenceMover$Span;", .fieldLink RX0 16 "ReferenceMover$Area" "left" "I", .fieldLink RX0 22 "ReferenceMover$Area" "right" "I", .methodLink RX0 25 yX7_sheetSeenFrom, .instanceMethod yX7_sheetSeenFrom, .selects RX7 yX7_sheetSeenFrom yX7_sheetSeenFrom, .initialized RX7, .code yX7_sheetSeenFrom cX7_sheetSeenFrom 2 (some .int), .fieldLink RX7 24 "ReferenceMover$Reference" "sheet" "I", .methodLink RX0 35 yX8_isWithin, .instanceMethod yX8_isWithin, .selects RX8 yX8_isWithin yX8_isWithin, .initialized RX8, .code yX8_isWithin cX8_isWithin 3 (some .boolean), .fieldLink RX8 13 "ReferenceMover$Span" "first" "I", .fieldLink RX8 20 "ReferenceMover$Span" "last" "I"] ++ wsX00 ++ wsX70 ++ wsX80)
def wsX1_init : List Cond := .code yX1_init cX1_init 1 none :: ([.methodLink RX1 1 objectInit, .instanceMethod objectInit, .code objectInit ⟨#[0xb1]⟩ 1 none])
def wsX2_init : List Cond := .code yX2_init cX2_init 3 none :: ([.fieldLink RX2 9 "ReferenceMover$Copying" "down" "I", .fieldLink RX2 15 "ReferenceMover$Copying" "along" "I", .instanceMethod yX1_init, .initialized RX1, .code yX1_init cX1_init 1 none, .methodLink RX1 1 objectInit, .instanceMethod objectInit, .code objectInit ⟨#[0xb1]⟩ 1 none] ++ wsX20)
def wsX9_has : List Cond := .code yX9_has cX9_has 2 (some .boolean) :: ([])
def wsX9_isLine : List Cond := .code yX9_isLine cX9_isLine 2 (some .boolean) :: ([])
def wsX8_setFirst : List Cond := .code yX8_setFirst cX8_setFirst 3 none :: ([.fieldLink RX8 13 "ReferenceMover$Span" "first" "I", .fieldLink RX8 16 "ReferenceMover$Span" "firstFixed" "Z"] ++ wsX80)
def wsX8_setLast : List Cond := .code yX8_setLast cX8_setLast 3 none :: ([.fieldLink RX8 20 "ReferenceMover$Span" "last" "I", .fieldLink RX8 23 "ReferenceMover$Span" "lastFixed" "Z"] ++ wsX80)
def wsX8_exchange : List Cond := .code yX8_exchange cX8_exchange 3 none :: ([.fieldLink RX8 13 "ReferenceMover$Span" "first" "I", .fieldLink RX8 16 "ReferenceMover$Span" "firstFixed" "Z", .fieldLink RX8 20 "ReferenceMover$Span" "last" "I", .fieldLink RX8 23 "ReferenceMover$Span" "lastFixed" "Z", .methodLink RX8 35 yX8_setFirst, .instanceMethod yX8_setFirst, .selects RX8 yX8_setFirst yX8_setFirst, .initialized RX8, .code yX8_setFirst cX8_setFirst 3 none, .methodLink RX8 39 yX8_setLast, .instanceMethod yX8_setLast, .selects RX8 yX8_setLast yX8_setLast, .code yX8_setLast cX8_setLast 3 none] ++ wsX80)
def wsX8_shiftLoose : List Cond := .code yX8_shiftLoose cX8_shiftLoose 2 (some .boolean) :: ([.fieldLink RX8 16 "ReferenceMover$Span" "firstFixed" "Z", .fieldLink RX8 13 "ReferenceMover$Span" "first" "I", .fieldLink RX8 23 "ReferenceMover$Span" "lastFixed" "Z", .fieldLink RX8 20 "ReferenceMover$Span" "last" "I", .fieldLink RX8 7 "ReferenceMover$Span" "lastLine" "I", .static yX9_isLine, .initialized RX9, .code yX9_isLine cX9_isLine 2 (some .boolean), .methodLink RX8 32 yX8_exchange, .instanceMethod yX8_exchange, .selects RX8 yX8_exchange yX8_exchange, .initialized RX8, .code yX8_exchange cX8_exchange 3 none, .methodLink RX8 35 yX8_setFirst, .instanceMethod yX8_setFirst, .selects RX8 yX8_setFirst yX8_setFirst, .code yX8_setFirst cX8_setFirst 3 none, .methodLink RX8 39 yX8_setLast, .instanceMethod yX8_setLast, .selects RX8 yX8_setLast yX8_setLast, .code yX8_setLast cX8_setLast 3 none] ++ wsX80)
def wsX2_keeps_r1 : List Cond := [Cond.fieldLink RX2 18 "ReferenceMover$Reference" "whole" "I", Cond.fieldLink RX2 27 "ReferenceMover$Reference" "rows" "LReferenceMover$Span;", Cond.fieldLink RX2 9 "ReferenceMover$Copying" "down" "I", Cond.fieldLink RX2 37 "ReferenceMover$Reference" "columns" "LReferenceMover$Span;", Cond.fieldLink RX2 15 "ReferenceMover$Copying" "along" "I", Cond.static yX9_has, Cond.initialized RX9, Cond.code yX9_has cX9_has 2 (some .boolean), Cond.methodLink RX2 31 yX8_shiftLoose, Cond.instanceMethod yX8_shiftLoose, Cond.selects RX8 yX8_shiftLoose yX8_shiftLoose, Cond.initialized RX8, Cond.code yX8_shiftLoose cX8_shiftLoose 2 (some .boolean), Cond.fieldLink RX8 16 "ReferenceMover$Span" "firstFixed" "Z", Cond.fieldLink RX8 13 "ReferenceMover$Span" "first" "I", Cond.fieldLink RX8 23 "ReferenceMover$Span" "lastFixed" "Z", Cond.fieldLink RX8 20 "ReferenceMover$Span" "last" "I", Cond.fieldLink RX8 7 "ReferenceMover$Span" "lastLine" "I", Cond.static yX9_isLine, Cond.code yX9_isLine cX9_isLine 2 (some .boolean), Cond.methodLink RX8 32 yX8_exchange, Cond.instanceMethod yX8_exchange, Cond.selects RX8 yX8_exchange yX8_exchange, Cond.code yX8_exchange cX8_exchange 3 none]
def wsX2_keeps_r2 : List Cond := [Cond.methodLink RX8 35 yX8_setFirst, Cond.instanceMethod yX8_setFirst, Cond.selects RX8 yX8_setFirst yX8_setFirst, Cond.code yX8_setFirst cX8_setFirst 3 none, Cond.methodLink RX8 39 yX8_setLast, Cond.instanceMethod yX8_setLast, Cond.selects RX8 yX8_setLast yX8_setLast, Cond.code yX8_setLast cX8_setLast 3 none]
def wsX2_keeps : List Cond := .code yX2_keeps cX2_keeps 2 (some .boolean) :: ((wsX2_keeps_r1 ++ wsX2_keeps_r2) ++ wsX70 ++ wsX20 ++ wsX80)
def wsX3_init : List Cond := .code yX3_init cX3_init 6 none :: ([.fieldLink RX3 7 "ReferenceMover$LineChange" "home" "I", .fieldLink RX3 13 "ReferenceMover$LineChange" "sheet" "I", .fieldLink RX3 16 "ReferenceMover$LineChange" "columns" "Z", .fieldLink RX3 20 "ReferenceMover$LineChange" "at" "I", .fieldLink RX3 23 "ReferenceMover$LineChange" "n" "I", .instanceMethod yX1_init, .initialized RX1, .code yX1_init cX1_init 1 none, .methodLink RX1 1 objectInit, .instanceMethod objectInit, .code objectInit ⟨#[0xb1]⟩ 1 none] ++ wsX40 ++ wsX50)
def wsX9_areAllLines : List Cond := .code yX9_areAllLines cX9_areAllLines 3 (some .boolean) :: ([])
def wsX8_openGap : List Cond := .code yX8_openGap cX8_openGap 3 (some .boolean) :: ([.fieldLink RX8 13 "ReferenceMover$Span" "first" "I", .fieldLink RX8 20 "ReferenceMover$Span" "last" "I", .fieldLink RX8 7 "ReferenceMover$Span" "lastLine" "I", .methodLink RX8 46 Lib.Math.min.name, .static Lib.Math.min.name, .initialized "java/lang/Math", .code Lib.Math.min.name Lib.Math.min.code 2 (some .int), .static yX9_areAllLines, .initialized RX9, .code yX9_areAllLines cX9_areAllLines 3 (some .boolean)] ++ wsX80)
def wsX4_keepsLines : List Cond := .code yX4_keepsLines cX4_keepsLines 2 (some .boolean) :: ([.fieldLink RX4 7 "ReferenceMover$LinesPutIn" "at" "I", .sameField "ReferenceMover$LinesPutIn" "ReferenceMover$LineChange" "at" "I", .fieldLink RX4 13 "ReferenceMover$LinesPutIn" "n" "I", .sameField "ReferenceMover$LinesPutIn" "ReferenceMover$LineChange" "n" "I", .methodLink RX4 16 yX8_openGap, .instanceMethod yX8_openGap, .selects RX8 yX8_openGap yX8_openGap, .initialized RX8, .code yX8_openGap cX8_openGap 3 (some .boolean), .fieldLink RX8 13 "ReferenceMover$Span" "first" "I", .fieldLink RX8 20 "ReferenceMover$Span" "last" "I", .fieldLink RX8 7 "ReferenceMover$Span" "lastLine" "I", .methodLink RX8 46 Lib.Math.min.name, .static Lib.Math.min.name, .initialized "java/lang/Math", .code Lib.Math.min.name Lib.Math.min.code 2 (some .int), .static yX9_areAllLines, .initialized RX9, .code yX9_areAllLines cX9_areAllLines 3 (some .boolean)] ++ wsX40 ++ wsX50 ++ wsX80)
def wsX8_closeGap : List Cond := .code yX8_closeGap cX8_closeGap 4 (some .boolean) :: ([.fieldLink RX8 13 "ReferenceMover$Span" "first" "I", .fieldLink RX8 20 "ReferenceMover$Span" "last" "I", .fieldLink RX8 7 "ReferenceMover$Span" "lastLine" "I", .static yX9_areAllLines, .initialized RX9, .code yX9_areAllLines cX9_areAllLines 3 (some .boolean)] ++ wsX80)
def wsX5_keepsLines : List Cond := .code yX5_keepsLines cX5_keepsLines 2 (some .boolean) :: ([.fieldLink RX5 7 "ReferenceMover$LinesTakenOut" "at" "I", .sameField "ReferenceMover$LinesTakenOut" "ReferenceMover$LineChange" "at" "I", .fieldLink RX5 13 "ReferenceMover$LinesTakenOut" "n" "I", .sameField "ReferenceMover$LinesTakenOut" "ReferenceMover$LineChange" "n" "I", .methodLink RX5 16 yX8_closeGap, .instanceMethod yX8_closeGap, .selects RX8 yX8_closeGap yX8_closeGap, .initialized RX8, .code yX8_closeGap cX8_closeGap 4 (some .boolean), .fieldLink RX8 13 "ReferenceMover$Span" "first" "I", .fieldLink RX8 20 "ReferenceMover$Span" "last" "I", .fieldLink RX8 7 "ReferenceMover$Span" "lastLine" "I", .static yX9_areAllLines, .initialized RX9, .code yX9_areAllLines cX9_areAllLines 3 (some .boolean)] ++ wsX40 ++ wsX50 ++ wsX80)
def wsX3_keeps_r1 : List Cond := [Cond.fieldLink RX3 7 "ReferenceMover$LineChange" "home" "I", Cond.fieldLink RX3 13 "ReferenceMover$LineChange" "sheet" "I", Cond.fieldLink RX3 16 "ReferenceMover$LineChange" "columns" "Z", Cond.fieldLink RX3 32 "ReferenceMover$Reference" "columns" "LReferenceMover$Span;", Cond.fieldLink RX3 35 "ReferenceMover$Reference" "rows" "LReferenceMover$Span;", Cond.methodLink RX3 26 yX7_sheetSeenFrom, Cond.instanceMethod yX7_sheetSeenFrom, Cond.selects RX7 yX7_sheetSeenFrom yX7_sheetSeenFrom, Cond.initialized RX7, Cond.code yX7_sheetSeenFrom cX7_sheetSeenFrom 2 (some .int), Cond.fieldLink RX7 24 "ReferenceMover$Reference" "sheet" "I", Cond.methodLink RX3 38 ⟨"ReferenceMover$LineChange", "keepsLines", "(LReferenceMover$Span;)Z"⟩, Cond.sameMethod "ReferenceMover$LineChange" "ReferenceMover$LineChange" "keepsLines" "(LReferenceMover$Span;)Z", Cond.selects RX4 ⟨"ReferenceMover$LineChange", "keepsLines", "(LReferenceMover$Span;)Z"⟩ yX4_keepsLines, Cond.instanceMethod yX4_keepsLines, Cond.initialized RX4, Cond.code yX4_keepsLines cX4_keepsLines 2 (some .boolean), Cond.fieldLink RX4 7 "ReferenceMover$LinesPutIn" "at" "I", Cond.sameField "ReferenceMover$LinesPutIn" "ReferenceMover$LineChange" "at" "I", Cond.fieldLink RX4 13 "ReferenceMover$LinesPutIn" "n" "I", Cond.sameField "ReferenceMover$LinesPutIn" "ReferenceMover$LineChange" "n" "I", Cond.methodLink RX4 16 yX8_openGap, Cond.instanceMethod yX8_openGap, Cond.selects RX8 yX8_openGap yX8_openGap]
def wsX3_keeps_r2 : List Cond := [Cond.initialized RX8, Cond.code yX8_openGap cX8_openGap 3 (some .boolean), Cond.fieldLink RX8 13 "ReferenceMover$Span" "first" "I", Cond.fieldLink RX8 20 "ReferenceMover$Span" "last" "I", Cond.fieldLink RX8 7 "ReferenceMover$Span" "lastLine" "I", Cond.methodLink RX8 46 Lib.Math.min.name, Cond.static Lib.Math.min.name, Cond.initialized "java/lang/Math", Cond.code Lib.Math.min.name Lib.Math.min.code 2 (some .int), Cond.static yX9_areAllLines, Cond.initialized RX9, Cond.code yX9_areAllLines cX9_areAllLines 3 (some .boolean), Cond.selects RX5 ⟨"ReferenceMover$LineChange", "keepsLines", "(LReferenceMover$Span;)Z"⟩ yX5_keepsLines, Cond.instanceMethod yX5_keepsLines, Cond.initialized RX5, Cond.code yX5_keepsLines cX5_keepsLines 2 (some .boolean), Cond.fieldLink RX5 7 "ReferenceMover$LinesTakenOut" "at" "I", Cond.sameField "ReferenceMover$LinesTakenOut" "ReferenceMover$LineChange" "at" "I", Cond.fieldLink RX5 13 "ReferenceMover$LinesTakenOut" "n" "I", Cond.sameField "ReferenceMover$LinesTakenOut" "ReferenceMover$LineChange" "n" "I", Cond.methodLink RX5 16 yX8_closeGap, Cond.instanceMethod yX8_closeGap, Cond.selects RX8 yX8_closeGap yX8_closeGap, Cond.code yX8_closeGap cX8_closeGap 4 (some .boolean)]
def wsX3_keeps : List Cond := .code yX3_keeps cX3_keeps 2 (some .boolean) :: ((wsX3_keeps_r1 ++ wsX3_keeps_r2) ++ wsX40 ++ wsX50 ++ wsX70 ++ wsX80)
def wsX4_init : List Cond := .code yX4_init cX4_init 6 none :: ([.methodLink RX4 1 yX3_init, .instanceMethod yX3_init, .initialized RX3, .code yX3_init cX3_init 6 none, .fieldLink RX3 7 "ReferenceMover$LineChange" "home" "I", .fieldLink RX3 13 "ReferenceMover$LineChange" "sheet" "I", .fieldLink RX3 16 "ReferenceMover$LineChange" "columns" "Z", .fieldLink RX3 20 "ReferenceMover$LineChange" "at" "I", .fieldLink RX3 23 "ReferenceMover$LineChange" "n" "I", .instanceMethod yX1_init, .initialized RX1, .code yX1_init cX1_init 1 none, .methodLink RX1 1 objectInit, .instanceMethod objectInit, .code objectInit ⟨#[0xb1]⟩ 1 none] ++ wsX40 ++ wsX50)
def wsX5_init : List Cond := .code yX5_init cX5_init 6 none :: ([.methodLink RX5 1 yX3_init, .instanceMethod yX3_init, .initialized RX3, .code yX3_init cX3_init 6 none, .fieldLink RX3 7 "ReferenceMover$LineChange" "home" "I", .fieldLink RX3 13 "ReferenceMover$LineChange" "sheet" "I", .fieldLink RX3 16 "ReferenceMover$LineChange" "columns" "Z", .fieldLink RX3 20 "ReferenceMover$LineChange" "at" "I", .fieldLink RX3 23 "ReferenceMover$LineChange" "n" "I", .instanceMethod yX1_init, .initialized RX1, .code yX1_init cX1_init 1 none, .methodLink RX1 1 objectInit, .instanceMethod objectInit, .code objectInit ⟨#[0xb1]⟩ 1 none] ++ wsX40 ++ wsX50)
def wsX6_init : List Cond := .code yX6_init cX6_init 5 none :: ([.fieldLink RX6 9 "ReferenceMover$Moving" "home" "I", .fieldLink RX6 15 "ReferenceMover$Moving" "newHome" "I", .fieldLink RX6 18 "ReferenceMover$Moving" "cut" "LReferenceMover$Area;", .fieldLink RX6 22 "ReferenceMover$Moving" "target" "LReferenceMover$Area;", .instanceMethod yX1_init, .initialized RX1, .code yX1_init cX1_init 1 none, .methodLink RX1 1 objectInit, .instanceMethod objectInit, .code objectInit ⟨#[0xb1]⟩ 1 none] ++ wsX60)
def wsX8_shift : List Cond := .code yX8_shift cX8_shift 2 none :: ([.fieldLink RX8 13 "ReferenceMover$Span" "first" "I", .fieldLink RX8 20 "ReferenceMover$Span" "last" "I"] ++ wsX80)
def wsX6_keeps_r1 : List Cond := [Cond.fieldLink RX6 9 "ReferenceMover$Moving" "home" "I", Cond.fieldLink RX6 18 "ReferenceMover$Moving" "cut" "LReferenceMover$Area;", Cond.fieldLink RX6 37 "ReferenceMover$Reference" "rows" "LReferenceMover$Span;", Cond.fieldLink RX6 22 "ReferenceMover$Moving" "target" "LReferenceMover$Area;", Cond.fieldLink RX6 41 "ReferenceMover$Area" "top" "I", Cond.fieldLink RX6 50 "ReferenceMover$Reference" "columns" "LReferenceMover$Span;", Cond.fieldLink RX6 53 "ReferenceMover$Area" "left" "I", Cond.fieldLink RX6 56 "ReferenceMover$Area" "sheet" "I", Cond.fieldLink RX6 59 "ReferenceMover$Reference" "sheet" "I", Cond.fieldLink RX6 15 "ReferenceMover$Moving" "newHome" "I", Cond.methodLink RX6 25 yX7_sheetSeenFrom, Cond.instanceMethod yX7_sheetSeenFrom, Cond.selects RX7 yX7_sheetSeenFrom yX7_sheetSeenFrom, Cond.initialized RX7, Cond.code yX7_sheetSeenFrom cX7_sheetSeenFrom 2 (some .int), Cond.fieldLink RX7 24 "ReferenceMover$Reference" "sheet" "I", Cond.methodLink RX6 31 yX0_holds, Cond.instanceMethod yX0_holds, Cond.selects RX0 yX0_holds yX0_holds, Cond.initialized RX0, Cond.code yX0_holds cX0_holds 3 (some .boolean), Cond.fieldLink RX0 7 "ReferenceMover$Area" "sheet" "I", Cond.fieldLink RX0 31 "ReferenceMover$Reference" "rows" "LReferenceMover$Span;", Cond.fieldLink RX0 13 "ReferenceMover$Area" "top" "I"]
def wsX6_keeps_r2 : List Cond := [Cond.fieldLink RX0 19 "ReferenceMover$Area" "bottom" "I", Cond.fieldLink RX0 41 "ReferenceMover$Reference" "columns" "LReferenceMover$Span;", Cond.fieldLink RX0 16 "ReferenceMover$Area" "left" "I", Cond.fieldLink RX0 22 "ReferenceMover$Area" "right" "I", Cond.methodLink RX0 25 yX7_sheetSeenFrom, Cond.methodLink RX0 35 yX8_isWithin, Cond.instanceMethod yX8_isWithin, Cond.selects RX8 yX8_isWithin yX8_isWithin, Cond.initialized RX8, Cond.code yX8_isWithin cX8_isWithin 3 (some .boolean), Cond.fieldLink RX8 13 "ReferenceMover$Span" "first" "I", Cond.fieldLink RX8 20 "ReferenceMover$Span" "last" "I", Cond.methodLink RX6 44 yX8_shift, Cond.instanceMethod yX8_shift, Cond.selects RX8 yX8_shift yX8_shift, Cond.code yX8_shift cX8_shift 2 none]
def wsX6_keeps : List Cond := .code yX6_keeps cX6_keeps 3 (some .boolean) :: ((wsX6_keeps_r1 ++ wsX6_keeps_r2) ++ wsX60 ++ wsX70 ++ wsX00 ++ wsX80)
def wsX8_init : List Cond := .code yX8_init cX8_init 2 none :: ([.methodLink RX8 1 objectInit, .instanceMethod objectInit, .code objectInit ⟨#[0xb1]⟩ 1 none, .fieldLink RX8 7 "ReferenceMover$Span" "lastLine" "I"] ++ wsX80)
def wsX7_init : List Cond := .code yX7_init cX7_init 1 none :: ([.methodLink RX7 3 objectInit, .instanceMethod objectInit, .code objectInit ⟨#[0xb1]⟩ 1 none, .classLink RX7 9 RX8, .instantiable RX8 5, .initialized RX8, .constant RX7 11 (1048576), .fieldLink RX7 15 "ReferenceMover$Reference" "rows" "LReferenceMover$Span;", .fieldLink RX7 21 "ReferenceMover$Reference" "columns" "LReferenceMover$Span;", .methodLink RX7 12 yX8_init, .instanceMethod yX8_init, .code yX8_init cX8_init 2 none, .methodLink RX8 1 objectInit, .fieldLink RX8 7 "ReferenceMover$Span" "lastLine" "I"] ++ wsX80 ++ wsX70)
def wsX7_cornerMarks : List Cond := .code yX7_cornerMarks cX7_cornerMarks 2 (some .int) :: ([])
def wsX7_firstMarks : List Cond := .code yX7_firstMarks cX7_firstMarks 1 (some .int) :: ([.fieldLink RX7 15 "ReferenceMover$Reference" "rows" "LReferenceMover$Span;", .fieldLink RX7 45 "ReferenceMover$Span" "firstFixed" "Z", .fieldLink RX7 21 "ReferenceMover$Reference" "columns" "LReferenceMover$Span;", .methodLink RX7 48 yX7_cornerMarks, .static yX7_cornerMarks, .initialized RX7, .code yX7_cornerMarks cX7_cornerMarks 2 (some .int)] ++ wsX70 ++ wsX80)
def wsX7_rangeMarks : List Cond := .code yX7_rangeMarks cX7_rangeMarks 2 (some .int) :: ([.fieldLink RX7 15 "ReferenceMover$Reference" "rows" "LReferenceMover$Span;", .fieldLink RX7 52 "ReferenceMover$Span" "lastFixed" "Z", .fieldLink RX7 21 "ReferenceMover$Reference" "columns" "LReferenceMover$Span;", .fieldLink RX7 55 "ReferenceMover$Reference" "whole" "I", .methodLink RX7 48 yX7_cornerMarks, .static yX7_cornerMarks, .initialized RX7, .code yX7_cornerMarks cX7_cornerMarks 2 (some .int), .methodLink RX7 36 yX7_firstMarks, .instanceMethod yX7_firstMarks, .selects RX7 yX7_firstMarks yX7_firstMarks, .code yX7_firstMarks cX7_firstMarks 1 (some .int), .fieldLink RX7 45 "ReferenceMover$Span" "firstFixed" "Z"] ++ wsX70 ++ wsX80)
def wsX7_wordAt : List Cond := .code yX7_wordAt cX7_wordAt 2 (some .int) :: ([.fieldLink RX7 28 "ReferenceMover$Reference" "isRange" "Z", .fieldLink RX7 24 "ReferenceMover$Reference" "sheet" "I", .fieldLink RX7 15 "ReferenceMover$Reference" "rows" "LReferenceMover$Span;", .fieldLink RX7 39 "ReferenceMover$Span" "first" "I", .fieldLink RX7 21 "ReferenceMover$Reference" "columns" "LReferenceMover$Span;", .fieldLink RX7 42 "ReferenceMover$Span" "last" "I", .methodLink RX7 32 yX7_rangeMarks, .instanceMethod yX7_rangeMarks, .selects RX7 yX7_rangeMarks yX7_rangeMarks, .initialized RX7, .code yX7_rangeMarks cX7_rangeMarks 2 (some .int), .fieldLink RX7 52 "ReferenceMover$Span" "lastFixed" "Z", .fieldLink RX7 55 "ReferenceMover$Reference" "whole" "I", .methodLink RX7 48 yX7_cornerMarks, .static yX7_cornerMarks, .code yX7_cornerMarks cX7_cornerMarks 2 (some .int), .methodLink RX7 36 yX7_firstMarks, .instanceMethod yX7_firstMarks, .selects RX7 yX7_firstMarks yX7_firstMarks, .code yX7_firstMarks cX7_firstMarks 1 (some .int), .fieldLink RX7 45 "ReferenceMover$Span" "firstFixed" "Z"] ++ wsX70 ++ wsX80)
def wsX9_init_r1 : List Cond := [Cond.methodLink RX9 3 objectInit, Cond.instanceMethod objectInit, Cond.code objectInit ⟨#[0xb1]⟩ 1 none, Cond.arrayClass .int, Cond.fieldLink RX9 9 "ReferenceMover" "code" "[I", Cond.fieldLink RX9 13 "ReferenceMover" "size" "I", Cond.classLink RX9 17 RX0, Cond.instantiable RX0 5, Cond.initialized RX0, Cond.fieldLink RX9 22 "ReferenceMover" "cut" "LReferenceMover$Area;", Cond.classLink RX9 26 RX7, Cond.instantiable RX7 5, Cond.initialized RX7, Cond.fieldLink RX9 29 "ReferenceMover" "reference" "LReferenceMover$Reference;", Cond.methodLink RX9 19 yX0_init, Cond.instanceMethod yX0_init, Cond.code yX0_init cX0_init 6 none, Cond.methodLink RX0 1 objectInit, Cond.fieldLink RX0 7 "ReferenceMover$Area" "sheet" "I", Cond.fieldLink RX0 13 "ReferenceMover$Area" "top" "I", Cond.fieldLink RX0 16 "ReferenceMover$Area" "left" "I", Cond.fieldLink RX0 19 "ReferenceMover$Area" "bottom" "I", Cond.fieldLink RX0 22 "ReferenceMover$Area" "right" "I", Cond.instanceMethod yX7_init]
def wsX9_init_r2 : List Cond := [Cond.code yX7_init cX7_init 1 none, Cond.methodLink RX7 3 objectInit, Cond.classLink RX7 9 RX8, Cond.instantiable RX8 5, Cond.initialized RX8, Cond.constant RX7 11 (1048576), Cond.fieldLink RX7 15 "ReferenceMover$Reference" "rows" "LReferenceMover$Span;", Cond.fieldLink RX7 21 "ReferenceMover$Reference" "columns" "LReferenceMover$Span;", Cond.methodLink RX7 12 yX8_init, Cond.instanceMethod yX8_init, Cond.code yX8_init cX8_init 2 none, Cond.methodLink RX8 1 objectInit, Cond.fieldLink RX8 7 "ReferenceMover$Span" "lastLine" "I"]
def wsX9_init : List Cond := .code yX9_init cX9_init 1 none :: ((wsX9_init_r1 ++ wsX9_init_r2) ++ wsX90 ++ wsX00 ++ wsX70 ++ wsX80)
def wsX9_clear : List Cond := .code yX9_clear cX9_clear 1 none :: ([.fieldLink RX9 13 "ReferenceMover" "size" "I"] ++ wsX90)
def wsX9_isOfKind : List Cond := .code yX9_isOfKind cX9_isOfKind 2 (some .boolean) :: ([])
def wsX9_hasRoomFor : List Cond := .code yX9_hasRoomFor cX9_hasRoomFor 2 (some .boolean) :: ([.fieldLink RX9 13 "ReferenceMover" "size" "I"] ++ wsX90)
def wsX9_put : List Cond := .code yX9_put cX9_put 3 none :: ([.fieldLink RX9 9 "ReferenceMover" "code" "[I"] ++ wsX90)
def wsX9_append : List Cond := .code yX9_append cX9_append 2 none :: ([.fieldLink RX9 13 "ReferenceMover" "size" "I", .methodLink RX9 122 yX9_put, .instanceMethod yX9_put, .selects RX9 yX9_put yX9_put, .initialized RX9, .code yX9_put cX9_put 3 none, .fieldLink RX9 9 "ReferenceMover" "code" "[I"] ++ wsX90)
def wsX9_other : List Cond := .code yX9_other cX9_other 2 (some .boolean) :: ([.methodLink RX9 33 yX9_isOfKind, .static yX9_isOfKind, .initialized RX9, .code yX9_isOfKind cX9_isOfKind 2 (some .boolean), .methodLink RX9 37 yX9_hasRoomFor, .instanceMethod yX9_hasRoomFor, .selects RX9 yX9_hasRoomFor yX9_hasRoomFor, .code yX9_hasRoomFor cX9_hasRoomFor 2 (some .boolean), .fieldLink RX9 13 "ReferenceMover" "size" "I", .methodLink RX9 41 yX9_append, .instanceMethod yX9_append, .selects RX9 yX9_append yX9_append, .code yX9_append cX9_append 2 none, .methodLink RX9 122 yX9_put, .instanceMethod yX9_put, .selects RX9 yX9_put yX9_put, .code yX9_put cX9_put 3 none, .fieldLink RX9 9 "ReferenceMover" "code" "[I"] ++ wsX90)
def wsX9_isSheet : List Cond := .code yX9_isSheet cX9_isSheet 1 (some .boolean) :: ([])
def wsX9_isSheetOrNone : List Cond := .code yX9_isSheetOrNone cX9_isSheetOrNone 1 (some .boolean) :: ([.methodLink RX9 92 yX9_isSheet, .static yX9_isSheet, .initialized RX9, .code yX9_isSheet cX9_isSheet 1 (some .boolean)])
def wsX9_place_r1 : List Cond := [Cond.constant RX9 48 (1048576), Cond.methodLink RX9 45 yX9_isSheetOrNone, Cond.static yX9_isSheetOrNone, Cond.initialized RX9, Cond.code yX9_isSheetOrNone cX9_isSheetOrNone 1 (some .boolean), Cond.methodLink RX9 92 yX9_isSheet, Cond.static yX9_isSheet, Cond.code yX9_isSheet cX9_isSheet 1 (some .boolean), Cond.methodLink RX9 49 yX9_isLine, Cond.static yX9_isLine, Cond.code yX9_isLine cX9_isLine 2 (some .boolean), Cond.methodLink RX9 37 yX9_hasRoomFor, Cond.instanceMethod yX9_hasRoomFor, Cond.selects RX9 yX9_hasRoomFor yX9_hasRoomFor, Cond.code yX9_hasRoomFor cX9_hasRoomFor 2 (some .boolean), Cond.fieldLink RX9 13 "ReferenceMover" "size" "I", Cond.methodLink RX9 41 yX9_append, Cond.instanceMethod yX9_append, Cond.selects RX9 yX9_append yX9_append, Cond.code yX9_append cX9_append 2 none, Cond.methodLink RX9 122 yX9_put, Cond.instanceMethod yX9_put, Cond.selects RX9 yX9_put yX9_put, Cond.code yX9_put cX9_put 3 none]
def wsX9_place_r2 : List Cond := [Cond.fieldLink RX9 9 "ReferenceMover" "code" "[I"]
def wsX9_place : List Cond := .code yX9_place cX9_place 5 (some .boolean) :: ((wsX9_place_r1 ++ wsX9_place_r2) ++ wsX90)
def wsX9_areLines : List Cond := .code yX9_areLines cX9_areLines 3 (some .boolean) :: ([])
def wsX9_range_r1 : List Cond := [Cond.constant RX9 48 (1048576), Cond.methodLink RX9 45 yX9_isSheetOrNone, Cond.static yX9_isSheetOrNone, Cond.initialized RX9, Cond.code yX9_isSheetOrNone cX9_isSheetOrNone 1 (some .boolean), Cond.methodLink RX9 92 yX9_isSheet, Cond.static yX9_isSheet, Cond.code yX9_isSheet cX9_isSheet 1 (some .boolean), Cond.methodLink RX9 52 yX9_areLines, Cond.static yX9_areLines, Cond.code yX9_areLines cX9_areLines 3 (some .boolean), Cond.methodLink RX9 37 yX9_hasRoomFor, Cond.instanceMethod yX9_hasRoomFor, Cond.selects RX9 yX9_hasRoomFor yX9_hasRoomFor, Cond.code yX9_hasRoomFor cX9_hasRoomFor 2 (some .boolean), Cond.fieldLink RX9 13 "ReferenceMover" "size" "I", Cond.methodLink RX9 56 yX9_has, Cond.static yX9_has, Cond.code yX9_has cX9_has 2 (some .boolean), Cond.methodLink RX9 59 yX9_areAllLines, Cond.static yX9_areAllLines, Cond.code yX9_areAllLines cX9_areAllLines 3 (some .boolean), Cond.methodLink RX9 41 yX9_append, Cond.instanceMethod yX9_append]
def wsX9_range_r2 : List Cond := [Cond.selects RX9 yX9_append yX9_append, Cond.code yX9_append cX9_append 2 none, Cond.methodLink RX9 122 yX9_put, Cond.instanceMethod yX9_put, Cond.selects RX9 yX9_put yX9_put, Cond.code yX9_put cX9_put 3 none, Cond.fieldLink RX9 9 "ReferenceMover" "code" "[I"]
def wsX9_range : List Cond := .code yX9_range cX9_range 7 (some .boolean) :: ((wsX9_range_r1 ++ wsX9_range_r2) ++ wsX90)
def wsX9_size : List Cond := .code yX9_size cX9_size 1 (some .int) :: ([.fieldLink RX9 13 "ReferenceMover" "size" "I"] ++ wsX90)
def wsX9_word : List Cond := .code yX9_word cX9_word 2 (some .int) :: ([.fieldLink RX9 13 "ReferenceMover" "size" "I", .fieldLink RX9 9 "ReferenceMover" "code" "[I"] ++ wsX90)
def wsX9_itemLength : List Cond := .code yX9_itemLength cX9_itemLength 1 (some .int) :: ([.methodLink RX9 33 yX9_isOfKind, .static yX9_isOfKind, .initialized RX9, .code yX9_isOfKind cX9_isOfKind 2 (some .boolean)])
def wsX9_load_r1 : List Cond := [Cond.fieldLink RX9 29 "ReferenceMover" "reference" "LReferenceMover$Reference;", Cond.fieldLink RX9 144 "ReferenceMover$Reference" "isRange" "Z", Cond.fieldLink RX9 148 "ReferenceMover$Reference" "whole" "I", Cond.fieldLink RX9 151 "ReferenceMover$Reference" "sheet" "I", Cond.fieldLink RX9 154 "ReferenceMover$Reference" "rows" "LReferenceMover$Span;", Cond.fieldLink RX9 164 "ReferenceMover$Reference" "columns" "LReferenceMover$Span;", Cond.methodLink RX9 125 yX9_word, Cond.instanceMethod yX9_word, Cond.selects RX9 yX9_word yX9_word, Cond.initialized RX9, Cond.code yX9_word cX9_word 2 (some .int), Cond.fieldLink RX9 13 "ReferenceMover" "size" "I", Cond.fieldLink RX9 9 "ReferenceMover" "code" "[I", Cond.methodLink RX9 56 yX9_has, Cond.static yX9_has, Cond.code yX9_has cX9_has 2 (some .boolean), Cond.methodLink RX9 158 yX8_setFirst, Cond.instanceMethod yX8_setFirst, Cond.selects RX8 yX8_setFirst yX8_setFirst, Cond.initialized RX8, Cond.code yX8_setFirst cX8_setFirst 3 none, Cond.fieldLink RX8 13 "ReferenceMover$Span" "first" "I", Cond.fieldLink RX8 16 "ReferenceMover$Span" "firstFixed" "Z", Cond.methodLink RX9 167 yX8_setLast]
def wsX9_load_r2 : List Cond := [Cond.instanceMethod yX8_setLast, Cond.selects RX8 yX8_setLast yX8_setLast, Cond.code yX8_setLast cX8_setLast 3 none, Cond.fieldLink RX8 20 "ReferenceMover$Span" "last" "I", Cond.fieldLink RX8 23 "ReferenceMover$Span" "lastFixed" "Z"]
def wsX9_load : List Cond := .code yX9_load cX9_load 6 none :: ((wsX9_load_r1 ++ wsX9_load_r2) ++ wsX90 ++ wsX70 ++ wsX80)
def wsX9_store_r1 : List Cond := [Cond.fieldLink RX9 29 "ReferenceMover" "reference" "LReferenceMover$Reference;", Cond.methodLink RX9 170 yX7_wordAt, Cond.instanceMethod yX7_wordAt, Cond.selects RX7 yX7_wordAt yX7_wordAt, Cond.initialized RX7, Cond.code yX7_wordAt cX7_wordAt 2 (some .int), Cond.fieldLink RX7 28 "ReferenceMover$Reference" "isRange" "Z", Cond.fieldLink RX7 24 "ReferenceMover$Reference" "sheet" "I", Cond.fieldLink RX7 15 "ReferenceMover$Reference" "rows" "LReferenceMover$Span;", Cond.fieldLink RX7 39 "ReferenceMover$Span" "first" "I", Cond.fieldLink RX7 21 "ReferenceMover$Reference" "columns" "LReferenceMover$Span;", Cond.fieldLink RX7 42 "ReferenceMover$Span" "last" "I", Cond.methodLink RX7 32 yX7_rangeMarks, Cond.instanceMethod yX7_rangeMarks, Cond.selects RX7 yX7_rangeMarks yX7_rangeMarks, Cond.code yX7_rangeMarks cX7_rangeMarks 2 (some .int), Cond.fieldLink RX7 52 "ReferenceMover$Span" "lastFixed" "Z", Cond.fieldLink RX7 55 "ReferenceMover$Reference" "whole" "I", Cond.methodLink RX7 48 yX7_cornerMarks, Cond.static yX7_cornerMarks, Cond.code yX7_cornerMarks cX7_cornerMarks 2 (some .int), Cond.methodLink RX7 36 yX7_firstMarks, Cond.instanceMethod yX7_firstMarks, Cond.selects RX7 yX7_firstMarks yX7_firstMarks]
def wsX9_store_r2 : List Cond := [Cond.code yX7_firstMarks cX7_firstMarks 1 (some .int), Cond.fieldLink RX7 45 "ReferenceMover$Span" "firstFixed" "Z", Cond.methodLink RX9 125 yX9_word, Cond.instanceMethod yX9_word, Cond.selects RX9 yX9_word yX9_word, Cond.initialized RX9, Cond.code yX9_word cX9_word 2 (some .int), Cond.fieldLink RX9 13 "ReferenceMover" "size" "I", Cond.fieldLink RX9 9 "ReferenceMover" "code" "[I", Cond.methodLink RX9 122 yX9_put, Cond.instanceMethod yX9_put, Cond.selects RX9 yX9_put yX9_put, Cond.code yX9_put cX9_put 3 none]
def wsX9_store : List Cond := .code yX9_store cX9_store 7 (some .boolean) :: ((wsX9_store_r1 ++ wsX9_store_r2) ++ wsX90 ++ wsX70 ++ wsX80)
def wsX9_changeReferences_r1 : List Cond := [Cond.fieldLink RX9 13 "ReferenceMover" "size" "I", Cond.fieldLink RX9 29 "ReferenceMover" "reference" "LReferenceMover$Reference;", Cond.methodLink RX9 125 yX9_word, Cond.instanceMethod yX9_word, Cond.selects RX9 yX9_word yX9_word, Cond.initialized RX9, Cond.code yX9_word cX9_word 2 (some .int), Cond.fieldLink RX9 9 "ReferenceMover" "code" "[I", Cond.methodLink RX9 129 yX9_itemLength, Cond.static yX9_itemLength, Cond.code yX9_itemLength cX9_itemLength 1 (some .int), Cond.methodLink RX9 33 yX9_isOfKind, Cond.static yX9_isOfKind, Cond.code yX9_isOfKind cX9_isOfKind 2 (some .boolean), Cond.methodLink RX9 122 yX9_put, Cond.instanceMethod yX9_put, Cond.selects RX9 yX9_put yX9_put, Cond.code yX9_put cX9_put 3 none, Cond.methodLink RX9 132 yX9_load, Cond.instanceMethod yX9_load, Cond.selects RX9 yX9_load yX9_load, Cond.code yX9_load cX9_load 6 none, Cond.fieldLink RX9 144 "ReferenceMover$Reference" "isRange" "Z", Cond.fieldLink RX9 148 "ReferenceMover$Reference" "whole" "I"]
def wsX9_changeReferences_r2 : List Cond := [Cond.fieldLink RX9 151 "ReferenceMover$Reference" "sheet" "I", Cond.fieldLink RX9 154 "ReferenceMover$Reference" "rows" "LReferenceMover$Span;", Cond.fieldLink RX9 164 "ReferenceMover$Reference" "columns" "LReferenceMover$Span;", Cond.methodLink RX9 56 yX9_has, Cond.static yX9_has, Cond.code yX9_has cX9_has 2 (some .boolean), Cond.methodLink RX9 158 yX8_setFirst, Cond.instanceMethod yX8_setFirst, Cond.selects RX8 yX8_setFirst yX8_setFirst, Cond.initialized RX8, Cond.code yX8_setFirst cX8_setFirst 3 none, Cond.fieldLink RX8 13 "ReferenceMover$Span" "first" "I", Cond.fieldLink RX8 16 "ReferenceMover$Span" "firstFixed" "Z", Cond.methodLink RX9 167 yX8_setLast, Cond.instanceMethod yX8_setLast, Cond.selects RX8 yX8_setLast yX8_setLast, Cond.code yX8_setLast cX8_setLast 3 none, Cond.fieldLink RX8 20 "ReferenceMover$Span" "last" "I", Cond.fieldLink RX8 23 "ReferenceMover$Span" "lastFixed" "Z", Cond.methodLink RX9 135 ⟨"ReferenceMover$Change", "keeps", "(LReferenceMover$Reference;)Z"⟩, Cond.sameMethod "ReferenceMover$Change" "ReferenceMover$Change" "keeps" "(LReferenceMover$Reference;)Z", Cond.selects RX2 ⟨"ReferenceMover$Change", "keeps", "(LReferenceMover$Reference;)Z"⟩ yX2_keeps, Cond.instanceMethod yX2_keeps, Cond.initialized RX2]
def wsX9_changeReferences_r3 : List Cond := [Cond.code yX2_keeps cX2_keeps 2 (some .boolean), Cond.fieldLink RX2 18 "ReferenceMover$Reference" "whole" "I", Cond.fieldLink RX2 27 "ReferenceMover$Reference" "rows" "LReferenceMover$Span;", Cond.fieldLink RX2 9 "ReferenceMover$Copying" "down" "I", Cond.fieldLink RX2 37 "ReferenceMover$Reference" "columns" "LReferenceMover$Span;", Cond.fieldLink RX2 15 "ReferenceMover$Copying" "along" "I", Cond.methodLink RX2 31 yX8_shiftLoose, Cond.instanceMethod yX8_shiftLoose, Cond.selects RX8 yX8_shiftLoose yX8_shiftLoose, Cond.code yX8_shiftLoose cX8_shiftLoose 2 (some .boolean), Cond.fieldLink RX8 7 "ReferenceMover$Span" "lastLine" "I", Cond.static yX9_isLine, Cond.code yX9_isLine cX9_isLine 2 (some .boolean), Cond.methodLink RX8 32 yX8_exchange, Cond.instanceMethod yX8_exchange, Cond.selects RX8 yX8_exchange yX8_exchange, Cond.code yX8_exchange cX8_exchange 3 none, Cond.methodLink RX8 35 yX8_setFirst, Cond.methodLink RX8 39 yX8_setLast, Cond.selects RX4 ⟨"ReferenceMover$Change", "keeps", "(LReferenceMover$Reference;)Z"⟩ yX3_keeps, Cond.instanceMethod yX3_keeps, Cond.initialized RX3, Cond.code yX3_keeps cX3_keeps 2 (some .boolean), Cond.fieldLink RX3 7 "ReferenceMover$LineChange" "home" "I"]
def wsX9_changeReferences_r4 : List Cond := [Cond.fieldLink RX3 13 "ReferenceMover$LineChange" "sheet" "I", Cond.fieldLink RX3 16 "ReferenceMover$LineChange" "columns" "Z", Cond.fieldLink RX3 32 "ReferenceMover$Reference" "columns" "LReferenceMover$Span;", Cond.fieldLink RX3 35 "ReferenceMover$Reference" "rows" "LReferenceMover$Span;", Cond.methodLink RX3 26 yX7_sheetSeenFrom, Cond.instanceMethod yX7_sheetSeenFrom, Cond.selects RX7 yX7_sheetSeenFrom yX7_sheetSeenFrom, Cond.initialized RX7, Cond.code yX7_sheetSeenFrom cX7_sheetSeenFrom 2 (some .int), Cond.fieldLink RX7 24 "ReferenceMover$Reference" "sheet" "I", Cond.methodLink RX3 38 ⟨"ReferenceMover$LineChange", "keepsLines", "(LReferenceMover$Span;)Z"⟩, Cond.sameMethod "ReferenceMover$LineChange" "ReferenceMover$LineChange" "keepsLines" "(LReferenceMover$Span;)Z", Cond.selects RX4 ⟨"ReferenceMover$LineChange", "keepsLines", "(LReferenceMover$Span;)Z"⟩ yX4_keepsLines, Cond.instanceMethod yX4_keepsLines, Cond.initialized RX4, Cond.code yX4_keepsLines cX4_keepsLines 2 (some .boolean), Cond.fieldLink RX4 7 "ReferenceMover$LinesPutIn" "at" "I", Cond.sameField "ReferenceMover$LinesPutIn" "ReferenceMover$LineChange" "at" "I", Cond.fieldLink RX4 13 "ReferenceMover$LinesPutIn" "n" "I", Cond.sameField "ReferenceMover$LinesPutIn" "ReferenceMover$LineChange" "n" "I", Cond.methodLink RX4 16 yX8_openGap, Cond.instanceMethod yX8_openGap, Cond.selects RX8 yX8_openGap yX8_openGap, Cond.code yX8_openGap cX8_openGap 3 (some .boolean)]
def wsX9_changeReferences_r5 : List Cond := [Cond.methodLink RX8 46 Lib.Math.min.name, Cond.static Lib.Math.min.name, Cond.initialized "java/lang/Math", Cond.code Lib.Math.min.name Lib.Math.min.code 2 (some .int), Cond.static yX9_areAllLines, Cond.code yX9_areAllLines cX9_areAllLines 3 (some .boolean), Cond.selects RX5 ⟨"ReferenceMover$LineChange", "keepsLines", "(LReferenceMover$Span;)Z"⟩ yX5_keepsLines, Cond.instanceMethod yX5_keepsLines, Cond.initialized RX5, Cond.code yX5_keepsLines cX5_keepsLines 2 (some .boolean), Cond.fieldLink RX5 7 "ReferenceMover$LinesTakenOut" "at" "I", Cond.sameField "ReferenceMover$LinesTakenOut" "ReferenceMover$LineChange" "at" "I", Cond.fieldLink RX5 13 "ReferenceMover$LinesTakenOut" "n" "I", Cond.sameField "ReferenceMover$LinesTakenOut" "ReferenceMover$LineChange" "n" "I", Cond.methodLink RX5 16 yX8_closeGap, Cond.instanceMethod yX8_closeGap, Cond.selects RX8 yX8_closeGap yX8_closeGap, Cond.code yX8_closeGap cX8_closeGap 4 (some .boolean), Cond.selects RX5 ⟨"ReferenceMover$Change", "keeps", "(LReferenceMover$Reference;)Z"⟩ yX3_keeps, Cond.selects RX6 ⟨"ReferenceMover$Change", "keeps", "(LReferenceMover$Reference;)Z"⟩ yX6_keeps, Cond.instanceMethod yX6_keeps, Cond.initialized RX6, Cond.code yX6_keeps cX6_keeps 3 (some .boolean), Cond.fieldLink RX6 9 "ReferenceMover$Moving" "home" "I"]
def wsX9_changeReferences_r6 : List Cond := [Cond.fieldLink RX6 18 "ReferenceMover$Moving" "cut" "LReferenceMover$Area;", Cond.fieldLink RX6 37 "ReferenceMover$Reference" "rows" "LReferenceMover$Span;", Cond.fieldLink RX6 22 "ReferenceMover$Moving" "target" "LReferenceMover$Area;", Cond.fieldLink RX6 41 "ReferenceMover$Area" "top" "I", Cond.fieldLink RX6 50 "ReferenceMover$Reference" "columns" "LReferenceMover$Span;", Cond.fieldLink RX6 53 "ReferenceMover$Area" "left" "I", Cond.fieldLink RX6 56 "ReferenceMover$Area" "sheet" "I", Cond.fieldLink RX6 59 "ReferenceMover$Reference" "sheet" "I", Cond.fieldLink RX6 15 "ReferenceMover$Moving" "newHome" "I", Cond.methodLink RX6 25 yX7_sheetSeenFrom, Cond.methodLink RX6 31 yX0_holds, Cond.instanceMethod yX0_holds, Cond.selects RX0 yX0_holds yX0_holds, Cond.initialized RX0, Cond.code yX0_holds cX0_holds 3 (some .boolean), Cond.fieldLink RX0 7 "ReferenceMover$Area" "sheet" "I", Cond.fieldLink RX0 31 "ReferenceMover$Reference" "rows" "LReferenceMover$Span;", Cond.fieldLink RX0 13 "ReferenceMover$Area" "top" "I", Cond.fieldLink RX0 19 "ReferenceMover$Area" "bottom" "I", Cond.fieldLink RX0 41 "ReferenceMover$Reference" "columns" "LReferenceMover$Span;", Cond.fieldLink RX0 16 "ReferenceMover$Area" "left" "I", Cond.fieldLink RX0 22 "ReferenceMover$Area" "right" "I", Cond.methodLink RX0 25 yX7_sheetSeenFrom, Cond.methodLink RX0 35 yX8_isWithin]
def wsX9_changeReferences_r7 : List Cond := [Cond.instanceMethod yX8_isWithin, Cond.selects RX8 yX8_isWithin yX8_isWithin, Cond.code yX8_isWithin cX8_isWithin 3 (some .boolean), Cond.methodLink RX6 44 yX8_shift, Cond.instanceMethod yX8_shift, Cond.selects RX8 yX8_shift yX8_shift, Cond.code yX8_shift cX8_shift 2 none, Cond.methodLink RX9 141 yX9_store, Cond.instanceMethod yX9_store, Cond.selects RX9 yX9_store yX9_store, Cond.code yX9_store cX9_store 7 (some .boolean), Cond.methodLink RX9 170 yX7_wordAt, Cond.instanceMethod yX7_wordAt, Cond.selects RX7 yX7_wordAt yX7_wordAt, Cond.code yX7_wordAt cX7_wordAt 2 (some .int), Cond.fieldLink RX7 28 "ReferenceMover$Reference" "isRange" "Z", Cond.fieldLink RX7 15 "ReferenceMover$Reference" "rows" "LReferenceMover$Span;", Cond.fieldLink RX7 39 "ReferenceMover$Span" "first" "I", Cond.fieldLink RX7 21 "ReferenceMover$Reference" "columns" "LReferenceMover$Span;", Cond.fieldLink RX7 42 "ReferenceMover$Span" "last" "I", Cond.methodLink RX7 32 yX7_rangeMarks, Cond.instanceMethod yX7_rangeMarks, Cond.selects RX7 yX7_rangeMarks yX7_rangeMarks, Cond.code yX7_rangeMarks cX7_rangeMarks 2 (some .int)]
def wsX9_changeReferences_r8 : List Cond := [Cond.fieldLink RX7 52 "ReferenceMover$Span" "lastFixed" "Z", Cond.fieldLink RX7 55 "ReferenceMover$Reference" "whole" "I", Cond.methodLink RX7 48 yX7_cornerMarks, Cond.static yX7_cornerMarks, Cond.code yX7_cornerMarks cX7_cornerMarks 2 (some .int), Cond.methodLink RX7 36 yX7_firstMarks, Cond.instanceMethod yX7_firstMarks, Cond.selects RX7 yX7_firstMarks yX7_firstMarks, Cond.code yX7_firstMarks cX7_firstMarks 1 (some .int), Cond.fieldLink RX7 45 "ReferenceMover$Span" "firstFixed" "Z"]
def wsX9_changeReferences : List Cond := .code yX9_changeReferences cX9_changeReferences 6 (some .int) :: ((wsX9_changeReferences_r1 ++ (wsX9_changeReferences_r2 ++ (wsX9_changeReferences_r3 ++ (wsX9_changeReferences_r4 ++ (wsX9_changeReferences_r5 ++ (wsX9_changeReferences_r6 ++ (wsX9_changeReferences_r7 ++ wsX9_changeReferences_r8))))))) ++ wsX90 ++ wsX70 ++ wsX80 ++ wsX20 ++ wsX40 ++ wsX50 ++ wsX60 ++ wsX00)
def wsX9_copy_r1 : List Cond := [Cond.classLink RX9 63 "java/lang/IllegalArgumentException", Cond.initialized "java/lang/IllegalArgumentException", Cond.constant RX9 62 (-1048576), Cond.constant RX9 48 (1048576), Cond.classLink RX9 72 RX2, Cond.instantiable RX2 2, Cond.initialized RX2, Cond.methodLink RX9 74 yX2_init, Cond.instanceMethod yX2_init, Cond.code yX2_init cX2_init 3 none, Cond.fieldLink RX2 9 "ReferenceMover$Copying" "down" "I", Cond.fieldLink RX2 15 "ReferenceMover$Copying" "along" "I", Cond.instanceMethod yX1_init, Cond.initialized RX1, Cond.code yX1_init cX1_init 1 none, Cond.methodLink RX1 1 objectInit, Cond.instanceMethod objectInit, Cond.code objectInit ⟨#[0xb1]⟩ 1 none, Cond.methodLink RX9 77 yX9_changeReferences, Cond.instanceMethod yX9_changeReferences, Cond.selects RX9 yX9_changeReferences yX9_changeReferences, Cond.initialized RX9, Cond.code yX9_changeReferences cX9_changeReferences 6 (some .int), Cond.fieldLink RX9 13 "ReferenceMover" "size" "I"]
def wsX9_copy_r2 : List Cond := [Cond.fieldLink RX9 29 "ReferenceMover" "reference" "LReferenceMover$Reference;", Cond.methodLink RX9 125 yX9_word, Cond.instanceMethod yX9_word, Cond.selects RX9 yX9_word yX9_word, Cond.code yX9_word cX9_word 2 (some .int), Cond.fieldLink RX9 9 "ReferenceMover" "code" "[I", Cond.methodLink RX9 129 yX9_itemLength, Cond.static yX9_itemLength, Cond.code yX9_itemLength cX9_itemLength 1 (some .int), Cond.methodLink RX9 33 yX9_isOfKind, Cond.static yX9_isOfKind, Cond.code yX9_isOfKind cX9_isOfKind 2 (some .boolean), Cond.methodLink RX9 122 yX9_put, Cond.instanceMethod yX9_put, Cond.selects RX9 yX9_put yX9_put, Cond.code yX9_put cX9_put 3 none, Cond.methodLink RX9 132 yX9_load, Cond.instanceMethod yX9_load, Cond.selects RX9 yX9_load yX9_load, Cond.code yX9_load cX9_load 6 none, Cond.fieldLink RX9 144 "ReferenceMover$Reference" "isRange" "Z", Cond.fieldLink RX9 148 "ReferenceMover$Reference" "whole" "I", Cond.fieldLink RX9 151 "ReferenceMover$Reference" "sheet" "I", Cond.fieldLink RX9 154 "ReferenceMover$Reference" "rows" "LReferenceMover$Span;"]
def wsX9_copy_r3 : List Cond := [Cond.fieldLink RX9 164 "ReferenceMover$Reference" "columns" "LReferenceMover$Span;", Cond.methodLink RX9 56 yX9_has, Cond.static yX9_has, Cond.code yX9_has cX9_has 2 (some .boolean), Cond.methodLink RX9 158 yX8_setFirst, Cond.instanceMethod yX8_setFirst, Cond.selects RX8 yX8_setFirst yX8_setFirst, Cond.initialized RX8, Cond.code yX8_setFirst cX8_setFirst 3 none, Cond.fieldLink RX8 13 "ReferenceMover$Span" "first" "I", Cond.fieldLink RX8 16 "ReferenceMover$Span" "firstFixed" "Z", Cond.methodLink RX9 167 yX8_setLast, Cond.instanceMethod yX8_setLast, Cond.selects RX8 yX8_setLast yX8_setLast, Cond.code yX8_setLast cX8_setLast 3 none, Cond.fieldLink RX8 20 "ReferenceMover$Span" "last" "I", Cond.fieldLink RX8 23 "ReferenceMover$Span" "lastFixed" "Z", Cond.methodLink RX9 135 ⟨"ReferenceMover$Change", "keeps", "(LReferenceMover$Reference;)Z"⟩, Cond.sameMethod "ReferenceMover$Change" "ReferenceMover$Change" "keeps" "(LReferenceMover$Reference;)Z", Cond.selects RX2 ⟨"ReferenceMover$Change", "keeps", "(LReferenceMover$Reference;)Z"⟩ yX2_keeps, Cond.instanceMethod yX2_keeps, Cond.code yX2_keeps cX2_keeps 2 (some .boolean), Cond.fieldLink RX2 18 "ReferenceMover$Reference" "whole" "I", Cond.fieldLink RX2 27 "ReferenceMover$Reference" "rows" "LReferenceMover$Span;"]
def wsX9_copy_r4 : List Cond := [Cond.fieldLink RX2 37 "ReferenceMover$Reference" "columns" "LReferenceMover$Span;", Cond.methodLink RX2 31 yX8_shiftLoose, Cond.instanceMethod yX8_shiftLoose, Cond.selects RX8 yX8_shiftLoose yX8_shiftLoose, Cond.code yX8_shiftLoose cX8_shiftLoose 2 (some .boolean), Cond.fieldLink RX8 7 "ReferenceMover$Span" "lastLine" "I", Cond.static yX9_isLine, Cond.code yX9_isLine cX9_isLine 2 (some .boolean), Cond.methodLink RX8 32 yX8_exchange, Cond.instanceMethod yX8_exchange, Cond.selects RX8 yX8_exchange yX8_exchange, Cond.code yX8_exchange cX8_exchange 3 none, Cond.methodLink RX8 35 yX8_setFirst, Cond.methodLink RX8 39 yX8_setLast, Cond.selects RX4 ⟨"ReferenceMover$Change", "keeps", "(LReferenceMover$Reference;)Z"⟩ yX3_keeps, Cond.instanceMethod yX3_keeps, Cond.initialized RX3, Cond.code yX3_keeps cX3_keeps 2 (some .boolean), Cond.fieldLink RX3 7 "ReferenceMover$LineChange" "home" "I", Cond.fieldLink RX3 13 "ReferenceMover$LineChange" "sheet" "I", Cond.fieldLink RX3 16 "ReferenceMover$LineChange" "columns" "Z", Cond.fieldLink RX3 32 "ReferenceMover$Reference" "columns" "LReferenceMover$Span;", Cond.fieldLink RX3 35 "ReferenceMover$Reference" "rows" "LReferenceMover$Span;", Cond.methodLink RX3 26 yX7_sheetSeenFrom]
def wsX9_copy_r5 : List Cond := [Cond.instanceMethod yX7_sheetSeenFrom, Cond.selects RX7 yX7_sheetSeenFrom yX7_sheetSeenFrom, Cond.initialized RX7, Cond.code yX7_sheetSeenFrom cX7_sheetSeenFrom 2 (some .int), Cond.fieldLink RX7 24 "ReferenceMover$Reference" "sheet" "I", Cond.methodLink RX3 38 ⟨"ReferenceMover$LineChange", "keepsLines", "(LReferenceMover$Span;)Z"⟩, Cond.sameMethod "ReferenceMover$LineChange" "ReferenceMover$LineChange" "keepsLines" "(LReferenceMover$Span;)Z", Cond.selects RX4 ⟨"ReferenceMover$LineChange", "keepsLines", "(LReferenceMover$Span;)Z"⟩ yX4_keepsLines, Cond.instanceMethod yX4_keepsLines, Cond.initialized RX4, Cond.code yX4_keepsLines cX4_keepsLines 2 (some .boolean), Cond.fieldLink RX4 7 "ReferenceMover$LinesPutIn" "at" "I", Cond.sameField "ReferenceMover$LinesPutIn" "ReferenceMover$LineChange" "at" "I", Cond.fieldLink RX4 13 "ReferenceMover$LinesPutIn" "n" "I", Cond.sameField "ReferenceMover$LinesPutIn" "ReferenceMover$LineChange" "n" "I", Cond.methodLink RX4 16 yX8_openGap, Cond.instanceMethod yX8_openGap, Cond.selects RX8 yX8_openGap yX8_openGap, Cond.code yX8_openGap cX8_openGap 3 (some .boolean), Cond.methodLink RX8 46 Lib.Math.min.name, Cond.static Lib.Math.min.name, Cond.initialized "java/lang/Math", Cond.code Lib.Math.min.name Lib.Math.min.code 2 (some .int), Cond.static yX9_areAllLines]
def wsX9_copy_r6 : List Cond := [Cond.code yX9_areAllLines cX9_areAllLines 3 (some .boolean), Cond.selects RX5 ⟨"ReferenceMover$LineChange", "keepsLines", "(LReferenceMover$Span;)Z"⟩ yX5_keepsLines, Cond.instanceMethod yX5_keepsLines, Cond.initialized RX5, Cond.code yX5_keepsLines cX5_keepsLines 2 (some .boolean), Cond.fieldLink RX5 7 "ReferenceMover$LinesTakenOut" "at" "I", Cond.sameField "ReferenceMover$LinesTakenOut" "ReferenceMover$LineChange" "at" "I", Cond.fieldLink RX5 13 "ReferenceMover$LinesTakenOut" "n" "I", Cond.sameField "ReferenceMover$LinesTakenOut" "ReferenceMover$LineChange" "n" "I", Cond.methodLink RX5 16 yX8_closeGap, Cond.instanceMethod yX8_closeGap, Cond.selects RX8 yX8_closeGap yX8_closeGap, Cond.code yX8_closeGap cX8_closeGap 4 (some .boolean), Cond.selects RX5 ⟨"ReferenceMover$Change", "keeps", "(LReferenceMover$Reference;)Z"⟩ yX3_keeps, Cond.selects RX6 ⟨"ReferenceMover$Change", "keeps", "(LReferenceMover$Reference;)Z"⟩ yX6_keeps, Cond.instanceMethod yX6_keeps, Cond.initialized RX6, Cond.code yX6_keeps cX6_keeps 3 (some .boolean), Cond.fieldLink RX6 9 "ReferenceMover$Moving" "home" "I", Cond.fieldLink RX6 18 "ReferenceMover$Moving" "cut" "LReferenceMover$Area;", Cond.fieldLink RX6 37 "ReferenceMover$Reference" "rows" "LReferenceMover$Span;", Cond.fieldLink RX6 22 "ReferenceMover$Moving" "target" "LReferenceMover$Area;", Cond.fieldLink RX6 41 "ReferenceMover$Area" "top" "I", Cond.fieldLink RX6 50 "ReferenceMover$Reference" "columns" "LReferenceMover$Span;"]
def wsX9_copy_r7 : List Cond := [Cond.fieldLink RX6 53 "ReferenceMover$Area" "left" "I", Cond.fieldLink RX6 56 "ReferenceMover$Area" "sheet" "I", Cond.fieldLink RX6 59 "ReferenceMover$Reference" "sheet" "I", Cond.fieldLink RX6 15 "ReferenceMover$Moving" "newHome" "I", Cond.methodLink RX6 25 yX7_sheetSeenFrom, Cond.methodLink RX6 31 yX0_holds, Cond.instanceMethod yX0_holds, Cond.selects RX0 yX0_holds yX0_holds, Cond.initialized RX0, Cond.code yX0_holds cX0_holds 3 (some .boolean), Cond.fieldLink RX0 7 "ReferenceMover$Area" "sheet" "I", Cond.fieldLink RX0 31 "ReferenceMover$Reference" "rows" "LReferenceMover$Span;", Cond.fieldLink RX0 13 "ReferenceMover$Area" "top" "I", Cond.fieldLink RX0 19 "ReferenceMover$Area" "bottom" "I", Cond.fieldLink RX0 41 "ReferenceMover$Reference" "columns" "LReferenceMover$Span;", Cond.fieldLink RX0 16 "ReferenceMover$Area" "left" "I", Cond.fieldLink RX0 22 "ReferenceMover$Area" "right" "I", Cond.methodLink RX0 25 yX7_sheetSeenFrom, Cond.methodLink RX0 35 yX8_isWithin, Cond.instanceMethod yX8_isWithin, Cond.selects RX8 yX8_isWithin yX8_isWithin, Cond.code yX8_isWithin cX8_isWithin 3 (some .boolean), Cond.methodLink RX6 44 yX8_shift, Cond.instanceMethod yX8_shift]
def wsX9_copy_r8 : List Cond := [Cond.selects RX8 yX8_shift yX8_shift, Cond.code yX8_shift cX8_shift 2 none, Cond.methodLink RX9 141 yX9_store, Cond.instanceMethod yX9_store, Cond.selects RX9 yX9_store yX9_store, Cond.code yX9_store cX9_store 7 (some .boolean), Cond.methodLink RX9 170 yX7_wordAt, Cond.instanceMethod yX7_wordAt, Cond.selects RX7 yX7_wordAt yX7_wordAt, Cond.code yX7_wordAt cX7_wordAt 2 (some .int), Cond.fieldLink RX7 28 "ReferenceMover$Reference" "isRange" "Z", Cond.fieldLink RX7 15 "ReferenceMover$Reference" "rows" "LReferenceMover$Span;", Cond.fieldLink RX7 39 "ReferenceMover$Span" "first" "I", Cond.fieldLink RX7 21 "ReferenceMover$Reference" "columns" "LReferenceMover$Span;", Cond.fieldLink RX7 42 "ReferenceMover$Span" "last" "I", Cond.methodLink RX7 32 yX7_rangeMarks, Cond.instanceMethod yX7_rangeMarks, Cond.selects RX7 yX7_rangeMarks yX7_rangeMarks, Cond.code yX7_rangeMarks cX7_rangeMarks 2 (some .int), Cond.fieldLink RX7 52 "ReferenceMover$Span" "lastFixed" "Z", Cond.fieldLink RX7 55 "ReferenceMover$Reference" "whole" "I", Cond.methodLink RX7 48 yX7_cornerMarks, Cond.static yX7_cornerMarks, Cond.code yX7_cornerMarks cX7_cornerMarks 2 (some .int)]
def wsX9_copy_r9 : List Cond := [Cond.methodLink RX7 36 yX7_firstMarks, Cond.instanceMethod yX7_firstMarks, Cond.selects RX7 yX7_firstMarks yX7_firstMarks, Cond.code yX7_firstMarks cX7_firstMarks 1 (some .int), Cond.fieldLink RX7 45 "ReferenceMover$Span" "firstFixed" "Z"]
def wsX9_insert_r1 : List Cond := [Cond.classLink RX9 85 RX4, Cond.instantiable RX4 5, Cond.initialized RX4, Cond.methodLink RX9 81 yX9_checkLines, Cond.static yX9_checkLines, Cond.initialized RX9, Cond.code yX9_checkLines cX9_checkLines 5 none, Cond.classLink RX9 63 "java/lang/IllegalArgumentException", Cond.initialized "java/lang/IllegalArgumentException", Cond.constant RX9 48 (1048576), Cond.methodLink RX9 92 yX9_isSheet, Cond.static yX9_isSheet, Cond.code yX9_isSheet cX9_isSheet 1 (some .boolean), Cond.methodLink RX9 49 yX9_isLine, Cond.static yX9_isLine, Cond.code yX9_isLine cX9_isLine 2 (some .boolean), Cond.methodLink RX9 87 yX4_init, Cond.instanceMethod yX4_init, Cond.code yX4_init cX4_init 6 none, Cond.methodLink RX4 1 yX3_init, Cond.instanceMethod yX3_init, Cond.initialized RX3, Cond.code yX3_init cX3_init 6 none, Cond.fieldLink RX3 7 "ReferenceMover$LineChange" "home" "I"]
def wsX9_insert_r2 : List Cond := [Cond.fieldLink RX3 13 "ReferenceMover$LineChange" "sheet" "I", Cond.fieldLink RX3 16 "ReferenceMover$LineChange" "columns" "Z", Cond.fieldLink RX3 20 "ReferenceMover$LineChange" "at" "I", Cond.fieldLink RX3 23 "ReferenceMover$LineChange" "n" "I", Cond.instanceMethod yX1_init, Cond.initialized RX1, Cond.code yX1_init cX1_init 1 none, Cond.methodLink RX1 1 objectInit, Cond.instanceMethod objectInit, Cond.code objectInit ⟨#[0xb1]⟩ 1 none, Cond.methodLink RX9 77 yX9_changeReferences, Cond.instanceMethod yX9_changeReferences, Cond.selects RX9 yX9_changeReferences yX9_changeReferences, Cond.code yX9_changeReferences cX9_changeReferences 6 (some .int), Cond.fieldLink RX9 13 "ReferenceMover" "size" "I", Cond.fieldLink RX9 29 "ReferenceMover" "reference" "LReferenceMover$Reference;", Cond.methodLink RX9 125 yX9_word, Cond.instanceMethod yX9_word, Cond.selects RX9 yX9_word yX9_word, Cond.code yX9_word cX9_word 2 (some .int), Cond.fieldLink RX9 9 "ReferenceMover" "code" "[I", Cond.methodLink RX9 129 yX9_itemLength, Cond.static yX9_itemLength, Cond.code yX9_itemLength cX9_itemLength 1 (some .int)]
def wsX9_insert_r3 : List Cond := [Cond.methodLink RX9 33 yX9_isOfKind, Cond.static yX9_isOfKind, Cond.code yX9_isOfKind cX9_isOfKind 2 (some .boolean), Cond.methodLink RX9 122 yX9_put, Cond.instanceMethod yX9_put, Cond.selects RX9 yX9_put yX9_put, Cond.code yX9_put cX9_put 3 none, Cond.methodLink RX9 132 yX9_load, Cond.instanceMethod yX9_load, Cond.selects RX9 yX9_load yX9_load, Cond.code yX9_load cX9_load 6 none, Cond.fieldLink RX9 144 "ReferenceMover$Reference" "isRange" "Z", Cond.fieldLink RX9 148 "ReferenceMover$Reference" "whole" "I", Cond.fieldLink RX9 151 "ReferenceMover$Reference" "sheet" "I", Cond.fieldLink RX9 154 "ReferenceMover$Reference" "rows" "LReferenceMover$Span;", Cond.fieldLink RX9 164 "ReferenceMover$Reference" "columns" "LReferenceMover$Span;", Cond.methodLink RX9 56 yX9_has, Cond.static yX9_has, Cond.code yX9_has cX9_has 2 (some .boolean), Cond.methodLink RX9 158 yX8_setFirst, Cond.instanceMethod yX8_setFirst, Cond.selects RX8 yX8_setFirst yX8_setFirst, Cond.initialized RX8, Cond.code yX8_setFirst cX8_setFirst 3 none]
def wsX9_insert_r4 : List Cond := [Cond.fieldLink RX8 13 "ReferenceMover$Span" "first" "I", Cond.fieldLink RX8 16 "ReferenceMover$Span" "firstFixed" "Z", Cond.methodLink RX9 167 yX8_setLast, Cond.instanceMethod yX8_setLast, Cond.selects RX8 yX8_setLast yX8_setLast, Cond.code yX8_setLast cX8_setLast 3 none, Cond.fieldLink RX8 20 "ReferenceMover$Span" "last" "I", Cond.fieldLink RX8 23 "ReferenceMover$Span" "lastFixed" "Z", Cond.methodLink RX9 135 ⟨"ReferenceMover$Change", "keeps", "(LReferenceMover$Reference;)Z"⟩, Cond.sameMethod "ReferenceMover$Change" "ReferenceMover$Change" "keeps" "(LReferenceMover$Reference;)Z", Cond.selects RX2 ⟨"ReferenceMover$Change", "keeps", "(LReferenceMover$Reference;)Z"⟩ yX2_keeps, Cond.instanceMethod yX2_keeps, Cond.initialized RX2, Cond.code yX2_keeps cX2_keeps 2 (some .boolean), Cond.fieldLink RX2 18 "ReferenceMover$Reference" "whole" "I", Cond.fieldLink RX2 27 "ReferenceMover$Reference" "rows" "LReferenceMover$Span;", Cond.fieldLink RX2 9 "ReferenceMover$Copying" "down" "I", Cond.fieldLink RX2 37 "ReferenceMover$Reference" "columns" "LReferenceMover$Span;", Cond.fieldLink RX2 15 "ReferenceMover$Copying" "along" "I", Cond.methodLink RX2 31 yX8_shiftLoose, Cond.instanceMethod yX8_shiftLoose, Cond.selects RX8 yX8_shiftLoose yX8_shiftLoose, Cond.code yX8_shiftLoose cX8_shiftLoose 2 (some .boolean), Cond.fieldLink RX8 7 "ReferenceMover$Span" "lastLine" "I"]
def wsX9_insert_r5 : List Cond := [Cond.methodLink RX8 32 yX8_exchange, Cond.instanceMethod yX8_exchange, Cond.selects RX8 yX8_exchange yX8_exchange, Cond.code yX8_exchange cX8_exchange 3 none, Cond.methodLink RX8 35 yX8_setFirst, Cond.methodLink RX8 39 yX8_setLast, Cond.selects RX4 ⟨"ReferenceMover$Change", "keeps", "(LReferenceMover$Reference;)Z"⟩ yX3_keeps, Cond.instanceMethod yX3_keeps, Cond.code yX3_keeps cX3_keeps 2 (some .boolean), Cond.fieldLink RX3 32 "ReferenceMover$Reference" "columns" "LReferenceMover$Span;", Cond.fieldLink RX3 35 "ReferenceMover$Reference" "rows" "LReferenceMover$Span;", Cond.methodLink RX3 26 yX7_sheetSeenFrom, Cond.instanceMethod yX7_sheetSeenFrom, Cond.selects RX7 yX7_sheetSeenFrom yX7_sheetSeenFrom, Cond.initialized RX7, Cond.code yX7_sheetSeenFrom cX7_sheetSeenFrom 2 (some .int), Cond.fieldLink RX7 24 "ReferenceMover$Reference" "sheet" "I", Cond.methodLink RX3 38 ⟨"ReferenceMover$LineChange", "keepsLines", "(LReferenceMover$Span;)Z"⟩, Cond.sameMethod "ReferenceMover$LineChange" "ReferenceMover$LineChange" "keepsLines" "(LReferenceMover$Span;)Z", Cond.selects RX4 ⟨"ReferenceMover$LineChange", "keepsLines", "(LReferenceMover$Span;)Z"⟩ yX4_keepsLines, Cond.instanceMethod yX4_keepsLines, Cond.code yX4_keepsLines cX4_keepsLines 2 (some .boolean), Cond.fieldLink RX4 7 "ReferenceMover$LinesPutIn" "at" "I", Cond.sameField "ReferenceMover$LinesPutIn" "ReferenceMover$LineChange" "at" "I"]
def wsX9_insert_r6 : List Cond := [Cond.fieldLink RX4 13 "ReferenceMover$LinesPutIn" "n" "I", Cond.sameField "ReferenceMover$LinesPutIn" "ReferenceMover$LineChange" "n" "I", Cond.methodLink RX4 16 yX8_openGap, Cond.instanceMethod yX8_openGap, Cond.selects RX8 yX8_openGap yX8_openGap, Cond.code yX8_openGap cX8_openGap 3 (some .boolean), Cond.methodLink RX8 46 Lib.Math.min.name, Cond.static Lib.Math.min.name, Cond.initialized "java/lang/Math", Cond.code Lib.Math.min.name Lib.Math.min.code 2 (some .int), Cond.static yX9_areAllLines, Cond.code yX9_areAllLines cX9_areAllLines 3 (some .boolean), Cond.selects RX5 ⟨"ReferenceMover$LineChange", "keepsLines", "(LReferenceMover$Span;)Z"⟩ yX5_keepsLines, Cond.instanceMethod yX5_keepsLines, Cond.initialized RX5, Cond.code yX5_keepsLines cX5_keepsLines 2 (some .boolean), Cond.fieldLink RX5 7 "ReferenceMover$LinesTakenOut" "at" "I", Cond.sameField "ReferenceMover$LinesTakenOut" "ReferenceMover$LineChange" "at" "I", Cond.fieldLink RX5 13 "ReferenceMover$LinesTakenOut" "n" "I", Cond.sameField "ReferenceMover$LinesTakenOut" "ReferenceMover$LineChange" "n" "I", Cond.methodLink RX5 16 yX8_closeGap, Cond.instanceMethod yX8_closeGap, Cond.selects RX8 yX8_closeGap yX8_closeGap, Cond.code yX8_closeGap cX8_closeGap 4 (some .boolean)]
def wsX9_insert_r7 : List Cond := [Cond.selects RX5 ⟨"ReferenceMover$Change", "keeps", "(LReferenceMover$Reference;)Z"⟩ yX3_keeps, Cond.selects RX6 ⟨"ReferenceMover$Change", "keeps", "(LReferenceMover$Reference;)Z"⟩ yX6_keeps, Cond.instanceMethod yX6_keeps, Cond.initialized RX6, Cond.code yX6_keeps cX6_keeps 3 (some .boolean), Cond.fieldLink RX6 9 "ReferenceMover$Moving" "home" "I", Cond.fieldLink RX6 18 "ReferenceMover$Moving" "cut" "LReferenceMover$Area;", Cond.fieldLink RX6 37 "ReferenceMover$Reference" "rows" "LReferenceMover$Span;", Cond.fieldLink RX6 22 "ReferenceMover$Moving" "target" "LReferenceMover$Area;", Cond.fieldLink RX6 41 "ReferenceMover$Area" "top" "I", Cond.fieldLink RX6 50 "ReferenceMover$Reference" "columns" "LReferenceMover$Span;", Cond.fieldLink RX6 53 "ReferenceMover$Area" "left" "I", Cond.fieldLink RX6 56 "ReferenceMover$Area" "sheet" "I", Cond.fieldLink RX6 59 "ReferenceMover$Reference" "sheet" "I", Cond.fieldLink RX6 15 "ReferenceMover$Moving" "newHome" "I", Cond.methodLink RX6 25 yX7_sheetSeenFrom, Cond.methodLink RX6 31 yX0_holds, Cond.instanceMethod yX0_holds, Cond.selects RX0 yX0_holds yX0_holds, Cond.initialized RX0, Cond.code yX0_holds cX0_holds 3 (some .boolean), Cond.fieldLink RX0 7 "ReferenceMover$Area" "sheet" "I", Cond.fieldLink RX0 31 "ReferenceMover$Reference" "rows" "LReferenceMover$Span;", Cond.fieldLink RX0 13 "ReferenceMover$Area" "top" "I"]
def wsX9_insert_r8 : List Cond := [Cond.fieldLink RX0 19 "ReferenceMover$Area" "bottom" "I", Cond.fieldLink RX0 41 "ReferenceMover$Reference" "columns" "LReferenceMover$Span;", Cond.fieldLink RX0 16 "ReferenceMover$Area" "left" "I", Cond.fieldLink RX0 22 "ReferenceMover$Area" "right" "I", Cond.methodLink RX0 25 yX7_sheetSeenFrom, Cond.methodLink RX0 35 yX8_isWithin, Cond.instanceMethod yX8_isWithin, Cond.selects RX8 yX8_isWithin yX8_isWithin, Cond.code yX8_isWithin cX8_isWithin 3 (some .boolean), Cond.methodLink RX6 44 yX8_shift, Cond.instanceMethod yX8_shift, Cond.selects RX8 yX8_shift yX8_shift, Cond.code yX8_shift cX8_shift 2 none, Cond.methodLink RX9 141 yX9_store, Cond.instanceMethod yX9_store, Cond.selects RX9 yX9_store yX9_store, Cond.code yX9_store cX9_store 7 (some .boolean), Cond.methodLink RX9 170 yX7_wordAt, Cond.instanceMethod yX7_wordAt, Cond.selects RX7 yX7_wordAt yX7_wordAt, Cond.code yX7_wordAt cX7_wordAt 2 (some .int), Cond.fieldLink RX7 28 "ReferenceMover$Reference" "isRange" "Z", Cond.fieldLink RX7 15 "ReferenceMover$Reference" "rows" "LReferenceMover$Span;", Cond.fieldLink RX7 39 "ReferenceMover$Span" "first" "I"]
def wsX9_insert_r9 : List Cond := [Cond.fieldLink RX7 21 "ReferenceMover$Reference" "columns" "LReferenceMover$Span;", Cond.fieldLink RX7 42 "ReferenceMover$Span" "last" "I", Cond.methodLink RX7 32 yX7_rangeMarks, Cond.instanceMethod yX7_rangeMarks, Cond.selects RX7 yX7_rangeMarks yX7_rangeMarks, Cond.code yX7_rangeMarks cX7_rangeMarks 2 (some .int), Cond.fieldLink RX7 52 "ReferenceMover$Span" "lastFixed" "Z", Cond.fieldLink RX7 55 "ReferenceMover$Reference" "whole" "I", Cond.methodLink RX7 48 yX7_cornerMarks, Cond.static yX7_cornerMarks, Cond.code yX7_cornerMarks cX7_cornerMarks 2 (some .int), Cond.methodLink RX7 36 yX7_firstMarks, Cond.instanceMethod yX7_firstMarks, Cond.selects RX7 yX7_firstMarks yX7_firstMarks, Cond.code yX7_firstMarks cX7_firstMarks 1 (some .int), Cond.fieldLink RX7 45 "ReferenceMover$Span" "firstFixed" "Z"]
def wsX9_delete_r1 : List Cond := [Cond.classLink RX9 89 RX5, Cond.instantiable RX5 5, Cond.initialized RX5, Cond.methodLink RX9 81 yX9_checkLines, Cond.static yX9_checkLines, Cond.initialized RX9, Cond.code yX9_checkLines cX9_checkLines 5 none, Cond.classLink RX9 63 "java/lang/IllegalArgumentException", Cond.initialized "java/lang/IllegalArgumentException", Cond.constant RX9 48 (1048576), Cond.methodLink RX9 92 yX9_isSheet, Cond.static yX9_isSheet, Cond.code yX9_isSheet cX9_isSheet 1 (some .boolean), Cond.methodLink RX9 49 yX9_isLine, Cond.static yX9_isLine, Cond.code yX9_isLine cX9_isLine 2 (some .boolean), Cond.methodLink RX9 91 yX5_init, Cond.instanceMethod yX5_init, Cond.code yX5_init cX5_init 6 none, Cond.methodLink RX5 1 yX3_init, Cond.instanceMethod yX3_init, Cond.initialized RX3, Cond.code yX3_init cX3_init 6 none, Cond.fieldLink RX3 7 "ReferenceMover$LineChange" "home" "I"]
def wsX9_delete_r2 : List Cond := [Cond.fieldLink RX3 13 "ReferenceMover$LineChange" "sheet" "I", Cond.fieldLink RX3 16 "ReferenceMover$LineChange" "columns" "Z", Cond.fieldLink RX3 20 "ReferenceMover$LineChange" "at" "I", Cond.fieldLink RX3 23 "ReferenceMover$LineChange" "n" "I", Cond.instanceMethod yX1_init, Cond.initialized RX1, Cond.code yX1_init cX1_init 1 none, Cond.methodLink RX1 1 objectInit, Cond.instanceMethod objectInit, Cond.code objectInit ⟨#[0xb1]⟩ 1 none, Cond.methodLink RX9 77 yX9_changeReferences, Cond.instanceMethod yX9_changeReferences, Cond.selects RX9 yX9_changeReferences yX9_changeReferences, Cond.code yX9_changeReferences cX9_changeReferences 6 (some .int), Cond.fieldLink RX9 13 "ReferenceMover" "size" "I", Cond.fieldLink RX9 29 "ReferenceMover" "reference" "LReferenceMover$Reference;", Cond.methodLink RX9 125 yX9_word, Cond.instanceMethod yX9_word, Cond.selects RX9 yX9_word yX9_word, Cond.code yX9_word cX9_word 2 (some .int), Cond.fieldLink RX9 9 "ReferenceMover" "code" "[I", Cond.methodLink RX9 129 yX9_itemLength, Cond.static yX9_itemLength, Cond.code yX9_itemLength cX9_itemLength 1 (some .int)]
def wsX9_delete_r3 : List Cond := [Cond.methodLink RX9 33 yX9_isOfKind, Cond.static yX9_isOfKind, Cond.code yX9_isOfKind cX9_isOfKind 2 (some .boolean), Cond.methodLink RX9 122 yX9_put, Cond.instanceMethod yX9_put, Cond.selects RX9 yX9_put yX9_put, Cond.code yX9_put cX9_put 3 none, Cond.methodLink RX9 132 yX9_load, Cond.instanceMethod yX9_load, Cond.selects RX9 yX9_load yX9_load, Cond.code yX9_load cX9_load 6 none, Cond.fieldLink RX9 144 "ReferenceMover$Reference" "isRange" "Z", Cond.fieldLink RX9 148 "ReferenceMover$Reference" "whole" "I", Cond.fieldLink RX9 151 "ReferenceMover$Reference" "sheet" "I", Cond.fieldLink RX9 154 "ReferenceMover$Reference" "rows" "LReferenceMover$Span;", Cond.fieldLink RX9 164 "ReferenceMover$Reference" "columns" "LReferenceMover$Span;", Cond.methodLink RX9 56 yX9_has, Cond.static yX9_has, Cond.code yX9_has cX9_has 2 (some .boolean), Cond.methodLink RX9 158 yX8_setFirst, Cond.instanceMethod yX8_setFirst, Cond.selects RX8 yX8_setFirst yX8_setFirst, Cond.initialized RX8, Cond.code yX8_setFirst cX8_setFirst 3 none]
def wsX9_delete_r4 : List Cond := [Cond.fieldLink RX8 13 "ReferenceMover$Span" "first" "I", Cond.fieldLink RX8 16 "ReferenceMover$Span" "firstFixed" "Z", Cond.methodLink RX9 167 yX8_setLast, Cond.instanceMethod yX8_setLast, Cond.selects RX8 yX8_setLast yX8_setLast, Cond.code yX8_setLast cX8_setLast 3 none, Cond.fieldLink RX8 20 "ReferenceMover$Span" "last" "I", Cond.fieldLink RX8 23 "ReferenceMover$Span" "lastFixed" "Z", Cond.methodLink RX9 135 ⟨"ReferenceMover$Change", "keeps", "(LReferenceMover$Reference;)Z"⟩, Cond.sameMethod "ReferenceMover$Change" "ReferenceMover$Change" "keeps" "(LReferenceMover$Reference;)Z", Cond.selects RX2 ⟨"ReferenceMover$Change", "keeps", "(LReferenceMover$Reference;)Z"⟩ yX2_keeps, Cond.instanceMethod yX2_keeps, Cond.initialized RX2, Cond.code yX2_keeps cX2_keeps 2 (some .boolean), Cond.fieldLink RX2 18 "ReferenceMover$Reference" "whole" "I", Cond.fieldLink RX2 27 "ReferenceMover$Reference" "rows" "LReferenceMover$Span;", Cond.fieldLink RX2 9 "ReferenceMover$Copying" "down" "I", Cond.fieldLink RX2 37 "ReferenceMover$Reference" "columns" "LReferenceMover$Span;", Cond.fieldLink RX2 15 "ReferenceMover$Copying" "along" "I", Cond.methodLink RX2 31 yX8_shiftLoose, Cond.instanceMethod yX8_shiftLoose, Cond.selects RX8 yX8_shiftLoose yX8_shiftLoose, Cond.code yX8_shiftLoose cX8_shiftLoose 2 (some .boolean), Cond.fieldLink RX8 7 "ReferenceMover$Span" "lastLine" "I"]
def wsX9_delete_r5 : List Cond := [Cond.methodLink RX8 32 yX8_exchange, Cond.instanceMethod yX8_exchange, Cond.selects RX8 yX8_exchange yX8_exchange, Cond.code yX8_exchange cX8_exchange 3 none, Cond.methodLink RX8 35 yX8_setFirst, Cond.methodLink RX8 39 yX8_setLast, Cond.selects RX4 ⟨"ReferenceMover$Change", "keeps", "(LReferenceMover$Reference;)Z"⟩ yX3_keeps, Cond.instanceMethod yX3_keeps, Cond.code yX3_keeps cX3_keeps 2 (some .boolean), Cond.fieldLink RX3 32 "ReferenceMover$Reference" "columns" "LReferenceMover$Span;", Cond.fieldLink RX3 35 "ReferenceMover$Reference" "rows" "LReferenceMover$Span;", Cond.methodLink RX3 26 yX7_sheetSeenFrom, Cond.instanceMethod yX7_sheetSeenFrom, Cond.selects RX7 yX7_sheetSeenFrom yX7_sheetSeenFrom, Cond.initialized RX7, Cond.code yX7_sheetSeenFrom cX7_sheetSeenFrom 2 (some .int), Cond.fieldLink RX7 24 "ReferenceMover$Reference" "sheet" "I", Cond.methodLink RX3 38 ⟨"ReferenceMover$LineChange", "keepsLines", "(LReferenceMover$Span;)Z"⟩, Cond.sameMethod "ReferenceMover$LineChange" "ReferenceMover$LineChange" "keepsLines" "(LReferenceMover$Span;)Z", Cond.selects RX4 ⟨"ReferenceMover$LineChange", "keepsLines", "(LReferenceMover$Span;)Z"⟩ yX4_keepsLines, Cond.instanceMethod yX4_keepsLines, Cond.initialized RX4, Cond.code yX4_keepsLines cX4_keepsLines 2 (some .boolean), Cond.fieldLink RX4 7 "ReferenceMover$LinesPutIn" "at" "I"]
def wsX9_delete_r6 : List Cond := [Cond.sameField "ReferenceMover$LinesPutIn" "ReferenceMover$LineChange" "at" "I", Cond.fieldLink RX4 13 "ReferenceMover$LinesPutIn" "n" "I", Cond.sameField "ReferenceMover$LinesPutIn" "ReferenceMover$LineChange" "n" "I", Cond.methodLink RX4 16 yX8_openGap, Cond.instanceMethod yX8_openGap, Cond.selects RX8 yX8_openGap yX8_openGap, Cond.code yX8_openGap cX8_openGap 3 (some .boolean), Cond.methodLink RX8 46 Lib.Math.min.name, Cond.static Lib.Math.min.name, Cond.initialized "java/lang/Math", Cond.code Lib.Math.min.name Lib.Math.min.code 2 (some .int), Cond.static yX9_areAllLines, Cond.code yX9_areAllLines cX9_areAllLines 3 (some .boolean), Cond.selects RX5 ⟨"ReferenceMover$LineChange", "keepsLines", "(LReferenceMover$Span;)Z"⟩ yX5_keepsLines, Cond.instanceMethod yX5_keepsLines, Cond.code yX5_keepsLines cX5_keepsLines 2 (some .boolean), Cond.fieldLink RX5 7 "ReferenceMover$LinesTakenOut" "at" "I", Cond.sameField "ReferenceMover$LinesTakenOut" "ReferenceMover$LineChange" "at" "I", Cond.fieldLink RX5 13 "ReferenceMover$LinesTakenOut" "n" "I", Cond.sameField "ReferenceMover$LinesTakenOut" "ReferenceMover$LineChange" "n" "I", Cond.methodLink RX5 16 yX8_closeGap, Cond.instanceMethod yX8_closeGap, Cond.selects RX8 yX8_closeGap yX8_closeGap, Cond.code yX8_closeGap cX8_closeGap 4 (some .boolean)]
def wsX9_delete_r7 : List Cond := [Cond.selects RX5 ⟨"ReferenceMover$Change", "keeps", "(LReferenceMover$Reference;)Z"⟩ yX3_keeps, Cond.selects RX6 ⟨"ReferenceMover$Change", "keeps", "(LReferenceMover$Reference;)Z"⟩ yX6_keeps, Cond.instanceMethod yX6_keeps, Cond.initialized RX6, Cond.code yX6_keeps cX6_keeps 3 (some .boolean), Cond.fieldLink RX6 9 "ReferenceMover$Moving" "home" "I", Cond.fieldLink RX6 18 "ReferenceMover$Moving" "cut" "LReferenceMover$Area;", Cond.fieldLink RX6 37 "ReferenceMover$Reference" "rows" "LReferenceMover$Span;", Cond.fieldLink RX6 22 "ReferenceMover$Moving" "target" "LReferenceMover$Area;", Cond.fieldLink RX6 41 "ReferenceMover$Area" "top" "I", Cond.fieldLink RX6 50 "ReferenceMover$Reference" "columns" "LReferenceMover$Span;", Cond.fieldLink RX6 53 "ReferenceMover$Area" "left" "I", Cond.fieldLink RX6 56 "ReferenceMover$Area" "sheet" "I", Cond.fieldLink RX6 59 "ReferenceMover$Reference" "sheet" "I", Cond.fieldLink RX6 15 "ReferenceMover$Moving" "newHome" "I", Cond.methodLink RX6 25 yX7_sheetSeenFrom, Cond.methodLink RX6 31 yX0_holds, Cond.instanceMethod yX0_holds, Cond.selects RX0 yX0_holds yX0_holds, Cond.initialized RX0, Cond.code yX0_holds cX0_holds 3 (some .boolean), Cond.fieldLink RX0 7 "ReferenceMover$Area" "sheet" "I", Cond.fieldLink RX0 31 "ReferenceMover$Reference" "rows" "LReferenceMover$Span;", Cond.fieldLink RX0 13 "ReferenceMover$Area" "top" "I"]
def wsX9_delete_r8 : List Cond := [Cond.fieldLink RX0 19 "ReferenceMover$Area" "bottom" "I", Cond.fieldLink RX0 41 "ReferenceMover$Reference" "columns" "LReferenceMover$Span;", Cond.fieldLink RX0 16 "ReferenceMover$Area" "left" "I", Cond.fieldLink RX0 22 "ReferenceMover$Area" "right" "I", Cond.methodLink RX0 25 yX7_sheetSeenFrom, Cond.methodLink RX0 35 yX8_isWithin, Cond.instanceMethod yX8_isWithin, Cond.selects RX8 yX8_isWithin yX8_isWithin, Cond.code yX8_isWithin cX8_isWithin 3 (some .boolean), Cond.methodLink RX6 44 yX8_shift, Cond.instanceMethod yX8_shift, Cond.selects RX8 yX8_shift yX8_shift, Cond.code yX8_shift cX8_shift 2 none, Cond.methodLink RX9 141 yX9_store, Cond.instanceMethod yX9_store, Cond.selects RX9 yX9_store yX9_store, Cond.code yX9_store cX9_store 7 (some .boolean), Cond.methodLink RX9 170 yX7_wordAt, Cond.instanceMethod yX7_wordAt, Cond.selects RX7 yX7_wordAt yX7_wordAt, Cond.code yX7_wordAt cX7_wordAt 2 (some .int), Cond.fieldLink RX7 28 "ReferenceMover$Reference" "isRange" "Z", Cond.fieldLink RX7 15 "ReferenceMover$Reference" "rows" "LReferenceMover$Span;", Cond.fieldLink RX7 39 "ReferenceMover$Span" "first" "I"]
def wsX9_delete_r9 : List Cond := [Cond.fieldLink RX7 21 "ReferenceMover$Reference" "columns" "LReferenceMover$Span;", Cond.fieldLink RX7 42 "ReferenceMover$Span" "last" "I", Cond.methodLink RX7 32 yX7_rangeMarks, Cond.instanceMethod yX7_rangeMarks, Cond.selects RX7 yX7_rangeMarks yX7_rangeMarks, Cond.code yX7_rangeMarks cX7_rangeMarks 2 (some .int), Cond.fieldLink RX7 52 "ReferenceMover$Span" "lastFixed" "Z", Cond.fieldLink RX7 55 "ReferenceMover$Reference" "whole" "I", Cond.methodLink RX7 48 yX7_cornerMarks, Cond.static yX7_cornerMarks, Cond.code yX7_cornerMarks cX7_cornerMarks 2 (some .int), Cond.methodLink RX7 36 yX7_firstMarks, Cond.instanceMethod yX7_firstMarks, Cond.selects RX7 yX7_firstMarks yX7_firstMarks, Cond.code yX7_firstMarks cX7_firstMarks 1 (some .int), Cond.fieldLink RX7 45 "ReferenceMover$Span" "firstFixed" "Z"]
def wsX9_rectangle : List Cond := .code yX9_rectangle cX9_rectangle 6 (some .boolean) :: ([.constant RX9 48 (1048576), .classLink RX9 17 RX0, .instantiable RX0 5, .initialized RX0, .fieldLink RX9 22 "ReferenceMover" "cut" "LReferenceMover$Area;", .methodLink RX9 92 yX9_isSheet, .static yX9_isSheet, .initialized RX9, .code yX9_isSheet cX9_isSheet 1 (some .boolean), .methodLink RX9 52 yX9_areLines, .static yX9_areLines, .code yX9_areLines cX9_areLines 3 (some .boolean), .methodLink RX9 19 yX0_init, .instanceMethod yX0_init, .code yX0_init cX0_init 6 none, .methodLink RX0 1 objectInit, .instanceMethod objectInit, .code objectInit ⟨#[0xb1]⟩ 1 none, .fieldLink RX0 7 "ReferenceMover$Area" "sheet" "I", .fieldLink RX0 13 "ReferenceMover$Area" "top" "I", .fieldLink RX0 16 "ReferenceMover$Area" "left" "I", .fieldLink RX0 19 "ReferenceMover$Area" "bottom" "I", .fieldLink RX0 22 "ReferenceMover$Area" "right" "I"] ++ wsX00 ++ wsX90)
def wsX9_move_r1 : List Cond := [Cond.classLink RX9 63 "java/lang/IllegalArgumentException", Cond.initialized "java/lang/IllegalArgumentException", Cond.constant RX9 48 (1048576), Cond.fieldLink RX9 22 "ReferenceMover" "cut" "LReferenceMover$Area;", Cond.fieldLink RX9 99 "ReferenceMover$Area" "bottom" "I", Cond.fieldLink RX9 102 "ReferenceMover$Area" "top" "I", Cond.fieldLink RX9 105 "ReferenceMover$Area" "right" "I", Cond.fieldLink RX9 108 "ReferenceMover$Area" "left" "I", Cond.classLink RX9 17 RX0, Cond.instantiable RX0 5, Cond.initialized RX0, Cond.classLink RX9 113 RX6, Cond.instantiable RX6 4, Cond.initialized RX6, Cond.methodLink RX9 92 yX9_isSheet, Cond.static yX9_isSheet, Cond.initialized RX9, Cond.code yX9_isSheet cX9_isSheet 1 (some .boolean), Cond.methodLink RX9 49 yX9_isLine, Cond.static yX9_isLine, Cond.code yX9_isLine cX9_isLine 2 (some .boolean), Cond.methodLink RX9 19 yX0_init, Cond.instanceMethod yX0_init, Cond.code yX0_init cX0_init 6 none]
def wsX9_move_r2 : List Cond := [Cond.methodLink RX0 1 objectInit, Cond.instanceMethod objectInit, Cond.code objectInit ⟨#[0xb1]⟩ 1 none, Cond.fieldLink RX0 7 "ReferenceMover$Area" "sheet" "I", Cond.fieldLink RX0 13 "ReferenceMover$Area" "top" "I", Cond.fieldLink RX0 16 "ReferenceMover$Area" "left" "I", Cond.fieldLink RX0 19 "ReferenceMover$Area" "bottom" "I", Cond.fieldLink RX0 22 "ReferenceMover$Area" "right" "I", Cond.methodLink RX9 115 yX6_init, Cond.instanceMethod yX6_init, Cond.code yX6_init cX6_init 5 none, Cond.fieldLink RX6 9 "ReferenceMover$Moving" "home" "I", Cond.fieldLink RX6 15 "ReferenceMover$Moving" "newHome" "I", Cond.fieldLink RX6 18 "ReferenceMover$Moving" "cut" "LReferenceMover$Area;", Cond.fieldLink RX6 22 "ReferenceMover$Moving" "target" "LReferenceMover$Area;", Cond.instanceMethod yX1_init, Cond.initialized RX1, Cond.code yX1_init cX1_init 1 none, Cond.methodLink RX1 1 objectInit, Cond.methodLink RX9 77 yX9_changeReferences, Cond.instanceMethod yX9_changeReferences, Cond.selects RX9 yX9_changeReferences yX9_changeReferences, Cond.code yX9_changeReferences cX9_changeReferences 6 (some .int), Cond.fieldLink RX9 13 "ReferenceMover" "size" "I"]
def wsX9_move_r3 : List Cond := [Cond.fieldLink RX9 29 "ReferenceMover" "reference" "LReferenceMover$Reference;", Cond.methodLink RX9 125 yX9_word, Cond.instanceMethod yX9_word, Cond.selects RX9 yX9_word yX9_word, Cond.code yX9_word cX9_word 2 (some .int), Cond.fieldLink RX9 9 "ReferenceMover" "code" "[I", Cond.methodLink RX9 129 yX9_itemLength, Cond.static yX9_itemLength, Cond.code yX9_itemLength cX9_itemLength 1 (some .int), Cond.methodLink RX9 33 yX9_isOfKind, Cond.static yX9_isOfKind, Cond.code yX9_isOfKind cX9_isOfKind 2 (some .boolean), Cond.methodLink RX9 122 yX9_put, Cond.instanceMethod yX9_put, Cond.selects RX9 yX9_put yX9_put, Cond.code yX9_put cX9_put 3 none, Cond.methodLink RX9 132 yX9_load, Cond.instanceMethod yX9_load, Cond.selects RX9 yX9_load yX9_load, Cond.code yX9_load cX9_load 6 none, Cond.fieldLink RX9 144 "ReferenceMover$Reference" "isRange" "Z", Cond.fieldLink RX9 148 "ReferenceMover$Reference" "whole" "I", Cond.fieldLink RX9 151 "ReferenceMover$Reference" "sheet" "I", Cond.fieldLink RX9 154 "ReferenceMover$Reference" "rows" "LReferenceMover$Span;"]
def wsX9_move_r4 : List Cond := [Cond.fieldLink RX9 164 "ReferenceMover$Reference" "columns" "LReferenceMover$Span;", Cond.methodLink RX9 56 yX9_has, Cond.static yX9_has, Cond.code yX9_has cX9_has 2 (some .boolean), Cond.methodLink RX9 158 yX8_setFirst, Cond.instanceMethod yX8_setFirst, Cond.selects RX8 yX8_setFirst yX8_setFirst, Cond.initialized RX8, Cond.code yX8_setFirst cX8_setFirst 3 none, Cond.fieldLink RX8 13 "ReferenceMover$Span" "first" "I", Cond.fieldLink RX8 16 "ReferenceMover$Span" "firstFixed" "Z", Cond.methodLink RX9 167 yX8_setLast, Cond.instanceMethod yX8_setLast, Cond.selects RX8 yX8_setLast yX8_setLast, Cond.code yX8_setLast cX8_setLast 3 none, Cond.fieldLink RX8 20 "ReferenceMover$Span" "last" "I", Cond.fieldLink RX8 23 "ReferenceMover$Span" "lastFixed" "Z", Cond.methodLink RX9 135 ⟨"ReferenceMover$Change", "keeps", "(LReferenceMover$Reference;)Z"⟩, Cond.sameMethod "ReferenceMover$Change" "ReferenceMover$Change" "keeps" "(LReferenceMover$Reference;)Z", Cond.selects RX2 ⟨"ReferenceMover$Change", "keeps", "(LReferenceMover$Reference;)Z"⟩ yX2_keeps, Cond.instanceMethod yX2_keeps, Cond.initialized RX2, Cond.code yX2_keeps cX2_keeps 2 (some .boolean), Cond.fieldLink RX2 18 "ReferenceMover$Reference" "whole" "I"]
def wsX9_move_r5 : List Cond := [Cond.fieldLink RX2 27 "ReferenceMover$Reference" "rows" "LReferenceMover$Span;", Cond.fieldLink RX2 9 "ReferenceMover$Copying" "down" "I", Cond.fieldLink RX2 37 "ReferenceMover$Reference" "columns" "LReferenceMover$Span;", Cond.fieldLink RX2 15 "ReferenceMover$Copying" "along" "I", Cond.methodLink RX2 31 yX8_shiftLoose, Cond.instanceMethod yX8_shiftLoose, Cond.selects RX8 yX8_shiftLoose yX8_shiftLoose, Cond.code yX8_shiftLoose cX8_shiftLoose 2 (some .boolean), Cond.fieldLink RX8 7 "ReferenceMover$Span" "lastLine" "I", Cond.methodLink RX8 32 yX8_exchange, Cond.instanceMethod yX8_exchange, Cond.selects RX8 yX8_exchange yX8_exchange, Cond.code yX8_exchange cX8_exchange 3 none, Cond.methodLink RX8 35 yX8_setFirst, Cond.methodLink RX8 39 yX8_setLast, Cond.selects RX4 ⟨"ReferenceMover$Change", "keeps", "(LReferenceMover$Reference;)Z"⟩ yX3_keeps, Cond.instanceMethod yX3_keeps, Cond.initialized RX3, Cond.code yX3_keeps cX3_keeps 2 (some .boolean), Cond.fieldLink RX3 7 "ReferenceMover$LineChange" "home" "I", Cond.fieldLink RX3 13 "ReferenceMover$LineChange" "sheet" "I", Cond.fieldLink RX3 16 "ReferenceMover$LineChange" "columns" "Z", Cond.fieldLink RX3 32 "ReferenceMover$Reference" "columns" "LReferenceMover$Span;", Cond.fieldLink RX3 35 "ReferenceMover$Reference" "rows" "LReferenceMover$Span;"]
def wsX9_move_r6 : List Cond := [Cond.methodLink RX3 26 yX7_sheetSeenFrom, Cond.instanceMethod yX7_sheetSeenFrom, Cond.selects RX7 yX7_sheetSeenFrom yX7_sheetSeenFrom, Cond.initialized RX7, Cond.code yX7_sheetSeenFrom cX7_sheetSeenFrom 2 (some .int), Cond.fieldLink RX7 24 "ReferenceMover$Reference" "sheet" "I", Cond.methodLink RX3 38 ⟨"ReferenceMover$LineChange", "keepsLines", "(LReferenceMover$Span;)Z"⟩, Cond.sameMethod "ReferenceMover$LineChange" "ReferenceMover$LineChange" "keepsLines" "(LReferenceMover$Span;)Z", Cond.selects RX4 ⟨"ReferenceMover$LineChange", "keepsLines", "(LReferenceMover$Span;)Z"⟩ yX4_keepsLines, Cond.instanceMethod yX4_keepsLines, Cond.initialized RX4, Cond.code yX4_keepsLines cX4_keepsLines 2 (some .boolean), Cond.fieldLink RX4 7 "ReferenceMover$LinesPutIn" "at" "I", Cond.sameField "ReferenceMover$LinesPutIn" "ReferenceMover$LineChange" "at" "I", Cond.fieldLink RX4 13 "ReferenceMover$LinesPutIn" "n" "I", Cond.sameField "ReferenceMover$LinesPutIn" "ReferenceMover$LineChange" "n" "I", Cond.methodLink RX4 16 yX8_openGap, Cond.instanceMethod yX8_openGap, Cond.selects RX8 yX8_openGap yX8_openGap, Cond.code yX8_openGap cX8_openGap 3 (some .boolean), Cond.methodLink RX8 46 Lib.Math.min.name, Cond.static Lib.Math.min.name, Cond.initialized "java/lang/Math", Cond.code Lib.Math.min.name Lib.Math.min.code 2 (some .int)]
def wsX9_move_r7 : List Cond := [Cond.static yX9_areAllLines, Cond.code yX9_areAllLines cX9_areAllLines 3 (some .boolean), Cond.selects RX5 ⟨"ReferenceMover$LineChange", "keepsLines", "(LReferenceMover$Span;)Z"⟩ yX5_keepsLines, Cond.instanceMethod yX5_keepsLines, Cond.initialized RX5, Cond.code yX5_keepsLines cX5_keepsLines 2 (some .boolean), Cond.fieldLink RX5 7 "ReferenceMover$LinesTakenOut" "at" "I", Cond.sameField "ReferenceMover$LinesTakenOut" "ReferenceMover$LineChange" "at" "I", Cond.fieldLink RX5 13 "ReferenceMover$LinesTakenOut" "n" "I", Cond.sameField "ReferenceMover$LinesTakenOut" "ReferenceMover$LineChange" "n" "I", Cond.methodLink RX5 16 yX8_closeGap, Cond.instanceMethod yX8_closeGap, Cond.selects RX8 yX8_closeGap yX8_closeGap, Cond.code yX8_closeGap cX8_closeGap 4 (some .boolean), Cond.selects RX5 ⟨"ReferenceMover$Change", "keeps", "(LReferenceMover$Reference;)Z"⟩ yX3_keeps, Cond.selects RX6 ⟨"ReferenceMover$Change", "keeps", "(LReferenceMover$Reference;)Z"⟩ yX6_keeps, Cond.instanceMethod yX6_keeps, Cond.code yX6_keeps cX6_keeps 3 (some .boolean), Cond.fieldLink RX6 37 "ReferenceMover$Reference" "rows" "LReferenceMover$Span;", Cond.fieldLink RX6 41 "ReferenceMover$Area" "top" "I", Cond.fieldLink RX6 50 "ReferenceMover$Reference" "columns" "LReferenceMover$Span;", Cond.fieldLink RX6 53 "ReferenceMover$Area" "left" "I", Cond.fieldLink RX6 56 "ReferenceMover$Area" "sheet" "I", Cond.fieldLink RX6 59 "ReferenceMover$Reference" "sheet" "I"]
def wsX9_move_r8 : List Cond := [Cond.methodLink RX6 25 yX7_sheetSeenFrom, Cond.methodLink RX6 31 yX0_holds, Cond.instanceMethod yX0_holds, Cond.selects RX0 yX0_holds yX0_holds, Cond.code yX0_holds cX0_holds 3 (some .boolean), Cond.fieldLink RX0 31 "ReferenceMover$Reference" "rows" "LReferenceMover$Span;", Cond.fieldLink RX0 41 "ReferenceMover$Reference" "columns" "LReferenceMover$Span;", Cond.methodLink RX0 25 yX7_sheetSeenFrom, Cond.methodLink RX0 35 yX8_isWithin, Cond.instanceMethod yX8_isWithin, Cond.selects RX8 yX8_isWithin yX8_isWithin, Cond.code yX8_isWithin cX8_isWithin 3 (some .boolean), Cond.methodLink RX6 44 yX8_shift, Cond.instanceMethod yX8_shift, Cond.selects RX8 yX8_shift yX8_shift, Cond.code yX8_shift cX8_shift 2 none, Cond.methodLink RX9 141 yX9_store, Cond.instanceMethod yX9_store, Cond.selects RX9 yX9_store yX9_store, Cond.code yX9_store cX9_store 7 (some .boolean), Cond.methodLink RX9 170 yX7_wordAt, Cond.instanceMethod yX7_wordAt, Cond.selects RX7 yX7_wordAt yX7_wordAt, Cond.code yX7_wordAt cX7_wordAt 2 (some .int)]
def wsX9_move_r9 : List Cond := [Cond.fieldLink RX7 28 "ReferenceMover$Reference" "isRange" "Z", Cond.fieldLink RX7 15 "ReferenceMover$Reference" "rows" "LReferenceMover$Span;", Cond.fieldLink RX7 39 "ReferenceMover$Span" "first" "I", Cond.fieldLink RX7 21 "ReferenceMover$Reference" "columns" "LReferenceMover$Span;", Cond.fieldLink RX7 42 "ReferenceMover$Span" "last" "I", Cond.methodLink RX7 32 yX7_rangeMarks, Cond.instanceMethod yX7_rangeMarks, Cond.selects RX7 yX7_rangeMarks yX7_rangeMarks, Cond.code yX7_rangeMarks cX7_rangeMarks 2 (some .int), Cond.fieldLink RX7 52 "ReferenceMover$Span" "lastFixed" "Z", Cond.fieldLink RX7 55 "ReferenceMover$Reference" "whole" "I", Cond.methodLink RX7 48 yX7_cornerMarks, Cond.static yX7_cornerMarks, Cond.code yX7_cornerMarks cX7_cornerMarks 2 (some .int), Cond.methodLink RX7 36 yX7_firstMarks, Cond.instanceMethod yX7_firstMarks, Cond.selects RX7 yX7_firstMarks yX7_firstMarks, Cond.code yX7_firstMarks cX7_firstMarks 1 (some .int), Cond.fieldLink RX7 45 "ReferenceMover$Span" "firstFixed" "Z"]
def wsX10_init : List Cond := .code yX10_init cX10_init 1 none :: ([.methodLink RX10 1 objectInit, .instanceMethod objectInit, .code objectInit ⟨#[0xb1]⟩ 1 none, .arrayClass .int, .fieldLink RX10 7 "ReferenceMoverModel" "words" "[I", .fieldLink RX10 13 "ReferenceMoverModel" "making" "[I", .fieldLink RX10 16 "ReferenceMoverModel" "top" "I", .fieldLink RX10 20 "ReferenceMoverModel" "left" "I", .fieldLink RX10 23 "ReferenceMoverModel" "bottom" "I", .fieldLink RX10 26 "ReferenceMoverModel" "right" "I"] ++ wsX100)
def wsX10_thrown : List Cond := .code yX10_thrown cX10_thrown 1 (some .int) :: ([.fieldLink RX10 29 "ReferenceMoverModel" "code" "I"] ++ wsX100)
def wsX10_within : List Cond := .code yX10_within cX10_within 3 (some .boolean) :: ([])
def wsX10_clear : List Cond := .code yX10_clear cX10_clear 1 none :: ([.fieldLink RX10 29 "ReferenceMoverModel" "code" "I", .fieldLink RX10 32 "ReferenceMoverModel" "size" "I"] ++ wsX100)
def wsX10_put : List Cond := .code yX10_put cX10_put 2 none :: ([.fieldLink RX10 7 "ReferenceMoverModel" "words" "[I", .fieldLink RX10 32 "ReferenceMoverModel" "size" "I"] ++ wsX100)
def wsX10_other : List Cond := .code yX10_other cX10_other 2 (some .boolean) :: ([.fieldLink RX10 29 "ReferenceMoverModel" "code" "I", .fieldLink RX10 32 "ReferenceMoverModel" "size" "I", .methodLink RX10 35 yX10_put, .instanceMethod yX10_put, .selects RX10 yX10_put yX10_put, .initialized RX10, .code yX10_put cX10_put 2 none, .fieldLink RX10 7 "ReferenceMoverModel" "words" "[I"] ++ wsX100)
def wsX10_isCell : List Cond := .code yX10_isCell cX10_isCell 2 (some .boolean) :: ([.constant RX10 39 (1048576), .methodLink RX10 40 yX10_within, .static yX10_within, .initialized RX10, .code yX10_within cX10_within 3 (some .boolean)])
def wsX10_place : List Cond := .code yX10_place cX10_place 5 (some .boolean) :: ([.fieldLink RX10 29 "ReferenceMoverModel" "code" "I", .fieldLink RX10 32 "ReferenceMoverModel" "size" "I", .methodLink RX10 40 yX10_within, .static yX10_within, .initialized RX10, .code yX10_within cX10_within 3 (some .boolean), .methodLink RX10 44 yX10_isCell, .static yX10_isCell, .code yX10_isCell cX10_isCell 2 (some .boolean), .constant RX10 39 (1048576), .methodLink RX10 35 yX10_put, .instanceMethod yX10_put, .selects RX10 yX10_put yX10_put, .code yX10_put cX10_put 2 none, .fieldLink RX10 7 "ReferenceMoverModel" "words" "[I"] ++ wsX100)
def wsX10_range : List Cond := .code yX10_range cX10_range 9 (some .boolean) :: ([.fieldLink RX10 29 "ReferenceMoverModel" "code" "I", .constant RX10 39 (1048576), .fieldLink RX10 32 "ReferenceMoverModel" "size" "I", .methodLink RX10 40 yX10_within, .static yX10_within, .initialized RX10, .code yX10_within cX10_within 3 (some .boolean), .methodLink RX10 44 yX10_isCell, .static yX10_isCell, .code yX10_isCell cX10_isCell 2 (some .boolean), .methodLink RX10 35 yX10_put, .instanceMethod yX10_put, .selects RX10 yX10_put yX10_put, .code yX10_put cX10_put 2 none, .fieldLink RX10 7 "ReferenceMoverModel" "words" "[I"] ++ wsX100)
def wsX10_size : List Cond := .code yX10_size cX10_size 1 (some .int) :: ([.fieldLink RX10 29 "ReferenceMoverModel" "code" "I", .fieldLink RX10 32 "ReferenceMoverModel" "size" "I"] ++ wsX100)
def wsX10_word : List Cond := .code yX10_word cX10_word 2 (some .int) :: ([.fieldLink RX10 29 "ReferenceMoverModel" "code" "I", .fieldLink RX10 32 "ReferenceMoverModel" "size" "I", .fieldLink RX10 7 "ReferenceMoverModel" "words" "[I"] ++ wsX100)
def wsX10_make : List Cond := .code yX10_make cX10_make 2 none :: ([.fieldLink RX10 13 "ReferenceMoverModel" "making" "[I", .fieldLink RX10 48 "ReferenceMoverModel" "made" "I"] ++ wsX100)
def wsX10_lengthAt : List Cond := .code yX10_lengthAt cX10_lengthAt 2 (some .int) :: ([.fieldLink RX10 7 "ReferenceMoverModel" "words" "[I"] ++ wsX100)
def wsX10_lose : List Cond := .code yX10_lose cX10_lose 1 none :: ([.fieldLink RX10 54 "ReferenceMoverModel" "changed" "I", .methodLink RX10 51 yX10_make, .instanceMethod yX10_make, .selects RX10 yX10_make yX10_make, .initialized RX10, .code yX10_make cX10_make 2 none, .fieldLink RX10 13 "ReferenceMoverModel" "making" "[I", .fieldLink RX10 48 "ReferenceMoverModel" "made" "I"] ++ wsX100)
def wsX10_makePlace : List Cond := .code yX10_makePlace cX10_makePlace 5 none :: ([.fieldLink RX10 54 "ReferenceMoverModel" "changed" "I", .fieldLink RX10 7 "ReferenceMoverModel" "words" "[I", .methodLink RX10 51 yX10_make, .instanceMethod yX10_make, .selects RX10 yX10_make yX10_make, .initialized RX10, .code yX10_make cX10_make 2 none, .fieldLink RX10 13 "ReferenceMoverModel" "making" "[I", .fieldLink RX10 48 "ReferenceMoverModel" "made" "I"] ++ wsX100)
def wsX10_makeRange : List Cond := .code yX10_makeRange cX10_makeRange 9 none :: ([.fieldLink RX10 54 "ReferenceMoverModel" "changed" "I", .fieldLink RX10 7 "ReferenceMoverModel" "words" "[I", .methodLink RX10 51 yX10_make, .instanceMethod yX10_make, .selects RX10 yX10_make yX10_make, .initialized RX10, .code yX10_make cX10_make 2 none, .fieldLink RX10 13 "ReferenceMoverModel" "making" "[I", .fieldLink RX10 48 "ReferenceMoverModel" "made" "I"] ++ wsX100)
def wsX10_finish : List Cond := .code yX10_finish cX10_finish 2 (some .int) :: ([.fieldLink RX10 48 "ReferenceMoverModel" "made" "I", .fieldLink RX10 7 "ReferenceMoverModel" "words" "[I", .fieldLink RX10 13 "ReferenceMoverModel" "making" "[I", .fieldLink RX10 32 "ReferenceMoverModel" "size" "I", .fieldLink RX10 54 "ReferenceMoverModel" "changed" "I"] ++ wsX100)
def wsX10_begin : List Cond := .code yX10_begin cX10_begin 1 none :: ([.fieldLink RX10 48 "ReferenceMoverModel" "made" "I", .fieldLink RX10 54 "ReferenceMoverModel" "changed" "I"] ++ wsX100)
def wsX10_moved : List Cond := .code yX10_moved cX10_moved 4 (some .int) :: ([.methodLink RX10 40 yX10_within, .static yX10_within, .initialized RX10, .code yX10_within cX10_within 3 (some .boolean)])
def wsX10_copyRange : List Cond := .code yX10_copyRange cX10_copyRange 14 none :: ([.fieldLink RX10 7 "ReferenceMoverModel" "words" "[I", .constant RX10 39 (1048576), .methodLink RX10 57 yX10_moved, .static yX10_moved, .initialized RX10, .code yX10_moved cX10_moved 4 (some .int), .methodLink RX10 40 yX10_within, .static yX10_within, .code yX10_within cX10_within 3 (some .boolean), .methodLink RX10 61 yX10_lose, .instanceMethod yX10_lose, .selects RX10 yX10_lose yX10_lose, .code yX10_lose cX10_lose 1 none, .fieldLink RX10 54 "ReferenceMoverModel" "changed" "I", .methodLink RX10 51 yX10_make, .instanceMethod yX10_make, .selects RX10 yX10_make yX10_make, .code yX10_make cX10_make 2 none, .fieldLink RX10 13 "ReferenceMoverModel" "making" "[I", .fieldLink RX10 48 "ReferenceMoverModel" "made" "I", .methodLink RX10 64 yX10_makeRange, .instanceMethod yX10_makeRange, .selects RX10 yX10_makeRange yX10_makeRange, .code yX10_makeRange cX10_makeRange 9 none] ++ wsX100)
def wsX10_copy_r1 : List Cond := [Cond.constant RX10 68 (-1048575), Cond.constant RX10 69 (1048575), Cond.fieldLink RX10 29 "ReferenceMoverModel" "code" "I", Cond.fieldLink RX10 32 "ReferenceMoverModel" "size" "I", Cond.fieldLink RX10 7 "ReferenceMoverModel" "words" "[I", Cond.constant RX10 39 (1048576), Cond.methodLink RX10 40 yX10_within, Cond.static yX10_within, Cond.initialized RX10, Cond.code yX10_within cX10_within 3 (some .boolean), Cond.methodLink RX10 70 yX10_begin, Cond.instanceMethod yX10_begin, Cond.selects RX10 yX10_begin yX10_begin, Cond.code yX10_begin cX10_begin 1 none, Cond.fieldLink RX10 48 "ReferenceMoverModel" "made" "I", Cond.fieldLink RX10 54 "ReferenceMoverModel" "changed" "I", Cond.methodLink RX10 73 yX10_lengthAt, Cond.instanceMethod yX10_lengthAt, Cond.selects RX10 yX10_lengthAt yX10_lengthAt, Cond.code yX10_lengthAt cX10_lengthAt 2 (some .int), Cond.methodLink RX10 57 yX10_moved, Cond.static yX10_moved, Cond.code yX10_moved cX10_moved 4 (some .int), Cond.methodLink RX10 51 yX10_make]
def wsX10_copy_r2 : List Cond := [Cond.instanceMethod yX10_make, Cond.selects RX10 yX10_make yX10_make, Cond.code yX10_make cX10_make 2 none, Cond.fieldLink RX10 13 "ReferenceMoverModel" "making" "[I", Cond.methodLink RX10 77 yX10_copyRange, Cond.instanceMethod yX10_copyRange, Cond.selects RX10 yX10_copyRange yX10_copyRange, Cond.code yX10_copyRange cX10_copyRange 14 none, Cond.methodLink RX10 61 yX10_lose, Cond.instanceMethod yX10_lose, Cond.selects RX10 yX10_lose yX10_lose, Cond.code yX10_lose cX10_lose 1 none, Cond.methodLink RX10 64 yX10_makeRange, Cond.instanceMethod yX10_makeRange, Cond.selects RX10 yX10_makeRange yX10_makeRange, Cond.code yX10_makeRange cX10_makeRange 9 none, Cond.methodLink RX10 81 yX10_makePlace, Cond.instanceMethod yX10_makePlace, Cond.selects RX10 yX10_makePlace yX10_makePlace, Cond.code yX10_makePlace cX10_makePlace 5 none, Cond.methodLink RX10 85 yX10_finish, Cond.instanceMethod yX10_finish, Cond.selects RX10 yX10_finish yX10_finish, Cond.code yX10_finish cX10_finish 2 (some .int)]
def wsX10_copy : List Cond := .code yX10_copy cX10_copy 7 (some .int) :: ((wsX10_copy_r1 ++ wsX10_copy_r2) ++ wsX100)
def wsX10_lines : List Cond := .code yX10_lines cX10_lines 1 (some .int) :: ([.constant RX10 39 (1048576)])
def wsX10_shifted : List Cond := .code yX10_shifted cX10_shifted 4 (some .int) :: ([.methodLink RX10 89 yX10_lines, .static yX10_lines, .initialized RX10, .code yX10_lines cX10_lines 1 (some .int), .constant RX10 39 (1048576)])
def wsX10_firstLeft : List Cond := .code yX10_firstLeft cX10_firstLeft 6 (some .int) :: ([.methodLink RX10 93 yX10_shifted, .static yX10_shifted, .initialized RX10, .code yX10_shifted cX10_shifted 4 (some .int), .methodLink RX10 89 yX10_lines, .static yX10_lines, .code yX10_lines cX10_lines 1 (some .int), .constant RX10 39 (1048576)])
def wsX10_lastLeft : List Cond := .code yX10_lastLeft cX10_lastLeft 6 (some .int) :: ([.methodLink RX10 93 yX10_shifted, .static yX10_shifted, .initialized RX10, .code yX10_shifted cX10_shifted 4 (some .int), .methodLink RX10 89 yX10_lines, .static yX10_lines, .code yX10_lines cX10_lines 1 (some .int), .constant RX10 39 (1048576)])
def wsX10_shiftRange_r1 : List Cond := [Cond.fieldLink RX10 7 "ReferenceMoverModel" "words" "[I", Cond.methodLink RX10 89 yX10_lines, Cond.static yX10_lines, Cond.initialized RX10, Cond.code yX10_lines cX10_lines 1 (some .int), Cond.constant RX10 39 (1048576), Cond.methodLink RX10 96 yX10_firstLeft, Cond.static yX10_firstLeft, Cond.code yX10_firstLeft cX10_firstLeft 6 (some .int), Cond.methodLink RX10 93 yX10_shifted, Cond.static yX10_shifted, Cond.code yX10_shifted cX10_shifted 4 (some .int), Cond.methodLink RX10 100 yX10_lastLeft, Cond.static yX10_lastLeft, Cond.code yX10_lastLeft cX10_lastLeft 6 (some .int), Cond.methodLink RX10 61 yX10_lose, Cond.instanceMethod yX10_lose, Cond.selects RX10 yX10_lose yX10_lose, Cond.code yX10_lose cX10_lose 1 none, Cond.fieldLink RX10 54 "ReferenceMoverModel" "changed" "I", Cond.methodLink RX10 51 yX10_make, Cond.instanceMethod yX10_make, Cond.selects RX10 yX10_make yX10_make, Cond.code yX10_make cX10_make 2 none]
def wsX10_shiftRange_r2 : List Cond := [Cond.fieldLink RX10 13 "ReferenceMoverModel" "making" "[I", Cond.fieldLink RX10 48 "ReferenceMoverModel" "made" "I", Cond.methodLink RX10 64 yX10_makeRange, Cond.instanceMethod yX10_makeRange, Cond.selects RX10 yX10_makeRange yX10_makeRange, Cond.code yX10_makeRange cX10_makeRange 9 none]
def wsX10_shiftRange : List Cond := .code yX10_shiftRange cX10_shiftRange 10 none :: ((wsX10_shiftRange_r1 ++ wsX10_shiftRange_r2) ++ wsX100)
def wsX10_shift_r1 : List Cond := [Cond.fieldLink RX10 32 "ReferenceMoverModel" "size" "I", Cond.fieldLink RX10 7 "ReferenceMoverModel" "words" "[I", Cond.methodLink RX10 70 yX10_begin, Cond.instanceMethod yX10_begin, Cond.selects RX10 yX10_begin yX10_begin, Cond.initialized RX10, Cond.code yX10_begin cX10_begin 1 none, Cond.fieldLink RX10 48 "ReferenceMoverModel" "made" "I", Cond.fieldLink RX10 54 "ReferenceMoverModel" "changed" "I", Cond.methodLink RX10 73 yX10_lengthAt, Cond.instanceMethod yX10_lengthAt, Cond.selects RX10 yX10_lengthAt yX10_lengthAt, Cond.code yX10_lengthAt cX10_lengthAt 2 (some .int), Cond.methodLink RX10 51 yX10_make, Cond.instanceMethod yX10_make, Cond.selects RX10 yX10_make yX10_make, Cond.code yX10_make cX10_make 2 none, Cond.fieldLink RX10 13 "ReferenceMoverModel" "making" "[I", Cond.methodLink RX10 103 yX10_shiftRange, Cond.instanceMethod yX10_shiftRange, Cond.selects RX10 yX10_shiftRange yX10_shiftRange, Cond.code yX10_shiftRange cX10_shiftRange 10 none, Cond.methodLink RX10 89 yX10_lines, Cond.static yX10_lines]
def wsX10_shift_r2 : List Cond := [Cond.code yX10_lines cX10_lines 1 (some .int), Cond.constant RX10 39 (1048576), Cond.methodLink RX10 96 yX10_firstLeft, Cond.static yX10_firstLeft, Cond.code yX10_firstLeft cX10_firstLeft 6 (some .int), Cond.methodLink RX10 93 yX10_shifted, Cond.static yX10_shifted, Cond.code yX10_shifted cX10_shifted 4 (some .int), Cond.methodLink RX10 100 yX10_lastLeft, Cond.static yX10_lastLeft, Cond.code yX10_lastLeft cX10_lastLeft 6 (some .int), Cond.methodLink RX10 61 yX10_lose, Cond.instanceMethod yX10_lose, Cond.selects RX10 yX10_lose yX10_lose, Cond.code yX10_lose cX10_lose 1 none, Cond.methodLink RX10 64 yX10_makeRange, Cond.instanceMethod yX10_makeRange, Cond.selects RX10 yX10_makeRange yX10_makeRange, Cond.code yX10_makeRange cX10_makeRange 9 none, Cond.methodLink RX10 81 yX10_makePlace, Cond.instanceMethod yX10_makePlace, Cond.selects RX10 yX10_makePlace yX10_makePlace, Cond.code yX10_makePlace cX10_makePlace 5 none, Cond.methodLink RX10 85 yX10_finish]
def wsX10_shift_r3 : List Cond := [Cond.instanceMethod yX10_finish, Cond.selects RX10 yX10_finish yX10_finish, Cond.code yX10_finish cX10_finish 2 (some .int)]
def wsX10_shift : List Cond := .code yX10_shift cX10_shift 11 (some .int) :: ((wsX10_shift_r1 ++ (wsX10_shift_r2 ++ wsX10_shift_r3)) ++ wsX100)
def wsX10_isLine : List Cond := .code yX10_isLine cX10_isLine 5 (some .boolean) :: ([.methodLink RX10 40 yX10_within, .static yX10_within, .initialized RX10, .code yX10_within cX10_within 3 (some .boolean), .methodLink RX10 89 yX10_lines, .static yX10_lines, .code yX10_lines cX10_lines 1 (some .int), .constant RX10 39 (1048576)])
def wsX10_insert_r1 : List Cond := [Cond.fieldLink RX10 29 "ReferenceMoverModel" "code" "I", Cond.methodLink RX10 107 yX10_isLine, Cond.static yX10_isLine, Cond.initialized RX10, Cond.code yX10_isLine cX10_isLine 5 (some .boolean), Cond.methodLink RX10 40 yX10_within, Cond.static yX10_within, Cond.code yX10_within cX10_within 3 (some .boolean), Cond.methodLink RX10 89 yX10_lines, Cond.static yX10_lines, Cond.code yX10_lines cX10_lines 1 (some .int), Cond.constant RX10 39 (1048576), Cond.methodLink RX10 111 yX10_shift, Cond.instanceMethod yX10_shift, Cond.selects RX10 yX10_shift yX10_shift, Cond.code yX10_shift cX10_shift 11 (some .int), Cond.fieldLink RX10 32 "ReferenceMoverModel" "size" "I", Cond.fieldLink RX10 7 "ReferenceMoverModel" "words" "[I", Cond.methodLink RX10 70 yX10_begin, Cond.instanceMethod yX10_begin, Cond.selects RX10 yX10_begin yX10_begin, Cond.code yX10_begin cX10_begin 1 none, Cond.fieldLink RX10 48 "ReferenceMoverModel" "made" "I", Cond.fieldLink RX10 54 "ReferenceMoverModel" "changed" "I"]
def wsX10_insert_r2 : List Cond := [Cond.methodLink RX10 73 yX10_lengthAt, Cond.instanceMethod yX10_lengthAt, Cond.selects RX10 yX10_lengthAt yX10_lengthAt, Cond.code yX10_lengthAt cX10_lengthAt 2 (some .int), Cond.methodLink RX10 51 yX10_make, Cond.instanceMethod yX10_make, Cond.selects RX10 yX10_make yX10_make, Cond.code yX10_make cX10_make 2 none, Cond.fieldLink RX10 13 "ReferenceMoverModel" "making" "[I", Cond.methodLink RX10 103 yX10_shiftRange, Cond.instanceMethod yX10_shiftRange, Cond.selects RX10 yX10_shiftRange yX10_shiftRange, Cond.code yX10_shiftRange cX10_shiftRange 10 none, Cond.methodLink RX10 96 yX10_firstLeft, Cond.static yX10_firstLeft, Cond.code yX10_firstLeft cX10_firstLeft 6 (some .int), Cond.methodLink RX10 93 yX10_shifted, Cond.static yX10_shifted, Cond.code yX10_shifted cX10_shifted 4 (some .int), Cond.methodLink RX10 100 yX10_lastLeft, Cond.static yX10_lastLeft, Cond.code yX10_lastLeft cX10_lastLeft 6 (some .int), Cond.methodLink RX10 61 yX10_lose, Cond.instanceMethod yX10_lose]
def wsX10_insert_r3 : List Cond := [Cond.selects RX10 yX10_lose yX10_lose, Cond.code yX10_lose cX10_lose 1 none, Cond.methodLink RX10 64 yX10_makeRange, Cond.instanceMethod yX10_makeRange, Cond.selects RX10 yX10_makeRange yX10_makeRange, Cond.code yX10_makeRange cX10_makeRange 9 none, Cond.methodLink RX10 81 yX10_makePlace, Cond.instanceMethod yX10_makePlace, Cond.selects RX10 yX10_makePlace yX10_makePlace, Cond.code yX10_makePlace cX10_makePlace 5 none, Cond.methodLink RX10 85 yX10_finish, Cond.instanceMethod yX10_finish, Cond.selects RX10 yX10_finish yX10_finish, Cond.code yX10_finish cX10_finish 2 (some .int)]
def wsX10_insert : List Cond := .code yX10_insert cX10_insert 6 (some .int) :: ((wsX10_insert_r1 ++ (wsX10_insert_r2 ++ wsX10_insert_r3)) ++ wsX100)
def wsX10_delete_r1 : List Cond := [Cond.fieldLink RX10 29 "ReferenceMoverModel" "code" "I", Cond.methodLink RX10 107 yX10_isLine, Cond.static yX10_isLine, Cond.initialized RX10, Cond.code yX10_isLine cX10_isLine 5 (some .boolean), Cond.methodLink RX10 40 yX10_within, Cond.static yX10_within, Cond.code yX10_within cX10_within 3 (some .boolean), Cond.methodLink RX10 89 yX10_lines, Cond.static yX10_lines, Cond.code yX10_lines cX10_lines 1 (some .int), Cond.constant RX10 39 (1048576), Cond.methodLink RX10 111 yX10_shift, Cond.instanceMethod yX10_shift, Cond.selects RX10 yX10_shift yX10_shift, Cond.code yX10_shift cX10_shift 11 (some .int), Cond.fieldLink RX10 32 "ReferenceMoverModel" "size" "I", Cond.fieldLink RX10 7 "ReferenceMoverModel" "words" "[I", Cond.methodLink RX10 70 yX10_begin, Cond.instanceMethod yX10_begin, Cond.selects RX10 yX10_begin yX10_begin, Cond.code yX10_begin cX10_begin 1 none, Cond.fieldLink RX10 48 "ReferenceMoverModel" "made" "I", Cond.fieldLink RX10 54 "ReferenceMoverModel" "changed" "I"]
def wsX10_delete_r2 : List Cond := [Cond.methodLink RX10 73 yX10_lengthAt, Cond.instanceMethod yX10_lengthAt, Cond.selects RX10 yX10_lengthAt yX10_lengthAt, Cond.code yX10_lengthAt cX10_lengthAt 2 (some .int), Cond.methodLink RX10 51 yX10_make, Cond.instanceMethod yX10_make, Cond.selects RX10 yX10_make yX10_make, Cond.code yX10_make cX10_make 2 none, Cond.fieldLink RX10 13 "ReferenceMoverModel" "making" "[I", Cond.methodLink RX10 103 yX10_shiftRange, Cond.instanceMethod yX10_shiftRange, Cond.selects RX10 yX10_shiftRange yX10_shiftRange, Cond.code yX10_shiftRange cX10_shiftRange 10 none, Cond.methodLink RX10 96 yX10_firstLeft, Cond.static yX10_firstLeft, Cond.code yX10_firstLeft cX10_firstLeft 6 (some .int), Cond.methodLink RX10 93 yX10_shifted, Cond.static yX10_shifted, Cond.code yX10_shifted cX10_shifted 4 (some .int), Cond.methodLink RX10 100 yX10_lastLeft, Cond.static yX10_lastLeft, Cond.code yX10_lastLeft cX10_lastLeft 6 (some .int), Cond.methodLink RX10 61 yX10_lose, Cond.instanceMethod yX10_lose]
def wsX10_delete_r3 : List Cond := [Cond.selects RX10 yX10_lose yX10_lose, Cond.code yX10_lose cX10_lose 1 none, Cond.methodLink RX10 64 yX10_makeRange, Cond.instanceMethod yX10_makeRange, Cond.selects RX10 yX10_makeRange yX10_makeRange, Cond.code yX10_makeRange cX10_makeRange 9 none, Cond.methodLink RX10 81 yX10_makePlace, Cond.instanceMethod yX10_makePlace, Cond.selects RX10 yX10_makePlace yX10_makePlace, Cond.code yX10_makePlace cX10_makePlace 5 none, Cond.methodLink RX10 85 yX10_finish, Cond.instanceMethod yX10_finish, Cond.selects RX10 yX10_finish yX10_finish, Cond.code yX10_finish cX10_finish 2 (some .int)]
def wsX10_delete : List Cond := .code yX10_delete cX10_delete 6 (some .int) :: ((wsX10_delete_r1 ++ (wsX10_delete_r2 ++ wsX10_delete_r3)) ++ wsX100)
def wsX10_rectangle : List Cond := .code yX10_rectangle cX10_rectangle 6 (some .boolean) :: ([.fieldLink RX10 29 "ReferenceMoverModel" "code" "I", .fieldLink RX10 114 "ReferenceMoverModel" "sheet" "I", .fieldLink RX10 16 "ReferenceMoverModel" "top" "I", .fieldLink RX10 20 "ReferenceMoverModel" "left" "I", .fieldLink RX10 23 "ReferenceMoverModel" "bottom" "I", .fieldLink RX10 26 "ReferenceMoverModel" "right" "I", .methodLink RX10 40 yX10_within, .static yX10_within, .initialized RX10, .code yX10_within cX10_within 3 (some .boolean), .methodLink RX10 44 yX10_isCell, .static yX10_isCell, .code yX10_isCell cX10_isCell 2 (some .boolean), .constant RX10 39 (1048576)] ++ wsX100)
def wsX10_moveItem_r1 : List Cond := [Cond.fieldLink RX10 7 "ReferenceMoverModel" "words" "[I", Cond.fieldLink RX10 16 "ReferenceMoverModel" "top" "I", Cond.fieldLink RX10 20 "ReferenceMoverModel" "left" "I", Cond.fieldLink RX10 114 "ReferenceMoverModel" "sheet" "I", Cond.fieldLink RX10 23 "ReferenceMoverModel" "bottom" "I", Cond.fieldLink RX10 26 "ReferenceMoverModel" "right" "I", Cond.methodLink RX10 73 yX10_lengthAt, Cond.instanceMethod yX10_lengthAt, Cond.selects RX10 yX10_lengthAt yX10_lengthAt, Cond.initialized RX10, Cond.code yX10_lengthAt cX10_lengthAt 2 (some .int), Cond.methodLink RX10 61 yX10_lose, Cond.instanceMethod yX10_lose, Cond.selects RX10 yX10_lose yX10_lose, Cond.code yX10_lose cX10_lose 1 none, Cond.fieldLink RX10 54 "ReferenceMoverModel" "changed" "I", Cond.methodLink RX10 51 yX10_make, Cond.instanceMethod yX10_make, Cond.selects RX10 yX10_make yX10_make, Cond.code yX10_make cX10_make 2 none, Cond.fieldLink RX10 13 "ReferenceMoverModel" "making" "[I", Cond.fieldLink RX10 48 "ReferenceMoverModel" "made" "I", Cond.methodLink RX10 81 yX10_makePlace, Cond.instanceMethod yX10_makePlace]
def wsX10_moveItem_r2 : List Cond := [Cond.selects RX10 yX10_makePlace yX10_makePlace, Cond.code yX10_makePlace cX10_makePlace 5 none, Cond.methodLink RX10 64 yX10_makeRange, Cond.instanceMethod yX10_makeRange, Cond.selects RX10 yX10_makeRange yX10_makeRange, Cond.code yX10_makeRange cX10_makeRange 9 none]
def wsX10_moveItem : List Cond := .code yX10_moveItem cX10_moveItem 19 none :: ((wsX10_moveItem_r1 ++ wsX10_moveItem_r2) ++ wsX100)
def wsX10_move_r1 : List Cond := [Cond.fieldLink RX10 23 "ReferenceMoverModel" "bottom" "I", Cond.fieldLink RX10 16 "ReferenceMoverModel" "top" "I", Cond.constant RX10 39 (1048576), Cond.fieldLink RX10 26 "ReferenceMoverModel" "right" "I", Cond.fieldLink RX10 20 "ReferenceMoverModel" "left" "I", Cond.fieldLink RX10 29 "ReferenceMoverModel" "code" "I", Cond.fieldLink RX10 32 "ReferenceMoverModel" "size" "I", Cond.fieldLink RX10 7 "ReferenceMoverModel" "words" "[I", Cond.methodLink RX10 40 yX10_within, Cond.static yX10_within, Cond.initialized RX10, Cond.code yX10_within cX10_within 3 (some .boolean), Cond.methodLink RX10 44 yX10_isCell, Cond.static yX10_isCell, Cond.code yX10_isCell cX10_isCell 2 (some .boolean), Cond.methodLink RX10 70 yX10_begin, Cond.instanceMethod yX10_begin, Cond.selects RX10 yX10_begin yX10_begin, Cond.code yX10_begin cX10_begin 1 none, Cond.fieldLink RX10 48 "ReferenceMoverModel" "made" "I", Cond.fieldLink RX10 54 "ReferenceMoverModel" "changed" "I", Cond.methodLink RX10 73 yX10_lengthAt, Cond.instanceMethod yX10_lengthAt, Cond.selects RX10 yX10_lengthAt yX10_lengthAt]
def wsX10_move_r2 : List Cond := [Cond.code yX10_lengthAt cX10_lengthAt 2 (some .int), Cond.methodLink RX10 51 yX10_make, Cond.instanceMethod yX10_make, Cond.selects RX10 yX10_make yX10_make, Cond.code yX10_make cX10_make 2 none, Cond.fieldLink RX10 13 "ReferenceMoverModel" "making" "[I", Cond.methodLink RX10 117 yX10_moveItem, Cond.instanceMethod yX10_moveItem, Cond.selects RX10 yX10_moveItem yX10_moveItem, Cond.code yX10_moveItem cX10_moveItem 19 none, Cond.fieldLink RX10 114 "ReferenceMoverModel" "sheet" "I", Cond.methodLink RX10 61 yX10_lose, Cond.instanceMethod yX10_lose, Cond.selects RX10 yX10_lose yX10_lose, Cond.code yX10_lose cX10_lose 1 none, Cond.methodLink RX10 81 yX10_makePlace, Cond.instanceMethod yX10_makePlace, Cond.selects RX10 yX10_makePlace yX10_makePlace, Cond.code yX10_makePlace cX10_makePlace 5 none, Cond.methodLink RX10 64 yX10_makeRange, Cond.instanceMethod yX10_makeRange, Cond.selects RX10 yX10_makeRange yX10_makeRange, Cond.code yX10_makeRange cX10_makeRange 9 none, Cond.methodLink RX10 85 yX10_finish]
def wsX10_move_r3 : List Cond := [Cond.instanceMethod yX10_finish, Cond.selects RX10 yX10_finish yX10_finish, Cond.code yX10_finish cX10_finish 2 (some .int)]
def wsX10_move : List Cond := .code yX10_move cX10_move 8 (some .int) :: ((wsX10_move_r1 ++ (wsX10_move_r2 ++ wsX10_move_r3)) ++ wsX100)
def wsJ9_min_7cf53 : List Cond := .code yJ9_min_7cf53 cJ9_min_7cf53 2 (some .int) :: ([])
theorem inX1 : ∀ w ∈ wsX10, w ∈ lw_tbl := by decide +kernel
theorem inX3 : ∀ w ∈ wsX30, w ∈ lw_tbl := by decide +kernel
theorem inJ9 : ∀ w ∈ wsJ90, w ∈ lw_tbl := by decide +kernel
theorem inJ0 : ∀ w ∈ wsJ00, w ∈ lw_tbl := by decide +kernel
set_option maxRecDepth 20000 in
theorem ggX0_holds_X7_sheetSeenFrom : GoodIn wsX0_holds wsX7_sheetSeenFrom := goodIn_r _ [12, 13, 26, 27, 28, 29, 30] (by decide +kernel) (by decide +kernel)
set_option maxRecDepth 20000 in
theorem gX0_holds_X7_sheetSeenFrom : GoodIn wsX0_holds (wsV RX0 25 RX7 yX7_sheetSeenFrom wsX7_sheetSeenFrom) := goodIn_app (goodIn_of _ (by decide +kernel)) ggX0_holds_X7_sheetSeenFrom
set_option maxRecDepth 20000 in
theorem ggX0_holds_X8_isWithin : GoodIn wsX0_holds wsX8_isWithin := goodIn_r _ [18, 19, 20, 31, 32, 33, 34, 35] (by decide +kernel) (by decide +kernel)
set_option maxRecDepth 20000 in
theorem gX0_holds_X8_isWithin : GoodIn wsX0_holds (wsV RX0 35 RX8 yX8_isWithin wsX8_isWithin) := goodIn_app (goodIn_of _ (by decide +kernel)) ggX0_holds_X8_isWithin
set_option maxRecDepth 20000 in
theorem ggX2_init_X1_init : GoodIn wsX2_init wsX1_init := goodIn_r _ [5, 6, 7, 8] (by decide +kernel) (by decide +kernel)
set_option maxRecDepth 20000 in
theorem gX2_init_X1_init_n3 : GoodIn wsX2_init (wsX1_init) := ggX2_init_X1_init
set_option maxRecDepth 20000 in
theorem ggX2_keeps_X9_has : GoodIn wsX2_keeps wsX9_has := goodIn_r _ [8] (by decide +kernel) (by decide +kernel)
set_option maxRecDepth 20000 in
theorem gX2_keeps_X9_has_n23 : GoodIn wsX2_keeps (wsX9_has) := ggX2_keeps_X9_has
set_option maxRecDepth 20000 in
theorem ggX2_keeps_X8_shiftLoose : GoodIn wsX2_keeps wsX8_shiftLoose := goodIn_r _ [13, 14, 15, 16, 17, 18, 19, 7, 20, 21, 22, 23, 12, 24, 25, 26, 27, 28, 29, 30, 31, 32, 40, 41, 42, 43, 44] (by decide +kernel) (by decide +kernel)
set_option maxRecDepth 20000 in
theorem gX2_keeps_X8_shiftLoose : GoodIn wsX2_keeps (wsV RX2 31 RX8 yX8_shiftLoose wsX8_shiftLoose) := goodIn_app (goodIn_of _ (by decide +kernel)) ggX2_keeps_X8_shiftLoose
set_option maxRecDepth 20000 in
theorem ggX3_init_X1_init : GoodIn wsX3_init wsX1_init := goodIn_r _ [8, 9, 10, 11] (by decide +kernel) (by decide +kernel)
set_option maxRecDepth 20000 in
theorem gX3_init_X1_init_n1 : GoodIn wsX3_init (wsX1_init) := ggX3_init_X1_init
set_option maxRecDepth 20000 in
theorem ggX3_keeps_X7_sheetSeenFrom : GoodIn wsX3_keeps wsX7_sheetSeenFrom := goodIn_r _ [10, 11, 59, 60, 61, 62, 63] (by decide +kernel) (by decide +kernel)
set_option maxRecDepth 20000 in
theorem gX3_keeps_X7_sheetSeenFrom : GoodIn wsX3_keeps (wsV RX3 26 RX7 yX7_sheetSeenFrom wsX7_sheetSeenFrom) := goodIn_app (goodIn_of _ (by decide +kernel)) ggX3_keeps_X7_sheetSeenFrom
set_option maxRecDepth 20000 in
theorem ggX3_keeps_X4_keepsLines : GoodIn wsX3_keeps wsX4_keepsLines := goodIn_r _ [17, 18, 19, 20, 21, 22, 23, 24, 25, 26, 27, 28, 29, 30, 31, 32, 33, 34, 35, 36, 49, 50, 51, 52, 53, 54, 55, 56, 57, 58, 64, 65, 66, 67, 68] (by decide +kernel) (by decide +kernel)
set_option maxRecDepth 20000 in
theorem gX3_keeps_X4_keepsLines_u38X4 : GoodIn wsX3_keeps (va_wsU RX3 38 RX4 "ReferenceMover$LineChange" ⟨"ReferenceMover$LineChange", "keepsLines", "(LReferenceMover$Span;)Z"⟩ yX4_keepsLines wsX4_keepsLines) := goodIn_app (goodIn_of _ (by decide +kernel)) ggX3_keeps_X4_keepsLines
set_option maxRecDepth 20000 in
theorem ggX3_keeps_X5_keepsLines : GoodIn wsX3_keeps wsX5_keepsLines := goodIn_r _ [40, 41, 42, 43, 44, 45, 46, 47, 25, 48, 27, 28, 29, 34, 35, 36, 49, 50, 51, 52, 53, 54, 55, 56, 57, 58, 64, 65, 66, 67, 68] (by decide +kernel) (by decide +kernel)
set_option maxRecDepth 20000 in
theorem gX3_keeps_X5_keepsLines_u38X5 : GoodIn wsX3_keeps (va_wsU RX3 38 RX5 "ReferenceMover$LineChange" ⟨"ReferenceMover$LineChange", "keepsLines", "(LReferenceMover$Span;)Z"⟩ yX5_keepsLines wsX5_keepsLines) := goodIn_app (goodIn_of _ (by decide +kernel)) ggX3_keeps_X5_keepsLines
set_option maxRecDepth 20000 in
theorem ggX4_init_X3_init : GoodIn wsX4_init wsX3_init := goodIn_r _ [4, 5, 6, 7, 8, 9, 10, 11, 12, 13, 14, 15, 16, 17, 18, 19, 20, 21, 22, 23, 24, 25] (by decide +kernel) (by decide +kernel)
set_option maxRecDepth 20000 in
theorem gX4_init_X3_init : GoodIn wsX4_init (wsX3_init) := ggX4_init_X3_init
set_option maxRecDepth 20000 in
theorem ggX4_keepsLines_X8_openGap : GoodIn wsX4_keepsLines wsX8_openGap := goodIn_r _ [9, 10, 11, 12, 13, 14, 15, 16, 17, 18, 19, 30, 31, 32, 33, 34] (by decide +kernel) (by decide +kernel)
set_option maxRecDepth 20000 in
theorem gX4_keepsLines_X8_openGap : GoodIn wsX4_keepsLines (wsV RX4 16 RX8 yX8_openGap wsX8_openGap) := goodIn_app (goodIn_of _ (by decide +kernel)) ggX4_keepsLines_X8_openGap
set_option maxRecDepth 20000 in
theorem ggX5_init_X3_init : GoodIn wsX5_init wsX3_init := goodIn_r _ [4, 5, 6, 7, 8, 9, 10, 11, 12, 13, 14, 15, 16, 17, 18, 19, 20, 21, 22, 23, 24, 25] (by decide +kernel) (by decide +kernel)
set_option maxRecDepth 20000 in
theorem gX5_init_X3_init : GoodIn wsX5_init (wsX3_init) := ggX5_init_X3_init
set_option maxRecDepth 20000 in
theorem ggX5_keepsLines_X8_closeGap : GoodIn wsX5_keepsLines wsX8_closeGap := goodIn_r _ [9, 10, 11, 12, 13, 14, 15, 26, 27, 28, 29, 30] (by decide +kernel) (by decide +kernel)
set_option maxRecDepth 20000 in
theorem gX5_keepsLines_X8_closeGap : GoodIn wsX5_keepsLines (wsV RX5 16 RX8 yX8_closeGap wsX8_closeGap) := goodIn_app (goodIn_of _ (by decide +kernel)) ggX5_keepsLines_X8_closeGap
set_option maxRecDepth 20000 in
theorem ggX6_init_X1_init : GoodIn wsX6_init wsX1_init := goodIn_r _ [7, 8, 9, 10] (by decide +kernel) (by decide +kernel)
set_option maxRecDepth 20000 in
theorem gX6_init_X1_init_n3 : GoodIn wsX6_init (wsX1_init) := ggX6_init_X1_init
set_option maxRecDepth 20000 in
theorem ggX6_keeps_X7_sheetSeenFrom : GoodIn wsX6_keeps wsX7_sheetSeenFrom := goodIn_r _ [15, 16, 45, 46, 47, 48, 49] (by decide +kernel) (by decide +kernel)
set_option maxRecDepth 20000 in
theorem gX6_keeps_X7_sheetSeenFrom : GoodIn wsX6_keeps (wsV RX6 25 RX7 yX7_sheetSeenFrom wsX7_sheetSeenFrom) := goodIn_app (goodIn_of _ (by decide +kernel)) ggX6_keeps_X7_sheetSeenFrom
set_option maxRecDepth 20000 in
theorem ggX6_keeps_X0_holds : GoodIn wsX6_keeps wsX0_holds := goodIn_r _ [21, 22, 23, 24, 25, 26, 27, 28, 29, 12, 13, 14, 15, 16, 30, 31, 32, 33, 34, 35, 36, 50, 51, 52, 53, 54, 45, 46, 47, 48, 49, 55, 56, 57, 58, 59] (by decide +kernel) (by decide +kernel)
set_option maxRecDepth 20000 in
theorem gX6_keeps_X0_holds : GoodIn wsX6_keeps (wsV RX6 31 RX0 yX0_holds wsX0_holds) := goodIn_app (goodIn_of _ (by decide +kernel)) ggX6_keeps_X0_holds
set_option maxRecDepth 20000 in
theorem ggX6_keeps_X8_shift : GoodIn wsX6_keeps wsX8_shift := goodIn_r _ [40, 35, 36, 55, 56, 57, 58, 59] (by decide +kernel) (by decide +kernel)
set_option maxRecDepth 20000 in
theorem gX6_keeps_X8_shift : GoodIn wsX6_keeps (wsV RX6 44 RX8 yX8_shift wsX8_shift) := goodIn_app (goodIn_of _ (by decide +kernel)) ggX6_keeps_X8_shift
set_option maxRecDepth 20000 in
theorem ggX7_init_X8_init : GoodIn wsX7_init wsX8_init := goodIn_r _ [12, 13, 2, 3, 14, 15, 16, 17, 18, 19] (by decide +kernel) (by decide +kernel)
set_option maxRecDepth 20000 in
theorem gX7_init_X8_init : GoodIn wsX7_init (wsX8_init) := ggX7_init_X8_init
set_option maxRecDepth 20000 in
theorem ggX7_wordAt_X7_rangeMarks : GoodIn wsX7_wordAt wsX7_rangeMarks := goodIn_r _ [11, 3, 12, 5, 13, 14, 15, 10, 16, 17, 18, 19, 20, 21, 22, 23, 24, 25, 26, 27, 28, 29, 30, 31] (by decide +kernel) (by decide +kernel)
set_option maxRecDepth 20000 in
theorem gX7_wordAt_X7_rangeMarks : GoodIn wsX7_wordAt (wsV RX7 32 RX7 yX7_rangeMarks wsX7_rangeMarks) := goodIn_app (goodIn_of _ (by decide +kernel)) ggX7_wordAt_X7_rangeMarks
set_option maxRecDepth 20000 in
theorem ggX7_wordAt_X7_firstMarks : GoodIn wsX7_wordAt wsX7_firstMarks := goodIn_r _ [20, 3, 21, 5, 14, 15, 10, 16, 22, 23, 24, 25, 26, 27, 28, 29, 30, 31] (by decide +kernel) (by decide +kernel)
set_option maxRecDepth 20000 in
theorem gX7_wordAt_X7_firstMarks : GoodIn wsX7_wordAt (wsV RX7 36 RX7 yX7_firstMarks wsX7_firstMarks) := goodIn_app (goodIn_of _ (by decide +kernel)) ggX7_wordAt_X7_firstMarks
set_option maxRecDepth 20000 in
theorem ggX7_firstMarks_X7_cornerMarks : GoodIn wsX7_firstMarks wsX7_cornerMarks := goodIn_r _ [7] (by decide +kernel) (by decide +kernel)
set_option maxRecDepth 20000 in
theorem gX7_firstMarks_X7_cornerMarks : GoodIn wsX7_firstMarks (va_wsS RX7 48 yX7_cornerMarks wsX7_cornerMarks) := goodIn_app (goodIn_of _ (by decide +kernel)) ggX7_firstMarks_X7_cornerMarks
set_option maxRecDepth 20000 in
theorem ggX7_rangeMarks_X7_cornerMarks : GoodIn wsX7_rangeMarks wsX7_cornerMarks := goodIn_r _ [8] (by decide +kernel) (by decide +kernel)
set_option maxRecDepth 20000 in
theorem gX7_rangeMarks_X7_cornerMarks : GoodIn wsX7_rangeMarks (va_wsS RX7 48 yX7_cornerMarks wsX7_cornerMarks) := goodIn_app (goodIn_of _ (by decide +kernel)) ggX7_rangeMarks_X7_cornerMarks
set_option maxRecDepth 20000 in
theorem ggX7_rangeMarks_X7_firstMarks : GoodIn wsX7_rangeMarks wsX7_firstMarks := goodIn_r _ [12, 1, 13, 3, 5, 6, 7, 8, 14, 15, 16, 17, 18, 19, 20, 21, 22, 23] (by decide +kernel) (by decide +kernel)
set_option maxRecDepth 20000 in
theorem gX7_rangeMarks_X7_firstMarks : GoodIn wsX7_rangeMarks (wsV RX7 36 RX7 yX7_firstMarks wsX7_firstMarks) := goodIn_app (goodIn_of _ (by decide +kernel)) ggX7_rangeMarks_X7_firstMarks
set_option maxRecDepth 20000 in
theorem ggX8_shiftLoose_X9_isLine : GoodIn wsX8_shiftLoose wsX9_isLine := goodIn_r _ [8] (by decide +kernel) (by decide +kernel)
set_option maxRecDepth 20000 in
theorem gX8_shiftLoose_X9_isLine_n26 : GoodIn wsX8_shiftLoose (wsX9_isLine) := ggX8_shiftLoose_X9_isLine
set_option maxRecDepth 20000 in
theorem ggX8_shiftLoose_X8_exchange : GoodIn wsX8_shiftLoose wsX8_exchange := goodIn_r _ [13, 2, 1, 4, 3, 14, 15, 16, 12, 17, 18, 19, 20, 21, 22, 23, 24, 25, 26] (by decide +kernel) (by decide +kernel)
set_option maxRecDepth 20000 in
theorem gX8_shiftLoose_X8_exchange : GoodIn wsX8_shiftLoose (wsV RX8 32 RX8 yX8_exchange wsX8_exchange) := goodIn_app (goodIn_of _ (by decide +kernel)) ggX8_shiftLoose_X8_exchange
set_option maxRecDepth 20000 in
theorem ggX8_exchange_X8_setFirst : GoodIn wsX8_exchange wsX8_setFirst := goodIn_r _ [9, 1, 2, 14, 15, 16, 17, 18] (by decide +kernel) (by decide +kernel)
set_option maxRecDepth 20000 in
theorem gX8_exchange_X8_setFirst : GoodIn wsX8_exchange (wsV RX8 35 RX8 yX8_setFirst wsX8_setFirst) := goodIn_app (goodIn_of _ (by decide +kernel)) ggX8_exchange_X8_setFirst
set_option maxRecDepth 20000 in
theorem ggX8_exchange_X8_setLast : GoodIn wsX8_exchange wsX8_setLast := goodIn_r _ [13, 3, 4, 14, 15, 16, 17, 18] (by decide +kernel) (by decide +kernel)
set_option maxRecDepth 20000 in
theorem gX8_exchange_X8_setLast : GoodIn wsX8_exchange (wsV RX8 39 RX8 yX8_setLast wsX8_setLast) := goodIn_app (goodIn_of _ (by decide +kernel)) ggX8_exchange_X8_setLast
set_option maxRecDepth 20000 in
theorem ggX8_openGap_X9_areAllLines : GoodIn wsX8_openGap wsX9_areAllLines := goodIn_r _ [10] (by decide +kernel) (by decide +kernel)
set_option maxRecDepth 20000 in
theorem gX8_openGap_X9_areAllLines_n42 : GoodIn wsX8_openGap (wsX9_areAllLines) := ggX8_openGap_X9_areAllLines
set_option maxRecDepth 20000 in
theorem ggX8_closeGap_X9_areAllLines : GoodIn wsX8_closeGap wsX9_areAllLines := goodIn_r _ [6] (by decide +kernel) (by decide +kernel)
set_option maxRecDepth 20000 in
theorem gX8_closeGap_X9_areAllLines_n42 : GoodIn wsX8_closeGap (wsX9_areAllLines) := ggX8_closeGap_X9_areAllLines
set_option maxRecDepth 20000 in
theorem ggX9_init_X0_init : GoodIn wsX9_init wsX0_init := goodIn_r _ [17, 18, 2, 3, 19, 20, 21, 22, 23, 42, 43, 44, 45, 46] (by decide +kernel) (by decide +kernel)
set_option maxRecDepth 20000 in
theorem gX9_init_X0_init : GoodIn wsX9_init (wsX0_init) := ggX9_init_X0_init
set_option maxRecDepth 20000 in
theorem ggX9_init_X7_init : GoodIn wsX9_init wsX7_init := goodIn_r _ [25, 26, 2, 3, 27, 28, 29, 30, 31, 32, 33, 34, 35, 36, 37, 52, 53, 54, 55, 56, 47, 48, 49, 50, 51] (by decide +kernel) (by decide +kernel)
set_option maxRecDepth 20000 in
theorem gX9_init_X7_init_n28 : GoodIn wsX9_init (wsX7_init) := ggX9_init_X7_init
set_option maxRecDepth 20000 in
theorem ggX9_other_X9_isOfKind : GoodIn wsX9_other wsX9_isOfKind := goodIn_r _ [4] (by decide +kernel) (by decide +kernel)
set_option maxRecDepth 20000 in
theorem gX9_other_X9_isOfKind : GoodIn wsX9_other (va_wsS RX9 33 yX9_isOfKind wsX9_isOfKind) := goodIn_app (goodIn_of _ (by decide +kernel)) ggX9_other_X9_isOfKind
set_option maxRecDepth 20000 in
theorem ggX9_other_X9_hasRoomFor : GoodIn wsX9_other wsX9_hasRoomFor := goodIn_r _ [8, 9, 19, 20, 21, 22] (by decide +kernel) (by decide +kernel)
set_option maxRecDepth 20000 in
theorem gX9_other_X9_hasRoomFor : GoodIn wsX9_other (wsV RX9 37 RX9 yX9_hasRoomFor wsX9_hasRoomFor) := goodIn_app (goodIn_of _ (by decide +kernel)) ggX9_other_X9_hasRoomFor
set_option maxRecDepth 20000 in
theorem ggX9_other_X9_append : GoodIn wsX9_other wsX9_append := goodIn_r _ [13, 9, 14, 15, 16, 3, 17, 18, 19, 20, 21, 22] (by decide +kernel) (by decide +kernel)
set_option maxRecDepth 20000 in
theorem gX9_other_X9_append : GoodIn wsX9_other (wsV RX9 41 RX9 yX9_append wsX9_append) := goodIn_app (goodIn_of _ (by decide +kernel)) ggX9_other_X9_append
set_option maxRecDepth 20000 in
theorem ggX9_place_X9_isSheetOrNone : GoodIn wsX9_place wsX9_isSheetOrNone := goodIn_r _ [5, 6, 7, 4, 8] (by decide +kernel) (by decide +kernel)
set_option maxRecDepth 20000 in
theorem gX9_place_X9_isSheetOrNone : GoodIn wsX9_place (va_wsS RX9 45 yX9_isSheetOrNone wsX9_isSheetOrNone) := goodIn_app (goodIn_of _ (by decide +kernel)) ggX9_place_X9_isSheetOrNone
set_option maxRecDepth 20000 in
theorem ggX9_place_X9_isLine : GoodIn wsX9_place wsX9_isLine := goodIn_r _ [11] (by decide +kernel) (by decide +kernel)
set_option maxRecDepth 20000 in
theorem gX9_place_X9_isLine : GoodIn wsX9_place (va_wsS RX9 49 yX9_isLine wsX9_isLine) := goodIn_app (goodIn_of _ (by decide +kernel)) ggX9_place_X9_isLine
set_option maxRecDepth 20000 in
theorem ggX9_place_X9_hasRoomFor : GoodIn wsX9_place wsX9_hasRoomFor := goodIn_r _ [15, 16, 26, 27, 28, 29] (by decide +kernel) (by decide +kernel)
set_option maxRecDepth 20000 in
theorem gX9_place_X9_hasRoomFor : GoodIn wsX9_place (wsV RX9 37 RX9 yX9_hasRoomFor wsX9_hasRoomFor) := goodIn_app (goodIn_of _ (by decide +kernel)) ggX9_place_X9_hasRoomFor
set_option maxRecDepth 20000 in
theorem ggX9_place_X9_append : GoodIn wsX9_place wsX9_append := goodIn_r _ [20, 16, 21, 22, 23, 4, 24, 25, 26, 27, 28, 29] (by decide +kernel) (by decide +kernel)
set_option maxRecDepth 20000 in
theorem gX9_place_X9_append : GoodIn wsX9_place (wsV RX9 41 RX9 yX9_append wsX9_append) := goodIn_app (goodIn_of _ (by decide +kernel)) ggX9_place_X9_append
set_option maxRecDepth 20000 in
theorem ggX9_range_X9_isSheetOrNone : GoodIn wsX9_range wsX9_isSheetOrNone := goodIn_r _ [5, 6, 7, 4, 8] (by decide +kernel) (by decide +kernel)
set_option maxRecDepth 20000 in
theorem gX9_range_X9_isSheetOrNone : GoodIn wsX9_range (va_wsS RX9 45 yX9_isSheetOrNone wsX9_isSheetOrNone) := goodIn_app (goodIn_of _ (by decide +kernel)) ggX9_range_X9_isSheetOrNone
set_option maxRecDepth 20000 in
theorem ggX9_range_X9_areLines : GoodIn wsX9_range wsX9_areLines := goodIn_r _ [11] (by decide +kernel) (by decide +kernel)
set_option maxRecDepth 20000 in
theorem gX9_range_X9_areLines : GoodIn wsX9_range (va_wsS RX9 52 yX9_areLines wsX9_areLines) := goodIn_app (goodIn_of _ (by decide +kernel)) ggX9_range_X9_areLines
set_option maxRecDepth 20000 in
theorem ggX9_range_X9_hasRoomFor : GoodIn wsX9_range wsX9_hasRoomFor := goodIn_r _ [15, 16, 32, 33, 34, 35] (by decide +kernel) (by decide +kernel)
set_option maxRecDepth 20000 in
theorem gX9_range_X9_hasRoomFor : GoodIn wsX9_range (wsV RX9 37 RX9 yX9_hasRoomFor wsX9_hasRoomFor) := goodIn_app (goodIn_of _ (by decide +kernel)) ggX9_range_X9_hasRoomFor
set_option maxRecDepth 20000 in
theorem ggX9_range_X9_has : GoodIn wsX9_range wsX9_has := goodIn_r _ [19] (by decide +kernel) (by decide +kernel)
set_option maxRecDepth 20000 in
theorem gX9_range_X9_has : GoodIn wsX9_range (va_wsS RX9 56 yX9_has wsX9_has) := goodIn_app (goodIn_of _ (by decide +kernel)) ggX9_range_X9_has
set_option maxRecDepth 20000 in
theorem ggX9_range_X9_areAllLines : GoodIn wsX9_range wsX9_areAllLines := goodIn_r _ [22] (by decide +kernel) (by decide +kernel)
set_option maxRecDepth 20000 in
theorem gX9_range_X9_areAllLines : GoodIn wsX9_range (va_wsS RX9 59 yX9_areAllLines wsX9_areAllLines) := goodIn_app (goodIn_of _ (by decide +kernel)) ggX9_range_X9_areAllLines
set_option maxRecDepth 20000 in
theorem ggX9_range_X9_append : GoodIn wsX9_range wsX9_append := goodIn_r _ [26, 16, 27, 28, 29, 4, 30, 31, 32, 33, 34, 35] (by decide +kernel) (by decide +kernel)
set_option maxRecDepth 20000 in
theorem gX9_range_X9_append : GoodIn wsX9_range (wsV RX9 41 RX9 yX9_append wsX9_append) := goodIn_app (goodIn_of _ (by decide +kernel)) ggX9_range_X9_append
set_option maxRecDepth 20000 in
theorem ggX9_rectangle_X9_isSheet : GoodIn wsX9_rectangle wsX9_isSheet := goodIn_r _ [9] (by decide +kernel) (by decide +kernel)
set_option maxRecDepth 20000 in
theorem gX9_rectangle_X9_isSheet : GoodIn wsX9_rectangle (va_wsS RX9 92 yX9_isSheet wsX9_isSheet) := goodIn_app (goodIn_of _ (by decide +kernel)) ggX9_rectangle_X9_isSheet
set_option maxRecDepth 20000 in
theorem ggX9_rectangle_X9_areLines : GoodIn wsX9_rectangle wsX9_areLines := goodIn_r _ [12] (by decide +kernel) (by decide +kernel)
set_option maxRecDepth 20000 in
theorem gX9_rectangle_X9_areLines : GoodIn wsX9_rectangle (va_wsS RX9 52 yX9_areLines wsX9_areLines) := goodIn_app (goodIn_of _ (by decide +kernel)) ggX9_rectangle_X9_areLines
set_option maxRecDepth 20000 in
theorem ggX9_rectangle_X0_init : GoodIn wsX9_rectangle wsX0_init := goodIn_r _ [15, 16, 17, 18, 19, 20, 21, 22, 23, 24, 25, 26, 27, 28] (by decide +kernel) (by decide +kernel)
set_option maxRecDepth 20000 in
theorem gX9_rectangle_X0_init : GoodIn wsX9_rectangle (wsX0_init) := ggX9_rectangle_X0_init
set_option maxRecDepth 20000 in
theorem ggX9_isSheetOrNone_X9_isSheet : GoodIn wsX9_isSheetOrNone wsX9_isSheet := goodIn_r _ [4] (by decide +kernel) (by decide +kernel)
set_option maxRecDepth 20000 in
theorem gX9_isSheetOrNone_X9_isSheet : GoodIn wsX9_isSheetOrNone (va_wsS RX9 92 yX9_isSheet wsX9_isSheet) := goodIn_app (goodIn_of _ (by decide +kernel)) ggX9_isSheetOrNone_X9_isSheet
set_option maxRecDepth 20000 in
theorem ggX9_append_X9_put : GoodIn wsX9_append wsX9_put := goodIn_r _ [6, 7, 8, 9, 10, 11] (by decide +kernel) (by decide +kernel)
set_option maxRecDepth 20000 in
theorem gX9_append_X9_put : GoodIn wsX9_append (wsV RX9 122 RX9 yX9_put wsX9_put) := goodIn_app (goodIn_of _ (by decide +kernel)) ggX9_append_X9_put
set_option maxRecDepth 20000 in
theorem ggX9_changeReferences_X9_word : GoodIn wsX9_changeReferences wsX9_word := goodIn_r _ [7, 1, 8, 179, 180, 181, 182] (by decide +kernel) (by decide +kernel)
set_option maxRecDepth 20000 in
theorem gX9_changeReferences_X9_word : GoodIn wsX9_changeReferences (wsV RX9 125 RX9 yX9_word wsX9_word) := goodIn_app (goodIn_of _ (by decide +kernel)) ggX9_changeReferences_X9_word
set_option maxRecDepth 20000 in
theorem ggX9_changeReferences_X9_itemLength : GoodIn wsX9_changeReferences wsX9_itemLength := goodIn_r _ [11, 12, 13, 6, 14] (by decide +kernel) (by decide +kernel)
set_option maxRecDepth 20000 in
theorem gX9_changeReferences_X9_itemLength : GoodIn wsX9_changeReferences (va_wsS RX9 129 yX9_itemLength wsX9_itemLength) := goodIn_app (goodIn_of _ (by decide +kernel)) ggX9_changeReferences_X9_itemLength
set_option maxRecDepth 20000 in
theorem ggX9_changeReferences_X9_put : GoodIn wsX9_changeReferences wsX9_put := goodIn_r _ [18, 8, 179, 180, 181, 182] (by decide +kernel) (by decide +kernel)
set_option maxRecDepth 20000 in
theorem gX9_changeReferences_X9_put : GoodIn wsX9_changeReferences (wsV RX9 122 RX9 yX9_put wsX9_put) := goodIn_app (goodIn_of _ (by decide +kernel)) ggX9_changeReferences_X9_put
set_option maxRecDepth 20000 in
theorem ggX9_changeReferences_X9_load : GoodIn wsX9_changeReferences wsX9_load := goodIn_r _ [22, 2, 23, 24, 25, 26, 27, 3, 4, 5, 6, 7, 1, 8, 28, 29, 30, 31, 32, 33, 34, 35, 36, 37, 38, 39, 40, 41, 42, 43, 179, 180, 181, 182, 183, 184, 185, 186, 187, 188, 189, 190, 191, 192] (by decide +kernel) (by decide +kernel)
set_option maxRecDepth 20000 in
theorem gX9_changeReferences_X9_load : GoodIn wsX9_changeReferences (wsV RX9 132 RX9 yX9_load wsX9_load) := goodIn_app (goodIn_of _ (by decide +kernel)) ggX9_changeReferences_X9_load
set_option maxRecDepth 20000 in
theorem ggX9_changeReferences_X2_keeps : GoodIn wsX9_changeReferences wsX2_keeps := goodIn_r _ [49, 50, 51, 52, 53, 54, 29, 6, 30, 55, 56, 57, 34, 58, 37, 36, 43, 42, 59, 60, 61, 62, 63, 64, 65, 66, 32, 33, 35, 67, 39, 40, 41, 183, 184, 185, 186, 187, 193, 194, 188, 189, 190, 191, 192] (by decide +kernel) (by decide +kernel)
set_option maxRecDepth 20000 in
theorem gX9_changeReferences_X2_keeps_u135X2 : GoodIn wsX9_changeReferences (va_wsU RX9 135 RX2 "ReferenceMover$Change" ⟨"ReferenceMover$Change", "keeps", "(LReferenceMover$Reference;)Z"⟩ yX2_keeps wsX2_keeps) := goodIn_app (goodIn_of _ (by decide +kernel)) ggX9_changeReferences_X2_keeps
set_option maxRecDepth 20000 in
theorem ggX9_changeReferences_X3_keeps : GoodIn wsX9_changeReferences wsX3_keeps := goodIn_r _ [71, 72, 73, 74, 75, 76, 77, 78, 79, 80, 81, 82, 83, 84, 85, 86, 87, 88, 89, 90, 91, 92, 93, 94, 95, 34, 96, 36, 42, 59, 97, 98, 99, 100, 101, 6, 102, 103, 104, 105, 106, 107, 108, 109, 110, 111, 112, 113, 114, 195, 196, 197, 198, 199, 200, 201, 202, 203, 204, 183, 184, 185, 186, 187, 188, 189, 190, 191, 192] (by decide +kernel) (by decide +kernel)
set_option maxRecDepth 20000 in
theorem gX9_changeReferences_X3_keeps_u135X4 : GoodIn wsX9_changeReferences (va_wsU RX9 135 RX4 "ReferenceMover$Change" ⟨"ReferenceMover$Change", "keeps", "(LReferenceMover$Reference;)Z"⟩ yX3_keeps wsX3_keeps) := goodIn_app (goodIn_of _ (by decide +kernel)) ggX9_changeReferences_X3_keeps
set_option maxRecDepth 20000 in
theorem gX9_changeReferences_X3_keeps_u135X5 : GoodIn wsX9_changeReferences (va_wsU RX9 135 RX5 "ReferenceMover$Change" ⟨"ReferenceMover$Change", "keeps", "(LReferenceMover$Reference;)Z"⟩ yX3_keeps wsX3_keeps) := goodIn_app (goodIn_of _ (by decide +kernel)) ggX9_changeReferences_X3_keeps
set_option maxRecDepth 20000 in
theorem ggX9_changeReferences_X6_keeps : GoodIn wsX9_changeReferences wsX6_keeps := goodIn_r _ [119, 120, 121, 122, 123, 124, 125, 126, 127, 128, 129, 130, 78, 79, 80, 81, 82, 131, 132, 133, 134, 135, 136, 137, 138, 139, 140, 141, 142, 143, 144, 145, 146, 34, 147, 36, 42, 148, 149, 150, 151, 205, 206, 207, 208, 183, 184, 185, 186, 187, 209, 210, 211, 212, 213, 188, 189, 190, 191, 192] (by decide +kernel) (by decide +kernel)
set_option maxRecDepth 20000 in
theorem gX9_changeReferences_X6_keeps_u135X6 : GoodIn wsX9_changeReferences (va_wsU RX9 135 RX6 "ReferenceMover$Change" ⟨"ReferenceMover$Change", "keeps", "(LReferenceMover$Reference;)Z"⟩ yX6_keeps wsX6_keeps) := goodIn_app (goodIn_of _ (by decide +kernel)) ggX9_changeReferences_X6_keeps
set_option maxRecDepth 20000 in
theorem ggX9_changeReferences_X9_store : GoodIn wsX9_changeReferences wsX9_store := goodIn_r _ [155, 2, 156, 157, 158, 80, 159, 160, 82, 161, 162, 163, 164, 165, 166, 167, 168, 169, 170, 171, 172, 173, 174, 175, 176, 177, 178, 3, 4, 5, 6, 7, 1, 8, 15, 16, 17, 18, 179, 180, 181, 182, 183, 184, 185, 186, 187, 188, 189, 190, 191, 192] (by decide +kernel) (by decide +kernel)
set_option maxRecDepth 20000 in
theorem gX9_changeReferences_X9_store : GoodIn wsX9_changeReferences (wsV RX9 141 RX9 yX9_store wsX9_store) := goodIn_app (goodIn_of _ (by decide +kernel)) ggX9_changeReferences_X9_store
set_option maxRecDepth 20000 in
theorem ggX9_itemLength_X9_isOfKind : GoodIn wsX9_itemLength wsX9_isOfKind := goodIn_r _ [4] (by decide +kernel) (by decide +kernel)
set_option maxRecDepth 20000 in
theorem gX9_itemLength_X9_isOfKind : GoodIn wsX9_itemLength (va_wsS RX9 33 yX9_isOfKind wsX9_isOfKind) := goodIn_app (goodIn_of _ (by decide +kernel)) ggX9_itemLength_X9_isOfKind
set_option maxRecDepth 20000 in
theorem ggX9_load_X9_word : GoodIn wsX9_load wsX9_word := goodIn_r _ [11, 12, 13, 30, 31, 32, 33] (by decide +kernel) (by decide +kernel)
set_option maxRecDepth 20000 in
theorem gX9_load_X9_word : GoodIn wsX9_load (wsV RX9 125 RX9 yX9_word wsX9_word) := goodIn_app (goodIn_of _ (by decide +kernel)) ggX9_load_X9_word
set_option maxRecDepth 20000 in
theorem ggX9_load_X9_has : GoodIn wsX9_load wsX9_has := goodIn_r _ [16] (by decide +kernel) (by decide +kernel)
set_option maxRecDepth 20000 in
theorem gX9_load_X9_has : GoodIn wsX9_load (va_wsS RX9 56 yX9_has wsX9_has) := goodIn_app (goodIn_of _ (by decide +kernel)) ggX9_load_X9_has
set_option maxRecDepth 20000 in
theorem ggX9_load_X8_setFirst : GoodIn wsX9_load wsX8_setFirst := goodIn_r _ [21, 22, 23, 39, 40, 41, 42, 43] (by decide +kernel) (by decide +kernel)
set_option maxRecDepth 20000 in
theorem gX9_load_X8_setFirst : GoodIn wsX9_load (wsV RX9 158 RX8 yX8_setFirst wsX8_setFirst) := goodIn_app (goodIn_of _ (by decide +kernel)) ggX9_load_X8_setFirst
set_option maxRecDepth 20000 in
theorem ggX9_load_X8_setLast : GoodIn wsX9_load wsX8_setLast := goodIn_r _ [27, 28, 29, 39, 40, 41, 42, 43] (by decide +kernel) (by decide +kernel)
set_option maxRecDepth 20000 in
theorem gX9_load_X8_setLast : GoodIn wsX9_load (wsV RX9 167 RX8 yX8_setLast wsX8_setLast) := goodIn_app (goodIn_of _ (by decide +kernel)) ggX9_load_X8_setLast
set_option maxRecDepth 20000 in
theorem ggX9_store_X7_wordAt : GoodIn wsX9_store wsX7_wordAt := goodIn_r _ [6, 7, 8, 9, 10, 11, 12, 13, 14, 15, 5, 16, 17, 18, 19, 20, 21, 22, 23, 24, 25, 26, 42, 43, 44, 45, 46, 47, 48, 49, 50, 51] (by decide +kernel) (by decide +kernel)
set_option maxRecDepth 20000 in
theorem gX9_store_X7_wordAt : GoodIn wsX9_store (wsV RX9 170 RX7 yX7_wordAt wsX7_wordAt) := goodIn_app (goodIn_of _ (by decide +kernel)) ggX9_store_X7_wordAt
set_option maxRecDepth 20000 in
theorem ggX9_store_X9_word : GoodIn wsX9_store wsX9_word := goodIn_r _ [31, 32, 33, 38, 39, 40, 41] (by decide +kernel) (by decide +kernel)
set_option maxRecDepth 20000 in
theorem gX9_store_X9_word : GoodIn wsX9_store (wsV RX9 125 RX9 yX9_word wsX9_word) := goodIn_app (goodIn_of _ (by decide +kernel)) ggX9_store_X9_word
set_option maxRecDepth 20000 in
theorem ggX9_store_X9_put : GoodIn wsX9_store wsX9_put := goodIn_r _ [37, 33, 38, 39, 40, 41] (by decide +kernel) (by decide +kernel)
set_option maxRecDepth 20000 in
theorem gX9_store_X9_put : GoodIn wsX9_store (wsV RX9 122 RX9 yX9_put wsX9_put) := goodIn_app (goodIn_of _ (by decide +kernel)) ggX9_store_X9_put
set_option maxRecDepth 20000 in
theorem ggX10_other_X10_put : GoodIn wsX10_other wsX10_put := goodIn_r _ [7, 8, 2, 9, 10, 11, 12, 13, 14, 15, 16, 17, 18, 19] (by decide +kernel) (by decide +kernel)
set_option maxRecDepth 20000 in
theorem gX10_other_X10_put : GoodIn wsX10_other (wsV RX10 35 RX10 yX10_put wsX10_put) := goodIn_app (goodIn_of _ (by decide +kernel)) ggX10_other_X10_put
set_option maxRecDepth 20000 in
theorem ggX10_isCell_X10_within : GoodIn wsX10_isCell wsX10_within := goodIn_r _ [5] (by decide +kernel) (by decide +kernel)
set_option maxRecDepth 20000 in
theorem gX10_isCell_X10_within : GoodIn wsX10_isCell (va_wsS RX10 40 yX10_within wsX10_within) := goodIn_app (goodIn_of _ (by decide +kernel)) ggX10_isCell_X10_within
set_option maxRecDepth 20000 in
theorem ggX10_place_X10_within : GoodIn wsX10_place wsX10_within := goodIn_r _ [6] (by decide +kernel) (by decide +kernel)
set_option maxRecDepth 20000 in
theorem gX10_place_X10_within : GoodIn wsX10_place (va_wsS RX10 40 yX10_within wsX10_within) := goodIn_app (goodIn_of _ (by decide +kernel)) ggX10_place_X10_within
set_option maxRecDepth 20000 in
theorem ggX10_place_X10_isCell : GoodIn wsX10_place wsX10_isCell := goodIn_r _ [9, 10, 3, 4, 5, 6] (by decide +kernel) (by decide +kernel)
set_option maxRecDepth 20000 in
theorem gX10_place_X10_isCell : GoodIn wsX10_place (va_wsS RX10 44 yX10_isCell wsX10_isCell) := goodIn_app (goodIn_of _ (by decide +kernel)) ggX10_place_X10_isCell
set_option maxRecDepth 20000 in
theorem ggX10_place_X10_put : GoodIn wsX10_place wsX10_put := goodIn_r _ [14, 15, 2, 16, 17, 18, 19, 20, 21, 22, 23, 24, 25, 26] (by decide +kernel) (by decide +kernel)
set_option maxRecDepth 20000 in
theorem gX10_place_X10_put : GoodIn wsX10_place (wsV RX10 35 RX10 yX10_put wsX10_put) := goodIn_app (goodIn_of _ (by decide +kernel)) ggX10_place_X10_put
set_option maxRecDepth 20000 in
theorem ggX10_range_X10_within : GoodIn wsX10_range wsX10_within := goodIn_r _ [7] (by decide +kernel) (by decide +kernel)
set_option maxRecDepth 20000 in
theorem gX10_range_X10_within : GoodIn wsX10_range (va_wsS RX10 40 yX10_within wsX10_within) := goodIn_app (goodIn_of _ (by decide +kernel)) ggX10_range_X10_within
set_option maxRecDepth 20000 in
theorem ggX10_range_X10_isCell : GoodIn wsX10_range wsX10_isCell := goodIn_r _ [10, 2, 4, 5, 6, 7] (by decide +kernel) (by decide +kernel)
set_option maxRecDepth 20000 in
theorem gX10_range_X10_isCell : GoodIn wsX10_range (va_wsS RX10 44 yX10_isCell wsX10_isCell) := goodIn_app (goodIn_of _ (by decide +kernel)) ggX10_range_X10_isCell
set_option maxRecDepth 20000 in
theorem ggX10_range_X10_put : GoodIn wsX10_range wsX10_put := goodIn_r _ [14, 15, 3, 16, 17, 18, 19, 20, 21, 22, 23, 24, 25, 26] (by decide +kernel) (by decide +kernel)
set_option maxRecDepth 20000 in
theorem gX10_range_X10_put : GoodIn wsX10_range (wsV RX10 35 RX10 yX10_put wsX10_put) := goodIn_app (goodIn_of _ (by decide +kernel)) ggX10_range_X10_put
set_option maxRecDepth 20000 in
theorem ggX10_lose_X10_make : GoodIn wsX10_lose wsX10_make := goodIn_r _ [6, 7, 8, 9, 10, 11, 12, 13, 14, 15, 16, 17, 18, 19] (by decide +kernel) (by decide +kernel)
set_option maxRecDepth 20000 in
theorem gX10_lose_X10_make : GoodIn wsX10_lose (wsV RX10 51 RX10 yX10_make wsX10_make) := goodIn_app (goodIn_of _ (by decide +kernel)) ggX10_lose_X10_make
set_option maxRecDepth 20000 in
theorem ggX10_makePlace_X10_make : GoodIn wsX10_makePlace wsX10_make := goodIn_r _ [7, 8, 9, 10, 11, 12, 13, 14, 15, 16, 17, 18, 19, 20] (by decide +kernel) (by decide +kernel)
set_option maxRecDepth 20000 in
theorem gX10_makePlace_X10_make : GoodIn wsX10_makePlace (wsV RX10 51 RX10 yX10_make wsX10_make) := goodIn_app (goodIn_of _ (by decide +kernel)) ggX10_makePlace_X10_make
set_option maxRecDepth 20000 in
theorem ggX10_makeRange_X10_make : GoodIn wsX10_makeRange wsX10_make := goodIn_r _ [7, 8, 9, 10, 11, 12, 13, 14, 15, 16, 17, 18, 19, 20] (by decide +kernel) (by decide +kernel)
set_option maxRecDepth 20000 in
theorem gX10_makeRange_X10_make : GoodIn wsX10_makeRange (wsV RX10 51 RX10 yX10_make wsX10_make) := goodIn_app (goodIn_of _ (by decide +kernel)) ggX10_makeRange_X10_make
set_option maxRecDepth 20000 in
theorem ggX10_moved_X10_within : GoodIn wsX10_moved wsX10_within := goodIn_r _ [4] (by decide +kernel) (by decide +kernel)
set_option maxRecDepth 20000 in
theorem gX10_moved_X10_within : GoodIn wsX10_moved (va_wsS RX10 40 yX10_within wsX10_within) := goodIn_app (goodIn_of _ (by decide +kernel)) ggX10_moved_X10_within
set_option maxRecDepth 20000 in
theorem ggX10_copyRange_X10_moved : GoodIn wsX10_copyRange wsX10_moved := goodIn_r _ [6, 7, 8, 5, 9] (by decide +kernel) (by decide +kernel)
set_option maxRecDepth 20000 in
theorem gX10_copyRange_X10_moved : GoodIn wsX10_copyRange (va_wsS RX10 57 yX10_moved wsX10_moved) := goodIn_app (goodIn_of _ (by decide +kernel)) ggX10_copyRange_X10_moved
set_option maxRecDepth 20000 in
theorem ggX10_copyRange_X10_lose : GoodIn wsX10_copyRange wsX10_lose := goodIn_r _ [13, 14, 15, 16, 17, 5, 18, 19, 20, 25, 26, 27, 28, 29, 30, 31, 32, 33, 34, 35] (by decide +kernel) (by decide +kernel)
set_option maxRecDepth 20000 in
theorem gX10_copyRange_X10_lose : GoodIn wsX10_copyRange (wsV RX10 61 RX10 yX10_lose wsX10_lose) := goodIn_app (goodIn_of _ (by decide +kernel)) ggX10_copyRange_X10_lose
set_option maxRecDepth 20000 in
theorem ggX10_copyRange_X10_makeRange : GoodIn wsX10_copyRange wsX10_makeRange := goodIn_r _ [24, 14, 1, 15, 16, 17, 5, 18, 19, 20, 25, 26, 27, 28, 29, 30, 31, 32, 33, 34, 35] (by decide +kernel) (by decide +kernel)
set_option maxRecDepth 20000 in
theorem gX10_copyRange_X10_makeRange : GoodIn wsX10_copyRange (wsV RX10 64 RX10 yX10_makeRange wsX10_makeRange) := goodIn_app (goodIn_of _ (by decide +kernel)) ggX10_copyRange_X10_makeRange
set_option maxRecDepth 20000 in
theorem ggX10_copy_X10_within : GoodIn wsX10_copy wsX10_within := goodIn_r _ [10] (by decide +kernel) (by decide +kernel)
set_option maxRecDepth 20000 in
theorem gX10_copy_X10_within : GoodIn wsX10_copy (va_wsS RX10 40 yX10_within wsX10_within) := goodIn_app (goodIn_of _ (by decide +kernel)) ggX10_copy_X10_within
set_option maxRecDepth 20000 in
theorem ggX10_copy_X10_begin : GoodIn wsX10_copy wsX10_begin := goodIn_r _ [14, 15, 16, 49, 50, 51, 52, 53, 54, 55, 56, 57, 58, 59] (by decide +kernel) (by decide +kernel)
set_option maxRecDepth 20000 in
theorem gX10_copy_X10_begin : GoodIn wsX10_copy (wsV RX10 70 RX10 yX10_begin wsX10_begin) := goodIn_app (goodIn_of _ (by decide +kernel)) ggX10_copy_X10_begin
set_option maxRecDepth 20000 in
theorem ggX10_copy_X10_lengthAt : GoodIn wsX10_copy wsX10_lengthAt := goodIn_r _ [20, 5, 49, 50, 51, 52, 53, 54, 55, 56, 57, 58, 59] (by decide +kernel) (by decide +kernel)
set_option maxRecDepth 20000 in
theorem gX10_copy_X10_lengthAt : GoodIn wsX10_copy (wsV RX10 73 RX10 yX10_lengthAt wsX10_lengthAt) := goodIn_app (goodIn_of _ (by decide +kernel)) ggX10_copy_X10_lengthAt
set_option maxRecDepth 20000 in
theorem ggX10_copy_X10_moved : GoodIn wsX10_copy wsX10_moved := goodIn_r _ [23, 7, 8, 9, 10] (by decide +kernel) (by decide +kernel)
set_option maxRecDepth 20000 in
theorem gX10_copy_X10_moved : GoodIn wsX10_copy (va_wsS RX10 57 yX10_moved wsX10_moved) := goodIn_app (goodIn_of _ (by decide +kernel)) ggX10_copy_X10_moved
set_option maxRecDepth 20000 in
theorem ggX10_copy_X10_make : GoodIn wsX10_copy wsX10_make := goodIn_r _ [27, 28, 15, 49, 50, 51, 52, 53, 54, 55, 56, 57, 58, 59] (by decide +kernel) (by decide +kernel)
set_option maxRecDepth 20000 in
theorem gX10_copy_X10_make : GoodIn wsX10_copy (wsV RX10 51 RX10 yX10_make wsX10_make) := goodIn_app (goodIn_of _ (by decide +kernel)) ggX10_copy_X10_make
set_option maxRecDepth 20000 in
theorem ggX10_copy_X10_copyRange : GoodIn wsX10_copy wsX10_copyRange := goodIn_r _ [32, 5, 6, 21, 22, 9, 23, 7, 8, 10, 33, 34, 35, 36, 16, 24, 25, 26, 27, 28, 15, 37, 38, 39, 40, 49, 50, 51, 52, 53, 54, 55, 56, 57, 58, 59] (by decide +kernel) (by decide +kernel)
set_option maxRecDepth 20000 in
theorem gX10_copy_X10_copyRange : GoodIn wsX10_copy (wsV RX10 77 RX10 yX10_copyRange wsX10_copyRange) := goodIn_app (goodIn_of _ (by decide +kernel)) ggX10_copy_X10_copyRange
set_option maxRecDepth 20000 in
theorem ggX10_copy_X10_lose : GoodIn wsX10_copy wsX10_lose := goodIn_r _ [36, 16, 24, 25, 26, 9, 27, 28, 15, 49, 50, 51, 52, 53, 54, 55, 56, 57, 58, 59] (by decide +kernel) (by decide +kernel)
set_option maxRecDepth 20000 in
theorem gX10_copy_X10_lose : GoodIn wsX10_copy (wsV RX10 61 RX10 yX10_lose wsX10_lose) := goodIn_app (goodIn_of _ (by decide +kernel)) ggX10_copy_X10_lose
set_option maxRecDepth 20000 in
theorem ggX10_copy_X10_makePlace : GoodIn wsX10_copy wsX10_makePlace := goodIn_r _ [44, 16, 5, 24, 25, 26, 9, 27, 28, 15, 49, 50, 51, 52, 53, 54, 55, 56, 57, 58, 59] (by decide +kernel) (by decide +kernel)
set_option maxRecDepth 20000 in
theorem gX10_copy_X10_makePlace : GoodIn wsX10_copy (wsV RX10 81 RX10 yX10_makePlace wsX10_makePlace) := goodIn_app (goodIn_of _ (by decide +kernel)) ggX10_copy_X10_makePlace
set_option maxRecDepth 20000 in
theorem ggX10_copy_X10_finish : GoodIn wsX10_copy wsX10_finish := goodIn_r _ [48, 15, 5, 28, 4, 16, 49, 50, 51, 52, 53, 54, 55, 56, 57, 58, 59] (by decide +kernel) (by decide +kernel)
set_option maxRecDepth 20000 in
theorem gX10_copy_X10_finish : GoodIn wsX10_copy (wsV RX10 85 RX10 yX10_finish wsX10_finish) := goodIn_app (goodIn_of _ (by decide +kernel)) ggX10_copy_X10_finish
set_option maxRecDepth 20000 in
theorem ggX10_shifted_X10_lines : GoodIn wsX10_shifted wsX10_lines := goodIn_r _ [4, 5] (by decide +kernel) (by decide +kernel)
set_option maxRecDepth 20000 in
theorem gX10_shifted_X10_lines : GoodIn wsX10_shifted (va_wsS RX10 89 yX10_lines wsX10_lines) := goodIn_app (goodIn_of _ (by decide +kernel)) ggX10_shifted_X10_lines
set_option maxRecDepth 20000 in
theorem ggX10_firstLeft_X10_shifted : GoodIn wsX10_firstLeft wsX10_shifted := goodIn_r _ [4, 5, 6, 3, 7, 8] (by decide +kernel) (by decide +kernel)
set_option maxRecDepth 20000 in
theorem gX10_firstLeft_X10_shifted : GoodIn wsX10_firstLeft (va_wsS RX10 93 yX10_shifted wsX10_shifted) := goodIn_app (goodIn_of _ (by decide +kernel)) ggX10_firstLeft_X10_shifted
set_option maxRecDepth 20000 in
theorem ggX10_lastLeft_X10_shifted : GoodIn wsX10_lastLeft wsX10_shifted := goodIn_r _ [4, 5, 6, 3, 7, 8] (by decide +kernel) (by decide +kernel)
set_option maxRecDepth 20000 in
theorem gX10_lastLeft_X10_shifted : GoodIn wsX10_lastLeft (va_wsS RX10 93 yX10_shifted wsX10_shifted) := goodIn_app (goodIn_of _ (by decide +kernel)) ggX10_lastLeft_X10_shifted
set_option maxRecDepth 20000 in
theorem ggX10_lastLeft_X10_lines : GoodIn wsX10_lastLeft wsX10_lines := goodIn_r _ [7, 8] (by decide +kernel) (by decide +kernel)
set_option maxRecDepth 20000 in
theorem gX10_lastLeft_X10_lines : GoodIn wsX10_lastLeft (va_wsS RX10 89 yX10_lines wsX10_lines) := goodIn_app (goodIn_of _ (by decide +kernel)) ggX10_lastLeft_X10_lines
set_option maxRecDepth 20000 in
theorem ggX10_shiftRange_X10_lines : GoodIn wsX10_shiftRange wsX10_lines := goodIn_r _ [5, 6] (by decide +kernel) (by decide +kernel)
set_option maxRecDepth 20000 in
theorem gX10_shiftRange_X10_lines : GoodIn wsX10_shiftRange (va_wsS RX10 89 yX10_lines wsX10_lines) := goodIn_app (goodIn_of _ (by decide +kernel)) ggX10_shiftRange_X10_lines
set_option maxRecDepth 20000 in
theorem ggX10_shiftRange_X10_firstLeft : GoodIn wsX10_shiftRange wsX10_firstLeft := goodIn_r _ [9, 10, 11, 4, 12, 2, 3, 5, 6] (by decide +kernel) (by decide +kernel)
set_option maxRecDepth 20000 in
theorem gX10_shiftRange_X10_firstLeft : GoodIn wsX10_shiftRange (va_wsS RX10 96 yX10_firstLeft wsX10_firstLeft) := goodIn_app (goodIn_of _ (by decide +kernel)) ggX10_shiftRange_X10_firstLeft
set_option maxRecDepth 20000 in
theorem ggX10_shiftRange_X10_lastLeft : GoodIn wsX10_shiftRange wsX10_lastLeft := goodIn_r _ [15, 10, 11, 4, 12, 2, 3, 5, 6] (by decide +kernel) (by decide +kernel)
set_option maxRecDepth 20000 in
theorem gX10_shiftRange_X10_lastLeft : GoodIn wsX10_shiftRange (va_wsS RX10 100 yX10_lastLeft wsX10_lastLeft) := goodIn_app (goodIn_of _ (by decide +kernel)) ggX10_shiftRange_X10_lastLeft
set_option maxRecDepth 20000 in
theorem ggX10_shiftRange_X10_lose : GoodIn wsX10_shiftRange wsX10_lose := goodIn_r _ [19, 20, 21, 22, 23, 4, 24, 25, 26, 31, 32, 33, 34, 35, 36, 37, 38, 39, 40, 41] (by decide +kernel) (by decide +kernel)
set_option maxRecDepth 20000 in
theorem gX10_shiftRange_X10_lose : GoodIn wsX10_shiftRange (wsV RX10 61 RX10 yX10_lose wsX10_lose) := goodIn_app (goodIn_of _ (by decide +kernel)) ggX10_shiftRange_X10_lose
set_option maxRecDepth 20000 in
theorem ggX10_shiftRange_X10_makeRange : GoodIn wsX10_shiftRange wsX10_makeRange := goodIn_r _ [30, 20, 1, 21, 22, 23, 4, 24, 25, 26, 31, 32, 33, 34, 35, 36, 37, 38, 39, 40, 41] (by decide +kernel) (by decide +kernel)
set_option maxRecDepth 20000 in
theorem gX10_shiftRange_X10_makeRange : GoodIn wsX10_shiftRange (wsV RX10 64 RX10 yX10_makeRange wsX10_makeRange) := goodIn_app (goodIn_of _ (by decide +kernel)) ggX10_shiftRange_X10_makeRange
set_option maxRecDepth 20000 in
theorem ggX10_shift_X10_begin : GoodIn wsX10_shift wsX10_begin := goodIn_r _ [7, 8, 9, 52, 53, 54, 55, 56, 57, 58, 59, 60, 61, 62] (by decide +kernel) (by decide +kernel)
set_option maxRecDepth 20000 in
theorem gX10_shift_X10_begin : GoodIn wsX10_shift (wsV RX10 70 RX10 yX10_begin wsX10_begin) := goodIn_app (goodIn_of _ (by decide +kernel)) ggX10_shift_X10_begin
set_option maxRecDepth 20000 in
theorem ggX10_shift_X10_lengthAt : GoodIn wsX10_shift wsX10_lengthAt := goodIn_r _ [13, 2, 52, 53, 54, 55, 56, 57, 58, 59, 60, 61, 62] (by decide +kernel) (by decide +kernel)
set_option maxRecDepth 20000 in
theorem gX10_shift_X10_lengthAt : GoodIn wsX10_shift (wsV RX10 73 RX10 yX10_lengthAt wsX10_lengthAt) := goodIn_app (goodIn_of _ (by decide +kernel)) ggX10_shift_X10_lengthAt
set_option maxRecDepth 20000 in
theorem ggX10_shift_X10_make : GoodIn wsX10_shift wsX10_make := goodIn_r _ [17, 18, 8, 52, 53, 54, 55, 56, 57, 58, 59, 60, 61, 62] (by decide +kernel) (by decide +kernel)
set_option maxRecDepth 20000 in
theorem gX10_shift_X10_make : GoodIn wsX10_shift (wsV RX10 51 RX10 yX10_make wsX10_make) := goodIn_app (goodIn_of _ (by decide +kernel)) ggX10_shift_X10_make
set_option maxRecDepth 20000 in
theorem ggX10_shift_X10_shiftRange : GoodIn wsX10_shift wsX10_shiftRange := goodIn_r _ [22, 2, 23, 24, 6, 25, 26, 27, 28, 29, 30, 31, 32, 33, 34, 35, 36, 37, 38, 39, 9, 14, 15, 16, 17, 18, 8, 40, 41, 42, 43, 52, 53, 54, 55, 56, 57, 58, 59, 60, 61, 62] (by decide +kernel) (by decide +kernel)
set_option maxRecDepth 20000 in
theorem gX10_shift_X10_shiftRange : GoodIn wsX10_shift (wsV RX10 103 RX10 yX10_shiftRange wsX10_shiftRange) := goodIn_app (goodIn_of _ (by decide +kernel)) ggX10_shift_X10_shiftRange
set_option maxRecDepth 20000 in
theorem ggX10_shift_X10_shifted : GoodIn wsX10_shift wsX10_shifted := goodIn_r _ [32, 23, 24, 6, 25, 26] (by decide +kernel) (by decide +kernel)
set_option maxRecDepth 20000 in
theorem gX10_shift_X10_shifted : GoodIn wsX10_shift (va_wsS RX10 93 yX10_shifted wsX10_shifted) := goodIn_app (goodIn_of _ (by decide +kernel)) ggX10_shift_X10_shifted
set_option maxRecDepth 20000 in
theorem ggX10_shift_X10_lose : GoodIn wsX10_shift wsX10_lose := goodIn_r _ [39, 9, 14, 15, 16, 6, 17, 18, 8, 52, 53, 54, 55, 56, 57, 58, 59, 60, 61, 62] (by decide +kernel) (by decide +kernel)
set_option maxRecDepth 20000 in
theorem gX10_shift_X10_lose : GoodIn wsX10_shift (wsV RX10 61 RX10 yX10_lose wsX10_lose) := goodIn_app (goodIn_of _ (by decide +kernel)) ggX10_shift_X10_lose
set_option maxRecDepth 20000 in
theorem ggX10_shift_X10_makePlace : GoodIn wsX10_shift wsX10_makePlace := goodIn_r _ [47, 9, 2, 14, 15, 16, 6, 17, 18, 8, 52, 53, 54, 55, 56, 57, 58, 59, 60, 61, 62] (by decide +kernel) (by decide +kernel)
set_option maxRecDepth 20000 in
theorem gX10_shift_X10_makePlace : GoodIn wsX10_shift (wsV RX10 81 RX10 yX10_makePlace wsX10_makePlace) := goodIn_app (goodIn_of _ (by decide +kernel)) ggX10_shift_X10_makePlace
set_option maxRecDepth 20000 in
theorem ggX10_shift_X10_finish : GoodIn wsX10_shift wsX10_finish := goodIn_r _ [51, 8, 2, 18, 1, 9, 52, 53, 54, 55, 56, 57, 58, 59, 60, 61, 62] (by decide +kernel) (by decide +kernel)
set_option maxRecDepth 20000 in
theorem gX10_shift_X10_finish : GoodIn wsX10_shift (wsV RX10 85 RX10 yX10_finish wsX10_finish) := goodIn_app (goodIn_of _ (by decide +kernel)) ggX10_shift_X10_finish
set_option maxRecDepth 20000 in
theorem ggX10_isLine_X10_within : GoodIn wsX10_isLine wsX10_within := goodIn_r _ [4] (by decide +kernel) (by decide +kernel)
set_option maxRecDepth 20000 in
theorem gX10_isLine_X10_within : GoodIn wsX10_isLine (va_wsS RX10 40 yX10_within wsX10_within) := goodIn_app (goodIn_of _ (by decide +kernel)) ggX10_isLine_X10_within
set_option maxRecDepth 20000 in
theorem ggX10_isLine_X10_lines : GoodIn wsX10_isLine wsX10_lines := goodIn_r _ [7, 8] (by decide +kernel) (by decide +kernel)
set_option maxRecDepth 20000 in
theorem gX10_isLine_X10_lines : GoodIn wsX10_isLine (va_wsS RX10 89 yX10_lines wsX10_lines) := goodIn_app (goodIn_of _ (by decide +kernel)) ggX10_isLine_X10_lines
set_option maxRecDepth 20000 in
theorem ggX10_insert_X10_isLine : GoodIn wsX10_insert wsX10_isLine := goodIn_r _ [5, 6, 7, 4, 8, 9, 10, 11, 12] (by decide +kernel) (by decide +kernel)
set_option maxRecDepth 20000 in
theorem gX10_insert_X10_isLine : GoodIn wsX10_insert (va_wsS RX10 107 yX10_isLine wsX10_isLine) := goodIn_app (goodIn_of _ (by decide +kernel)) ggX10_insert_X10_isLine
set_option maxRecDepth 20000 in
theorem ggX10_insert_X10_shift : GoodIn wsX10_insert wsX10_shift := goodIn_r _ [16, 17, 18, 19, 20, 21, 4, 22, 23, 24, 25, 26, 27, 28, 29, 30, 31, 32, 33, 34, 35, 36, 37, 9, 10, 11, 12, 38, 39, 40, 41, 42, 43, 44, 45, 46, 47, 48, 49, 50, 51, 52, 53, 54, 55, 56, 57, 58, 59, 60, 61, 62, 63, 64, 65, 66, 67, 68, 69, 70, 71, 72, 73] (by decide +kernel) (by decide +kernel)
set_option maxRecDepth 20000 in
theorem gX10_insert_X10_shift : GoodIn wsX10_insert (wsV RX10 111 RX10 yX10_shift wsX10_shift) := goodIn_app (goodIn_of _ (by decide +kernel)) ggX10_insert_X10_shift
set_option maxRecDepth 20000 in
theorem ggX10_delete_X10_isLine : GoodIn wsX10_delete wsX10_isLine := goodIn_r _ [5, 6, 7, 4, 8, 9, 10, 11, 12] (by decide +kernel) (by decide +kernel)
set_option maxRecDepth 20000 in
theorem gX10_delete_X10_isLine : GoodIn wsX10_delete (va_wsS RX10 107 yX10_isLine wsX10_isLine) := goodIn_app (goodIn_of _ (by decide +kernel)) ggX10_delete_X10_isLine
set_option maxRecDepth 20000 in
theorem ggX10_delete_X10_shift : GoodIn wsX10_delete wsX10_shift := goodIn_r _ [16, 17, 18, 19, 20, 21, 4, 22, 23, 24, 25, 26, 27, 28, 29, 30, 31, 32, 33, 34, 35, 36, 37, 9, 10, 11, 12, 38, 39, 40, 41, 42, 43, 44, 45, 46, 47, 48, 49, 50, 51, 52, 53, 54, 55, 56, 57, 58, 59, 60, 61, 62, 63, 64, 65, 66, 67, 68, 69, 70, 71, 72, 73] (by decide +kernel) (by decide +kernel)
set_option maxRecDepth 20000 in
theorem gX10_delete_X10_shift : GoodIn wsX10_delete (wsV RX10 111 RX10 yX10_shift wsX10_shift) := goodIn_app (goodIn_of _ (by decide +kernel)) ggX10_delete_X10_shift
set_option maxRecDepth 20000 in
theorem ggX10_rectangle_X10_within : GoodIn wsX10_rectangle wsX10_within := goodIn_r _ [10] (by decide +kernel) (by decide +kernel)
set_option maxRecDepth 20000 in
theorem gX10_rectangle_X10_within : GoodIn wsX10_rectangle (va_wsS RX10 40 yX10_within wsX10_within) := goodIn_app (goodIn_of _ (by decide +kernel)) ggX10_rectangle_X10_within
set_option maxRecDepth 20000 in
theorem ggX10_rectangle_X10_isCell : GoodIn wsX10_rectangle wsX10_isCell := goodIn_r _ [13, 14, 7, 8, 9, 10] (by decide +kernel) (by decide +kernel)
set_option maxRecDepth 20000 in
theorem gX10_rectangle_X10_isCell : GoodIn wsX10_rectangle (va_wsS RX10 44 yX10_isCell wsX10_isCell) := goodIn_app (goodIn_of _ (by decide +kernel)) ggX10_rectangle_X10_isCell
set_option maxRecDepth 20000 in
theorem ggX10_moveItem_X10_lengthAt : GoodIn wsX10_moveItem wsX10_lengthAt := goodIn_r _ [11, 1, 31, 32, 33, 34, 35, 36, 37, 38, 39, 40, 41] (by decide +kernel) (by decide +kernel)
set_option maxRecDepth 20000 in
theorem gX10_moveItem_X10_lengthAt : GoodIn wsX10_moveItem (wsV RX10 73 RX10 yX10_lengthAt wsX10_lengthAt) := goodIn_app (goodIn_of _ (by decide +kernel)) ggX10_moveItem_X10_lengthAt
set_option maxRecDepth 20000 in
theorem ggX10_moveItem_X10_lose : GoodIn wsX10_moveItem wsX10_lose := goodIn_r _ [15, 16, 17, 18, 19, 10, 20, 21, 22, 31, 32, 33, 34, 35, 36, 37, 38, 39, 40, 41] (by decide +kernel) (by decide +kernel)
set_option maxRecDepth 20000 in
theorem gX10_moveItem_X10_lose : GoodIn wsX10_moveItem (wsV RX10 61 RX10 yX10_lose wsX10_lose) := goodIn_app (goodIn_of _ (by decide +kernel)) ggX10_moveItem_X10_lose
set_option maxRecDepth 20000 in
theorem ggX10_moveItem_X10_makePlace : GoodIn wsX10_moveItem wsX10_makePlace := goodIn_r _ [26, 16, 1, 17, 18, 19, 10, 20, 21, 22, 31, 32, 33, 34, 35, 36, 37, 38, 39, 40, 41] (by decide +kernel) (by decide +kernel)
set_option maxRecDepth 20000 in
theorem gX10_moveItem_X10_makePlace : GoodIn wsX10_moveItem (wsV RX10 81 RX10 yX10_makePlace wsX10_makePlace) := goodIn_app (goodIn_of _ (by decide +kernel)) ggX10_moveItem_X10_makePlace
set_option maxRecDepth 20000 in
theorem ggX10_moveItem_X10_makeRange : GoodIn wsX10_moveItem wsX10_makeRange := goodIn_r _ [30, 16, 1, 17, 18, 19, 10, 20, 21, 22, 31, 32, 33, 34, 35, 36, 37, 38, 39, 40, 41] (by decide +kernel) (by decide +kernel)
set_option maxRecDepth 20000 in
theorem gX10_moveItem_X10_makeRange : GoodIn wsX10_moveItem (wsV RX10 64 RX10 yX10_makeRange wsX10_makeRange) := goodIn_app (goodIn_of _ (by decide +kernel)) ggX10_moveItem_X10_makeRange
set_option maxRecDepth 20000 in
theorem ggX10_move_X10_within : GoodIn wsX10_move wsX10_within := goodIn_r _ [12] (by decide +kernel) (by decide +kernel)
set_option maxRecDepth 20000 in
theorem gX10_move_X10_within : GoodIn wsX10_move (va_wsS RX10 40 yX10_within wsX10_within) := goodIn_app (goodIn_of _ (by decide +kernel)) ggX10_move_X10_within
set_option maxRecDepth 20000 in
theorem ggX10_move_X10_isCell : GoodIn wsX10_move wsX10_isCell := goodIn_r _ [15, 3, 9, 10, 11, 12] (by decide +kernel) (by decide +kernel)
set_option maxRecDepth 20000 in
theorem gX10_move_X10_isCell : GoodIn wsX10_move (va_wsS RX10 44 yX10_isCell wsX10_isCell) := goodIn_app (goodIn_of _ (by decide +kernel)) ggX10_move_X10_isCell
set_option maxRecDepth 20000 in
theorem ggX10_move_X10_begin : GoodIn wsX10_move wsX10_begin := goodIn_r _ [19, 20, 21, 52, 53, 54, 55, 56, 57, 58, 59, 60, 61, 62] (by decide +kernel) (by decide +kernel)
set_option maxRecDepth 20000 in
theorem gX10_move_X10_begin : GoodIn wsX10_move (wsV RX10 70 RX10 yX10_begin wsX10_begin) := goodIn_app (goodIn_of _ (by decide +kernel)) ggX10_move_X10_begin
set_option maxRecDepth 20000 in
theorem ggX10_move_X10_lengthAt : GoodIn wsX10_move wsX10_lengthAt := goodIn_r _ [25, 8, 52, 53, 54, 55, 56, 57, 58, 59, 60, 61, 62] (by decide +kernel) (by decide +kernel)
set_option maxRecDepth 20000 in
theorem gX10_move_X10_lengthAt : GoodIn wsX10_move (wsV RX10 73 RX10 yX10_lengthAt wsX10_lengthAt) := goodIn_app (goodIn_of _ (by decide +kernel)) ggX10_move_X10_lengthAt
set_option maxRecDepth 20000 in
theorem ggX10_move_X10_make : GoodIn wsX10_move wsX10_make := goodIn_r _ [29, 30, 20, 52, 53, 54, 55, 56, 57, 58, 59, 60, 61, 62] (by decide +kernel) (by decide +kernel)
set_option maxRecDepth 20000 in
theorem gX10_move_X10_make : GoodIn wsX10_move (wsV RX10 51 RX10 yX10_make wsX10_make) := goodIn_app (goodIn_of _ (by decide +kernel)) ggX10_move_X10_make
set_option maxRecDepth 20000 in
theorem ggX10_move_X10_moveItem : GoodIn wsX10_move wsX10_moveItem := goodIn_r _ [34, 8, 2, 5, 35, 1, 4, 22, 23, 24, 11, 25, 36, 37, 38, 39, 21, 26, 27, 28, 29, 30, 20, 40, 41, 42, 43, 44, 45, 46, 47, 52, 53, 54, 55, 56, 57, 58, 59, 60, 61, 62] (by decide +kernel) (by decide +kernel)
set_option maxRecDepth 20000 in
theorem gX10_move_X10_moveItem : GoodIn wsX10_move (wsV RX10 117 RX10 yX10_moveItem wsX10_moveItem) := goodIn_app (goodIn_of _ (by decide +kernel)) ggX10_move_X10_moveItem
set_option maxRecDepth 20000 in
theorem ggX10_move_X10_finish : GoodIn wsX10_move wsX10_finish := goodIn_r _ [51, 20, 8, 30, 7, 21, 52, 53, 54, 55, 56, 57, 58, 59, 60, 61, 62] (by decide +kernel) (by decide +kernel)
set_option maxRecDepth 20000 in
theorem gX10_move_X10_finish : GoodIn wsX10_move (wsV RX10 85 RX10 yX10_finish wsX10_finish) := goodIn_app (goodIn_of _ (by decide +kernel)) ggX10_move_X10_finish
abbrev vwCl : List vw_C := [(RX0, TX0, 5), (RX2, TX2, 2), (RX4, TX4, 5), (RX5, TX5, 5), (RX6, TX6, 4), (RX7, TX7, 5), (RX8, TX8, 5), (RX9, TX9, 4), (RX10, TX10, 11)]
end
section
theorem dX0_init_0 : decode cX0_init 0 = .ok (.aload_n 0, 1) := by decide +kernel
theorem dX0_init_1 : decode cX0_init 1 = .ok (.invokespecial 1, 3) := by decide +kernel
theorem dX0_init_4 : decode cX0_init 4 = .ok (.aload_n 0, 1) := by decide +kernel
theorem dX0_init_5 : decode cX0_init 5 = .ok (.iload_n 1, 1) := by decide +kernel
theorem dX0_init_6 : decode cX0_init 6 = .ok (.putfield 7, 3) := by decide +kernel
theorem dX0_init_9 : decode cX0_init 9 = .ok (.aload_n 0, 1) := by decide +kernel
theorem dX0_init_10 : decode cX0_init 10 = .ok (.iload_n 2, 1) := by decide +kernel
theorem dX0_init_11 : decode cX0_init 11 = .ok (.putfield 13, 3) := by decide +kernel
theorem dX0_init_14 : decode cX0_init 14 = .ok (.aload_n 0, 1) := by decide +kernel
theorem dX0_init_15 : decode cX0_init 15 = .ok (.iload_n 3, 1) := by decide +kernel
theorem dX0_init_16 : decode cX0_init 16 = .ok (.putfield 16, 3) := by decide +kernel
theorem dX0_init_19 : decode cX0_init 19 = .ok (.aload_n 0, 1) := by decide +kernel
theorem dX0_init_20 : decode cX0_init 20 = .ok (.iload 4, 2) := by decide +kernel
theorem dX0_init_22 : decode cX0_init 22 = .ok (.putfield 19, 3) := by decide +kernel
theorem dX0_init_25 : decode cX0_init 25 = .ok (.aload_n 0, 1) := by decide +kernel
theorem dX0_init_26 : decode cX0_init 26 = .ok (.iload 5, 2) := by decide +kernel
theorem dX0_init_28 : decode cX0_init 28 = .ok (.putfield 22, 3) := by decide +kernel
theorem dX0_init_31 : decode cX0_init 31 = .ok (.return_, 1) := by decide +kernel
theorem dX0_holds_0 : decode cX0_holds 0 = .ok (.aload_n 1, 1) := by decide +kernel
theorem dX0_holds_1 : decode cX0_holds 1 = .ok (.iload_n 2, 1) := by decide +kernel
theorem dX0_holds_2 : decode cX0_holds 2 = .ok (.invokevirtual 25, 3) := by decide +kernel
theorem dX0_holds_5 : decode cX0_holds 5 = .ok (.aload_n 0, 1) := by decide +kernel
theorem dX0_holds_6 : decode cX0_holds 6 = .ok (.getfield 7, 3) := by decide +kernel
theorem dX0_holds_9 : decode cX0_holds 9 = .ok (.if_icmp .ne 43, 3) := by decide +kernel
theorem dX0_holds_12 : decode cX0_holds 12 = .ok (.aload_n 1, 1) := by decide +kernel
theorem dX0_holds_13 : decode cX0_holds 13 = .ok (.getfield 31, 3) := by decide +kernel
theorem dX0_holds_16 : decode cX0_holds 16 = .ok (.aload_n 0, 1) := by decide +kernel
theorem dX0_holds_17 : decode cX0_holds 17 = .ok (.getfield 13, 3) := by decide +kernel
theorem dX0_holds_20 : decode cX0_holds 20 = .ok (.aload_n 0, 1) := by decide +kernel
theorem dX0_holds_21 : decode cX0_holds 21 = .ok (.getfield 19, 3) := by decide +kernel
theorem dX0_holds_24 : decode cX0_holds 24 = .ok (.invokevirtual 35, 3) := by decide +kernel
theorem dX0_holds_27 : decode cX0_holds 27 = .ok (.ifCond .eq 25, 3) := by decide +kernel
theorem dX0_holds_30 : decode cX0_holds 30 = .ok (.aload_n 1, 1) := by decide +kernel
theorem dX0_holds_31 : decode cX0_holds 31 = .ok (.getfield 41, 3) := by decide +kernel
theorem dX0_holds_34 : decode cX0_holds 34 = .ok (.aload_n 0, 1) := by decide +kernel
theorem dX0_holds_35 : decode cX0_holds 35 = .ok (.getfield 16, 3) := by decide +kernel
theorem dX0_holds_38 : decode cX0_holds 38 = .ok (.aload_n 0, 1) := by decide +kernel
theorem dX0_holds_39 : decode cX0_holds 39 = .ok (.getfield 22, 3) := by decide +kernel
theorem dX0_holds_42 : decode cX0_holds 42 = .ok (.invokevirtual 35, 3) := by decide +kernel
theorem dX0_holds_45 : decode cX0_holds 45 = .ok (.ifCond .eq 7, 3) := by decide +kernel
theorem dX0_holds_48 : decode cX0_holds 48 = .ok (.iconst 1, 1) := by decide +kernel
theorem dX0_holds_49 : decode cX0_holds 49 = .ok (.goto 4, 3) := by decide +kernel
theorem dX0_holds_52 : decode cX0_holds 52 = .ok (.iconst 0, 1) := by decide +kernel
theorem dX0_holds_53 : decode cX0_holds 53 = .ok (.ireturn, 1) := by decide +kernel
theorem dX1_init_0 : decode cX1_init 0 = .ok (.aload_n 0, 1) := by decide +kernel
theorem dX1_init_1 : decode cX1_init 1 = .ok (.invokespecial 1, 3) := by decide +kernel
theorem dX1_init_4 : decode cX1_init 4 = .ok (.return_, 1) := by decide +kernel
theorem dX2_init_0 : decode cX2_init 0 = .ok (.aload_n 0, 1) := by decide +kernel
theorem dX2_init_1 : decode cX2_init 1 = .ok (.invokespecial 3, 3) := by decide +kernel
theorem dX2_init_4 : decode cX2_init 4 = .ok (.aload_n 0, 1) := by decide +kernel
theorem dX2_init_5 : decode cX2_init 5 = .ok (.iload_n 1, 1) := by decide +kernel
theorem dX2_init_6 : decode cX2_init 6 = .ok (.putfield 9, 3) := by decide +kernel
theorem dX2_init_9 : decode cX2_init 9 = .ok (.aload_n 0, 1) := by decide +kernel
theorem dX2_init_10 : decode cX2_init 10 = .ok (.iload_n 2, 1) := by decide +kernel
theorem dX2_init_11 : decode cX2_init 11 = .ok (.putfield 15, 3) := by decide +kernel
theorem dX2_init_14 : decode cX2_init 14 = .ok (.return_, 1) := by decide +kernel
theorem dX2_keeps_0 : decode cX2_keeps 0 = .ok (.aload_n 1, 1) := by decide +kernel
theorem dX2_keeps_1 : decode cX2_keeps 1 = .ok (.getfield 18, 3) := by decide +kernel
theorem dX2_keeps_4 : decode cX2_keeps 4 = .ok (.bipush 16, 2) := by decide +kernel
theorem dX2_keeps_6 : decode cX2_keeps 6 = .ok (.invokestatic 23, 3) := by decide +kernel
theorem dX2_keeps_9 : decode cX2_keeps 9 = .ok (.ifCond .ne 17, 3) := by decide +kernel
theorem dX2_keeps_12 : decode cX2_keeps 12 = .ok (.aload_n 1, 1) := by decide +kernel
theorem dX2_keeps_13 : decode cX2_keeps 13 = .ok (.getfield 27, 3) := by decide +kernel
theorem dX2_keeps_16 : decode cX2_keeps 16 = .ok (.aload_n 0, 1) := by decide +kernel
theorem dX2_keeps_17 : decode cX2_keeps 17 = .ok (.getfield 9, 3) := by decide +kernel
theorem dX2_keeps_20 : decode cX2_keeps 20 = .ok (.invokevirtual 31, 3) := by decide +kernel
theorem dX2_keeps_23 : decode cX2_keeps 23 = .ok (.ifCond .eq 33, 3) := by decide +kernel
theorem dX2_keeps_26 : decode cX2_keeps 26 = .ok (.aload_n 1, 1) := by decide +kernel
theorem dX2_keeps_27 : decode cX2_keeps 27 = .ok (.getfield 18, 3) := by decide +kernel
theorem dX2_keeps_30 : decode cX2_keeps 30 = .ok (.bipush 32, 2) := by decide +kernel
theorem dX2_keeps_32 : decode cX2_keeps 32 = .ok (.invokestatic 23, 3) := by decide +kernel
theorem dX2_keeps_35 : decode cX2_keeps 35 = .ok (.ifCond .ne 17, 3) := by decide +kernel
theorem dX2_keeps_38 : decode cX2_keeps 38 = .ok (.aload_n 1, 1) := by decide +kernel
theorem dX2_keeps_39 : decode cX2_keeps 39 = .ok (.getfield 37, 3) := by decide +kernel
theorem dX2_keeps_42 : decode cX2_keeps 42 = .ok (.aload_n 0, 1) := by decide +kernel
theorem dX2_keeps_43 : decode cX2_keeps 43 = .ok (.getfield 15, 3) := by decide +kernel
theorem dX2_keeps_46 : decode cX2_keeps 46 = .ok (.invokevirtual 31, 3) := by decide +kernel
theorem dX2_keeps_49 : decode cX2_keeps 49 = .ok (.ifCond .eq 7, 3) := by decide +kernel
theorem dX2_keeps_52 : decode cX2_keeps 52 = .ok (.iconst 1, 1) := by decide +kernel
theorem dX2_keeps_53 : decode cX2_keeps 53 = .ok (.goto 4, 3) := by decide +kernel
theorem dX2_keeps_56 : decode cX2_keeps 56 = .ok (.iconst 0, 1) := by decide +kernel
theorem dX2_keeps_57 : decode cX2_keeps 57 = .ok (.ireturn, 1) := by decide +kernel
theorem dX3_init_0 : decode cX3_init 0 = .ok (.aload_n 0, 1) := by decide +kernel
theorem dX3_init_1 : decode cX3_init 1 = .ok (.invokespecial 1, 3) := by decide +kernel
theorem dX3_init_4 : decode cX3_init 4 = .ok (.aload_n 0, 1) := by decide +kernel
theorem dX3_init_5 : decode cX3_init 5 = .ok (.iload_n 1, 1) := by decide +kernel
theorem dX3_init_6 : decode cX3_init 6 = .ok (.putfield 7, 3) := by decide +kernel
theorem dX3_init_9 : decode cX3_init 9 = .ok (.aload_n 0, 1) := by decide +kernel
theorem dX3_init_10 : decode cX3_init 10 = .ok (.iload_n 2, 1) := by decide +kernel
theorem dX3_init_11 : decode cX3_init 11 = .ok (.putfield 13, 3) := by decide +kernel
theorem dX3_init_14 : decode cX3_init 14 = .ok (.aload_n 0, 1) := by decide +kernel
theorem dX3_init_15 : decode cX3_init 15 = .ok (.iload_n 3, 1) := by decide +kernel
theorem dX3_init_16 : decode cX3_init 16 = .ok (.putfield 16, 3) := by decide +kernel
theorem dX3_init_19 : decode cX3_init 19 = .ok (.aload_n 0, 1) := by decide +kernel
theorem dX3_init_20 : decode cX3_init 20 = .ok (.iload 4, 2) := by decide +kernel
theorem dX3_init_22 : decode cX3_init 22 = .ok (.putfield 20, 3) := by decide +kernel
theorem dX3_init_25 : decode cX3_init 25 = .ok (.aload_n 0, 1) := by decide +kernel
theorem dX3_init_26 : decode cX3_init 26 = .ok (.iload 5, 2) := by decide +kernel
theorem dX3_init_28 : decode cX3_init 28 = .ok (.putfield 23, 3) := by decide +kernel
theorem dX3_init_31 : decode cX3_init 31 = .ok (.return_, 1) := by decide +kernel
theorem dX3_keeps_0 : decode cX3_keeps 0 = .ok (.aload_n 1, 1) := by decide +kernel
theorem dX3_keeps_1 : decode cX3_keeps 1 = .ok (.aload_n 0, 1) := by decide +kernel
theorem dX3_keeps_2 : decode cX3_keeps 2 = .ok (.getfield 7, 3) := by decide +kernel
theorem dX3_keeps_5 : decode cX3_keeps 5 = .ok (.invokevirtual 26, 3) := by decide +kernel
theorem dX3_keeps_8 : decode cX3_keeps 8 = .ok (.aload_n 0, 1) := by decide +kernel
theorem dX3_keeps_9 : decode cX3_keeps 9 = .ok (.getfield 13, 3) := by decide +kernel
theorem dX3_keeps_12 : decode cX3_keeps 12 = .ok (.if_icmp .ne 28, 3) := by decide +kernel
theorem dX3_keeps_15 : decode cX3_keeps 15 = .ok (.aload_n 0, 1) := by decide +kernel
theorem dX3_keeps_16 : decode cX3_keeps 16 = .ok (.aload_n 0, 1) := by decide +kernel
theorem dX3_keeps_17 : decode cX3_keeps 17 = .ok (.getfield 16, 3) := by decide +kernel
theorem dX3_keeps_20 : decode cX3_keeps 20 = .ok (.ifCond .eq 10, 3) := by decide +kernel
theorem dX3_keeps_23 : decode cX3_keeps 23 = .ok (.aload_n 1, 1) := by decide +kernel
theorem dX3_keeps_24 : decode cX3_keeps 24 = .ok (.getfield 32, 3) := by decide +kernel
theorem dX3_keeps_27 : decode cX3_keeps 27 = .ok (.goto 7, 3) := by decide +kernel
theorem dX3_keeps_30 : decode cX3_keeps 30 = .ok (.aload_n 1, 1) := by decide +kernel
theorem dX3_keeps_31 : decode cX3_keeps 31 = .ok (.getfield 35, 3) := by decide +kernel
theorem dX3_keeps_34 : decode cX3_keeps 34 = .ok (.invokevirtual 38, 3) := by decide +kernel
theorem dX3_keeps_37 : decode cX3_keeps 37 = .ok (.ifCond .eq 7, 3) := by decide +kernel
theorem dX3_keeps_40 : decode cX3_keeps 40 = .ok (.iconst 1, 1) := by decide +kernel
theorem dX3_keeps_41 : decode cX3_keeps 41 = .ok (.goto 4, 3) := by decide +kernel
theorem dX3_keeps_44 : decode cX3_keeps 44 = .ok (.iconst 0, 1) := by decide +kernel
theorem dX3_keeps_45 : decode cX3_keeps 45 = .ok (.ireturn, 1) := by decide +kernel
theorem dX4_init_0 : decode cX4_init 0 = .ok (.aload_n 0, 1) := by decide +kernel
theorem dX4_init_1 : decode cX4_init 1 = .ok (.iload_n 1, 1) := by decide +kernel
theorem dX4_init_2 : decode cX4_init 2 = .ok (.iload_n 2, 1) := by decide +kernel
theorem dX4_init_3 : decode cX4_init 3 = .ok (.iload_n 3, 1) := by decide +kernel
theorem dX4_init_4 : decode cX4_init 4 = .ok (.iload 4, 2) := by decide +kernel
theorem dX4_init_6 : decode cX4_init 6 = .ok (.iload 5, 2) := by decide +kernel
theorem dX4_init_8 : decode cX4_init 8 = .ok (.invokespecial 1, 3) := by decide +kernel
theorem dX4_init_11 : decode cX4_init 11 = .ok (.return_, 1) := by decide +kernel
theorem dX4_keepsLines_0 : decode cX4_keepsLines 0 = .ok (.aload_n 1, 1) := by decide +kernel
theorem dX4_keepsLines_1 : decode cX4_keepsLines 1 = .ok (.aload_n 0, 1) := by decide +kernel
theorem dX4_keepsLines_2 : decode cX4_keepsLines 2 = .ok (.getfield 7, 3) := by decide +kernel
theorem dX4_keepsLines_5 : decode cX4_keepsLines 5 = .ok (.aload_n 0, 1) := by decide +kernel
theorem dX4_keepsLines_6 : decode cX4_keepsLines 6 = .ok (.getfield 13, 3) := by decide +kernel
theorem dX4_keepsLines_9 : decode cX4_keepsLines 9 = .ok (.invokevirtual 16, 3) := by decide +kernel
theorem dX4_keepsLines_12 : decode cX4_keepsLines 12 = .ok (.ireturn, 1) := by decide +kernel
theorem dX5_init_0 : decode cX5_init 0 = .ok (.aload_n 0, 1) := by decide +kernel
theorem dX5_init_1 : decode cX5_init 1 = .ok (.iload_n 1, 1) := by decide +kernel
theorem dX5_init_2 : decode cX5_init 2 = .ok (.iload_n 2, 1) := by decide +kernel
theorem dX5_init_3 : decode cX5_init 3 = .ok (.iload_n 3, 1) := by decide +kernel
theorem dX5_init_4 : decode cX5_init 4 = .ok (.iload 4, 2) := by decide +kernel
theorem dX5_init_6 : decode cX5_init 6 = .ok (.iload 5, 2) := by decide +kernel
theorem dX5_init_8 : decode cX5_init 8 = .ok (.invokespecial 1, 3) := by decide +kernel
theorem dX5_init_11 : decode cX5_init 11 = .ok (.return_, 1) := by decide +kernel
theorem dX5_keepsLines_0 : decode cX5_keepsLines 0 = .ok (.aload_n 1, 1) := by decide +kernel
theorem dX5_keepsLines_1 : decode cX5_keepsLines 1 = .ok (.aload_n 0, 1) := by decide +kernel
theorem dX5_keepsLines_2 : decode cX5_keepsLines 2 = .ok (.getfield 7, 3) := by decide +kernel
theorem dX5_keepsLines_5 : decode cX5_keepsLines 5 = .ok (.aload_n 0, 1) := by decide +kernel
theorem dX5_keepsLines_6 : decode cX5_keepsLines 6 = .ok (.getfield 13, 3) := by decide +kernel
theorem dX5_keepsLines_9 : decode cX5_keepsLines 9 = .ok (.invokevirtual 16, 3) := by decide +kernel
theorem dX5_keepsLines_12 : decode cX5_keepsLines 12 = .ok (.ireturn, 1) := by decide +kernel
theorem dX6_init_0 : decode cX6_init 0 = .ok (.aload_n 0, 1) := by decide +kernel
theorem dX6_init_1 : decode cX6_init 1 = .ok (.invokespecial 3, 3) := by decide +kernel
theorem dX6_init_4 : decode cX6_init 4 = .ok (.aload_n 0, 1) := by decide +kernel
theorem dX6_init_5 : decode cX6_init 5 = .ok (.iload_n 1, 1) := by decide +kernel
theorem dX6_init_6 : decode cX6_init 6 = .ok (.putfield 9, 3) := by decide +kernel
theorem dX6_init_9 : decode cX6_init 9 = .ok (.aload_n 0, 1) := by decide +kernel
theorem dX6_init_10 : decode cX6_init 10 = .ok (.iload_n 2, 1) := by decide +kernel
theorem dX6_init_11 : decode cX6_init 11 = .ok (.putfield 15, 3) := by decide +kernel
theorem dX6_init_14 : decode cX6_init 14 = .ok (.aload_n 0, 1) := by decide +kernel
theorem dX6_init_15 : decode cX6_init 15 = .ok (.aload_n 3, 1) := by decide +kernel
theorem dX6_init_16 : decode cX6_init 16 = .ok (.putfield 18, 3) := by decide +kernel
theorem dX6_init_19 : decode cX6_init 19 = .ok (.aload_n 0, 1) := by decide +kernel
theorem dX6_init_20 : decode cX6_init 20 = .ok (.aload 4, 2) := by decide +kernel
theorem dX6_init_22 : decode cX6_init 22 = .ok (.putfield 22, 3) := by decide +kernel
theorem dX6_init_25 : decode cX6_init 25 = .ok (.return_, 1) := by decide +kernel
theorem dX6_keeps_0 : decode cX6_keeps 0 = .ok (.aload_n 1, 1) := by decide +kernel
theorem dX6_keeps_1 : decode cX6_keeps 1 = .ok (.aload_n 0, 1) := by decide +kernel
theorem dX6_keeps_2 : decode cX6_keeps 2 = .ok (.getfield 9, 3) := by decide +kernel
theorem dX6_keeps_5 : decode cX6_keeps 5 = .ok (.invokevirtual 25, 3) := by decide +kernel
theorem dX6_keeps_8 : decode cX6_keeps 8 = .ok (.istore_n 2, 1) := by decide +kernel
theorem dX6_keeps_9 : decode cX6_keeps 9 = .ok (.aload_n 0, 1) := by decide +kernel
theorem dX6_keeps_10 : decode cX6_keeps 10 = .ok (.getfield 18, 3) := by decide +kernel
theorem dX6_keeps_13 : decode cX6_keeps 13 = .ok (.aload_n 1, 1) := by decide +kernel
theorem dX6_keeps_14 : decode cX6_keeps 14 = .ok (.aload_n 0, 1) := by decide +kernel
theorem dX6_keeps_15 : decode cX6_keeps 15 = .ok (.getfield 9, 3) := by decide +kernel
theorem dX6_keeps_18 : decode cX6_keeps 18 = .ok (.invokevirtual 31, 3) := by decide +kernel
theorem dX6_keeps_21 : decode cX6_keeps 21 = .ok (.ifCond .eq 58, 3) := by decide +kernel
theorem dX6_keeps_24 : decode cX6_keeps 24 = .ok (.aload_n 1, 1) := by decide +kernel
theorem dX6_keeps_25 : decode cX6_keeps 25 = .ok (.getfield 37, 3) := by decide +kernel
theorem dX6_keeps_28 : decode cX6_keeps 28 = .ok (.aload_n 0, 1) := by decide +kernel
theorem dX6_keeps_29 : decode cX6_keeps 29 = .ok (.getfield 22, 3) := by decide +kernel
theorem dX6_keeps_32 : decode cX6_keeps 32 = .ok (.getfield 41, 3) := by decide +kernel
theorem dX6_keeps_35 : decode cX6_keeps 35 = .ok (.aload_n 0, 1) := by decide +kernel
theorem dX6_keeps_36 : decode cX6_keeps 36 = .ok (.getfield 18, 3) := by decide +kernel
theorem dX6_keeps_39 : decode cX6_keeps 39 = .ok (.getfield 41, 3) := by decide +kernel
theorem dX6_keeps_42 : decode cX6_keeps 42 = .ok (.isub, 1) := by decide +kernel
theorem dX6_keeps_43 : decode cX6_keeps 43 = .ok (.invokevirtual 44, 3) := by decide +kernel
theorem dX6_keeps_46 : decode cX6_keeps 46 = .ok (.aload_n 1, 1) := by decide +kernel
theorem dX6_keeps_47 : decode cX6_keeps 47 = .ok (.getfield 50, 3) := by decide +kernel
theorem dX6_keeps_50 : decode cX6_keeps 50 = .ok (.aload_n 0, 1) := by decide +kernel
theorem dX6_keeps_51 : decode cX6_keeps 51 = .ok (.getfield 22, 3) := by decide +kernel
theorem dX6_keeps_54 : decode cX6_keeps 54 = .ok (.getfield 53, 3) := by decide +kernel
theorem dX6_keeps_57 : decode cX6_keeps 57 = .ok (.aload_n 0, 1) := by decide +kernel
theorem dX6_keeps_58 : decode cX6_keeps 58 = .ok (.getfield 18, 3) := by decide +kernel
theorem dX6_keeps_61 : decode cX6_keeps 61 = .ok (.getfield 53, 3) := by decide +kernel
theorem dX6_keeps_64 : decode cX6_keeps 64 = .ok (.isub, 1) := by decide +kernel
theorem dX6_keeps_65 : decode cX6_keeps 65 = .ok (.invokevirtual 44, 3) := by decide +kernel
theorem dX6_keeps_68 : decode cX6_keeps 68 = .ok (.aload_n 0, 1) := by decide +kernel
theorem dX6_keeps_69 : decode cX6_keeps 69 = .ok (.getfield 22, 3) := by decide +kernel
theorem dX6_keeps_72 : decode cX6_keeps 72 = .ok (.getfield 56, 3) := by decide +kernel
theorem dX6_keeps_75 : decode cX6_keeps 75 = .ok (.istore_n 2, 1) := by decide +kernel
theorem dX6_keeps_76 : decode cX6_keeps 76 = .ok (.goto 20, 3) := by decide +kernel
theorem dX6_keeps_79 : decode cX6_keeps 79 = .ok (.aload_n 0, 1) := by decide +kernel
theorem dX6_keeps_80 : decode cX6_keeps 80 = .ok (.getfield 22, 3) := by decide +kernel
theorem dX6_keeps_83 : decode cX6_keeps 83 = .ok (.aload_n 1, 1) := by decide +kernel
theorem dX6_keeps_84 : decode cX6_keeps 84 = .ok (.aload_n 0, 1) := by decide +kernel
theorem dX6_keeps_85 : decode cX6_keeps 85 = .ok (.getfield 9, 3) := by decide +kernel
theorem dX6_keeps_88 : decode cX6_keeps 88 = .ok (.invokevirtual 31, 3) := by decide +kernel
theorem dX6_keeps_91 : decode cX6_keeps 91 = .ok (.ifCond .eq 5, 3) := by decide +kernel
theorem dX6_keeps_94 : decode cX6_keeps 94 = .ok (.iconst 0, 1) := by decide +kernel
theorem dX6_keeps_95 : decode cX6_keeps 95 = .ok (.ireturn, 1) := by decide +kernel
theorem dX6_keeps_96 : decode cX6_keeps 96 = .ok (.aload_n 1, 1) := by decide +kernel
theorem dX6_keeps_97 : decode cX6_keeps 97 = .ok (.getfield 59, 3) := by decide +kernel
theorem dX6_keeps_100 : decode cX6_keeps 100 = .ok (.iconst (-1), 1) := by decide +kernel
theorem dX6_keeps_101 : decode cX6_keeps 101 = .ok (.if_icmp .ne 11, 3) := by decide +kernel
theorem dX6_keeps_104 : decode cX6_keeps 104 = .ok (.iload_n 2, 1) := by decide +kernel
theorem dX6_keeps_105 : decode cX6_keeps 105 = .ok (.aload_n 0, 1) := by decide +kernel
theorem dX6_keeps_106 : decode cX6_keeps 106 = .ok (.getfield 15, 3) := by decide +kernel
theorem dX6_keeps_109 : decode cX6_keeps 109 = .ok (.if_icmp .eq 8, 3) := by decide +kernel
theorem dX6_keeps_112 : decode cX6_keeps 112 = .ok (.aload_n 1, 1) := by decide +kernel
theorem dX6_keeps_113 : decode cX6_keeps 113 = .ok (.iload_n 2, 1) := by decide +kernel
theorem dX6_keeps_114 : decode cX6_keeps 114 = .ok (.putfield 59, 3) := by decide +kernel
theorem dX6_keeps_117 : decode cX6_keeps 117 = .ok (.iconst 1, 1) := by decide +kernel
theorem dX6_keeps_118 : decode cX6_keeps 118 = .ok (.ireturn, 1) := by decide +kernel
theorem dX7_init_0 : decode cX7_init 0 = .ok (.aload_n 0, 1) := by decide +kernel
theorem dX7_init_1 : decode cX7_init 1 = .ok (.invokespecial 3, 3) := by decide +kernel
theorem dX7_init_4 : decode cX7_init 4 = .ok (.aload_n 0, 1) := by decide +kernel
theorem dX7_init_5 : decode cX7_init 5 = .ok (.new 9, 3) := by decide +kernel
theorem dX7_init_8 : decode cX7_init 8 = .ok (.dup, 1) := by decide +kernel
theorem dX7_init_9 : decode cX7_init 9 = .ok (.ldc 11, 2) := by decide +kernel
theorem dX7_init_11 : decode cX7_init 11 = .ok (.invokespecial 12, 3) := by decide +kernel
theorem dX7_init_14 : decode cX7_init 14 = .ok (.putfield 15, 3) := by decide +kernel
theorem dX7_init_17 : decode cX7_init 17 = .ok (.aload_n 0, 1) := by decide +kernel
theorem dX7_init_18 : decode cX7_init 18 = .ok (.new 9, 3) := by decide +kernel
theorem dX7_init_21 : decode cX7_init 21 = .ok (.dup, 1) := by decide +kernel
theorem dX7_init_22 : decode cX7_init 22 = .ok (.sipush 16384, 3) := by decide +kernel
theorem dX7_init_25 : decode cX7_init 25 = .ok (.invokespecial 12, 3) := by decide +kernel
theorem dX7_init_28 : decode cX7_init 28 = .ok (.putfield 21, 3) := by decide +kernel
theorem dX7_init_31 : decode cX7_init 31 = .ok (.return_, 1) := by decide +kernel
theorem dX7_sheetSeenFrom_0 : decode cX7_sheetSeenFrom 0 = .ok (.aload_n 0, 1) := by decide +kernel
theorem dX7_sheetSeenFrom_1 : decode cX7_sheetSeenFrom 1 = .ok (.getfield 24, 3) := by decide +kernel
theorem dX7_sheetSeenFrom_4 : decode cX7_sheetSeenFrom 4 = .ok (.iconst (-1), 1) := by decide +kernel
theorem dX7_sheetSeenFrom_5 : decode cX7_sheetSeenFrom 5 = .ok (.if_icmp .ne 7, 3) := by decide +kernel
theorem dX7_sheetSeenFrom_8 : decode cX7_sheetSeenFrom 8 = .ok (.iload_n 1, 1) := by decide +kernel
theorem dX7_sheetSeenFrom_9 : decode cX7_sheetSeenFrom 9 = .ok (.goto 7, 3) := by decide +kernel
theorem dX7_sheetSeenFrom_12 : decode cX7_sheetSeenFrom 12 = .ok (.aload_n 0, 1) := by decide +kernel
theorem dX7_sheetSeenFrom_13 : decode cX7_sheetSeenFrom 13 = .ok (.getfield 24, 3) := by decide +kernel
theorem dX7_sheetSeenFrom_16 : decode cX7_sheetSeenFrom 16 = .ok (.ireturn, 1) := by decide +kernel
theorem dX7_wordAt_0 : decode cX7_wordAt 0 = .ok (.iload_n 1, 1) := by decide +kernel
theorem dX7_wordAt_1 : decode cX7_wordAt 1 = .ok (.tableswitch 93 0 4 #[35, 64, 69, 77, 85], 35) := by decide +kernel
theorem dX7_wordAt_36 : decode cX7_wordAt 36 = .ok (.aload_n 0, 1) := by decide +kernel
theorem dX7_wordAt_37 : decode cX7_wordAt 37 = .ok (.getfield 28, 3) := by decide +kernel
theorem dX7_wordAt_40 : decode cX7_wordAt 40 = .ok (.ifCond .eq 15, 3) := by decide +kernel
theorem dX7_wordAt_43 : decode cX7_wordAt 43 = .ok (.iconst 5, 1) := by decide +kernel
theorem dX7_wordAt_44 : decode cX7_wordAt 44 = .ok (.bipush 16, 2) := by decide +kernel
theorem dX7_wordAt_46 : decode cX7_wordAt 46 = .ok (.aload_n 0, 1) := by decide +kernel
theorem dX7_wordAt_47 : decode cX7_wordAt 47 = .ok (.invokevirtual 32, 3) := by decide +kernel
theorem dX7_wordAt_50 : decode cX7_wordAt 50 = .ok (.imul, 1) := by decide +kernel
theorem dX7_wordAt_51 : decode cX7_wordAt 51 = .ok (.iadd, 1) := by decide +kernel
theorem dX7_wordAt_52 : decode cX7_wordAt 52 = .ok (.goto 12, 3) := by decide +kernel
theorem dX7_wordAt_55 : decode cX7_wordAt 55 = .ok (.iconst 4, 1) := by decide +kernel
theorem dX7_wordAt_56 : decode cX7_wordAt 56 = .ok (.bipush 16, 2) := by decide +kernel
theorem dX7_wordAt_58 : decode cX7_wordAt 58 = .ok (.aload_n 0, 1) := by decide +kernel
theorem dX7_wordAt_59 : decode cX7_wordAt 59 = .ok (.invokevirtual 36, 3) := by decide +kernel
theorem dX7_wordAt_62 : decode cX7_wordAt 62 = .ok (.imul, 1) := by decide +kernel
theorem dX7_wordAt_63 : decode cX7_wordAt 63 = .ok (.iadd, 1) := by decide +kernel
theorem dX7_wordAt_64 : decode cX7_wordAt 64 = .ok (.ireturn, 1) := by decide +kernel
theorem dX7_wordAt_65 : decode cX7_wordAt 65 = .ok (.aload_n 0, 1) := by decide +kernel
theorem dX7_wordAt_66 : decode cX7_wordAt 66 = .ok (.getfield 24, 3) := by decide +kernel
theorem dX7_wordAt_69 : decode cX7_wordAt 69 = .ok (.ireturn, 1) := by decide +kernel
theorem dX7_wordAt_70 : decode cX7_wordAt 70 = .ok (.aload_n 0, 1) := by decide +kernel
theorem dX7_wordAt_71 : decode cX7_wordAt 71 = .ok (.getfield 15, 3) := by decide +kernel
theorem dX7_wordAt_74 : decode cX7_wordAt 74 = .ok (.getfield 39, 3) := by decide +kernel
theorem dX7_wordAt_77 : decode cX7_wordAt 77 = .ok (.ireturn, 1) := by decide +kernel
theorem dX7_wordAt_78 : decode cX7_wordAt 78 = .ok (.aload_n 0, 1) := by decide +kernel
theorem dX7_wordAt_79 : decode cX7_wordAt 79 = .ok (.getfield 21, 3) := by decide +kernel
theorem dX7_wordAt_82 : decode cX7_wordAt 82 = .ok (.getfield 39, 3) := by decide +kernel
theorem dX7_wordAt_85 : decode cX7_wordAt 85 = .ok (.ireturn, 1) := by decide +kernel
theorem dX7_wordAt_86 : decode cX7_wordAt 86 = .ok (.aload_n 0, 1) := by decide +kernel
theorem dX7_wordAt_87 : decode cX7_wordAt 87 = .ok (.getfield 15, 3) := by decide +kernel
theorem dX7_wordAt_90 : decode cX7_wordAt 90 = .ok (.getfield 42, 3) := by decide +kernel
theorem dX7_wordAt_93 : decode cX7_wordAt 93 = .ok (.ireturn, 1) := by decide +kernel
theorem dX7_wordAt_94 : decode cX7_wordAt 94 = .ok (.aload_n 0, 1) := by decide +kernel
theorem dX7_wordAt_95 : decode cX7_wordAt 95 = .ok (.getfield 21, 3) := by decide +kernel
theorem dX7_wordAt_98 : decode cX7_wordAt 98 = .ok (.getfield 42, 3) := by decide +kernel
theorem dX7_wordAt_101 : decode cX7_wordAt 101 = .ok (.ireturn, 1) := by decide +kernel
theorem dX7_firstMarks_0 : decode cX7_firstMarks 0 = .ok (.aload_n 0, 1) := by decide +kernel
theorem dX7_firstMarks_1 : decode cX7_firstMarks 1 = .ok (.getfield 15, 3) := by decide +kernel
theorem dX7_firstMarks_4 : decode cX7_firstMarks 4 = .ok (.getfield 45, 3) := by decide +kernel
theorem dX7_firstMarks_7 : decode cX7_firstMarks 7 = .ok (.aload_n 0, 1) := by decide +kernel
theorem dX7_firstMarks_8 : decode cX7_firstMarks 8 = .ok (.getfield 21, 3) := by decide +kernel
theorem dX7_firstMarks_11 : decode cX7_firstMarks 11 = .ok (.getfield 45, 3) := by decide +kernel
theorem dX7_firstMarks_14 : decode cX7_firstMarks 14 = .ok (.invokestatic 48, 3) := by decide +kernel
theorem dX7_firstMarks_17 : decode cX7_firstMarks 17 = .ok (.ireturn, 1) := by decide +kernel
theorem dX7_rangeMarks_0 : decode cX7_rangeMarks 0 = .ok (.aload_n 0, 1) := by decide +kernel
theorem dX7_rangeMarks_1 : decode cX7_rangeMarks 1 = .ok (.getfield 15, 3) := by decide +kernel
theorem dX7_rangeMarks_4 : decode cX7_rangeMarks 4 = .ok (.getfield 52, 3) := by decide +kernel
theorem dX7_rangeMarks_7 : decode cX7_rangeMarks 7 = .ok (.aload_n 0, 1) := by decide +kernel
theorem dX7_rangeMarks_8 : decode cX7_rangeMarks 8 = .ok (.getfield 21, 3) := by decide +kernel
theorem dX7_rangeMarks_11 : decode cX7_rangeMarks 11 = .ok (.getfield 52, 3) := by decide +kernel
theorem dX7_rangeMarks_14 : decode cX7_rangeMarks 14 = .ok (.invokestatic 48, 3) := by decide +kernel
theorem dX7_rangeMarks_17 : decode cX7_rangeMarks 17 = .ok (.istore_n 1, 1) := by decide +kernel
theorem dX7_rangeMarks_18 : decode cX7_rangeMarks 18 = .ok (.aload_n 0, 1) := by decide +kernel
theorem dX7_rangeMarks_19 : decode cX7_rangeMarks 19 = .ok (.getfield 55, 3) := by decide +kernel
theorem dX7_rangeMarks_22 : decode cX7_rangeMarks 22 = .ok (.aload_n 0, 1) := by decide +kernel
theorem dX7_rangeMarks_23 : decode cX7_rangeMarks 23 = .ok (.invokevirtual 36, 3) := by decide +kernel
theorem dX7_rangeMarks_26 : decode cX7_rangeMarks 26 = .ok (.iadd, 1) := by decide +kernel
theorem dX7_rangeMarks_27 : decode cX7_rangeMarks 27 = .ok (.iconst 4, 1) := by decide +kernel
theorem dX7_rangeMarks_28 : decode cX7_rangeMarks 28 = .ok (.iload_n 1, 1) := by decide +kernel
theorem dX7_rangeMarks_29 : decode cX7_rangeMarks 29 = .ok (.imul, 1) := by decide +kernel
theorem dX7_rangeMarks_30 : decode cX7_rangeMarks 30 = .ok (.iadd, 1) := by decide +kernel
theorem dX7_rangeMarks_31 : decode cX7_rangeMarks 31 = .ok (.ireturn, 1) := by decide +kernel
theorem dX7_cornerMarks_0 : decode cX7_cornerMarks 0 = .ok (.iload_n 0, 1) := by decide +kernel
theorem dX7_cornerMarks_1 : decode cX7_cornerMarks 1 = .ok (.ifCond .eq 7, 3) := by decide +kernel
theorem dX7_cornerMarks_4 : decode cX7_cornerMarks 4 = .ok (.iconst 2, 1) := by decide +kernel
theorem dX7_cornerMarks_5 : decode cX7_cornerMarks 5 = .ok (.goto 4, 3) := by decide +kernel
theorem dX7_cornerMarks_8 : decode cX7_cornerMarks 8 = .ok (.iconst 0, 1) := by decide +kernel
theorem dX7_cornerMarks_9 : decode cX7_cornerMarks 9 = .ok (.iload_n 1, 1) := by decide +kernel
theorem dX7_cornerMarks_10 : decode cX7_cornerMarks 10 = .ok (.ifCond .eq 7, 3) := by decide +kernel
theorem dX7_cornerMarks_13 : decode cX7_cornerMarks 13 = .ok (.iconst 1, 1) := by decide +kernel
theorem dX7_cornerMarks_14 : decode cX7_cornerMarks 14 = .ok (.goto 4, 3) := by decide +kernel
theorem dX7_cornerMarks_17 : decode cX7_cornerMarks 17 = .ok (.iconst 0, 1) := by decide +kernel
theorem dX7_cornerMarks_18 : decode cX7_cornerMarks 18 = .ok (.iadd, 1) := by decide +kernel
theorem dX7_cornerMarks_19 : decode cX7_cornerMarks 19 = .ok (.ireturn, 1) := by decide +kernel
theorem dX8_init_0 : decode cX8_init 0 = .ok (.aload_n 0, 1) := by decide +kernel
theorem dX8_init_1 : decode cX8_init 1 = .ok (.invokespecial 1, 3) := by decide +kernel
theorem dX8_init_4 : decode cX8_init 4 = .ok (.aload_n 0, 1) := by decide +kernel
theorem dX8_init_5 : decode cX8_init 5 = .ok (.iload_n 1, 1) := by decide +kernel
theorem dX8_init_6 : decode cX8_init 6 = .ok (.putfield 7, 3) := by decide +kernel
theorem dX8_init_9 : decode cX8_init 9 = .ok (.return_, 1) := by decide +kernel
theorem dX8_setFirst_0 : decode cX8_setFirst 0 = .ok (.aload_n 0, 1) := by decide +kernel
theorem dX8_setFirst_1 : decode cX8_setFirst 1 = .ok (.iload_n 1, 1) := by decide +kernel
theorem dX8_setFirst_2 : decode cX8_setFirst 2 = .ok (.putfield 13, 3) := by decide +kernel
theorem dX8_setFirst_5 : decode cX8_setFirst 5 = .ok (.aload_n 0, 1) := by decide +kernel
theorem dX8_setFirst_6 : decode cX8_setFirst 6 = .ok (.iload_n 2, 1) := by decide +kernel
theorem dX8_setFirst_7 : decode cX8_setFirst 7 = .ok (.putfield 16, 3) := by decide +kernel
theorem dX8_setFirst_10 : decode cX8_setFirst 10 = .ok (.return_, 1) := by decide +kernel
theorem dX8_setLast_0 : decode cX8_setLast 0 = .ok (.aload_n 0, 1) := by decide +kernel
theorem dX8_setLast_1 : decode cX8_setLast 1 = .ok (.iload_n 1, 1) := by decide +kernel
theorem dX8_setLast_2 : decode cX8_setLast 2 = .ok (.putfield 20, 3) := by decide +kernel
theorem dX8_setLast_5 : decode cX8_setLast 5 = .ok (.aload_n 0, 1) := by decide +kernel
theorem dX8_setLast_6 : decode cX8_setLast 6 = .ok (.iload_n 2, 1) := by decide +kernel
theorem dX8_setLast_7 : decode cX8_setLast 7 = .ok (.putfield 23, 3) := by decide +kernel
theorem dX8_setLast_10 : decode cX8_setLast 10 = .ok (.return_, 1) := by decide +kernel
theorem dX8_isWithin_0 : decode cX8_isWithin 0 = .ok (.aload_n 0, 1) := by decide +kernel
theorem dX8_isWithin_1 : decode cX8_isWithin 1 = .ok (.getfield 13, 3) := by decide +kernel
theorem dX8_isWithin_4 : decode cX8_isWithin 4 = .ok (.iload_n 1, 1) := by decide +kernel
theorem dX8_isWithin_5 : decode cX8_isWithin 5 = .ok (.if_icmp .lt 15, 3) := by decide +kernel
theorem dX8_isWithin_8 : decode cX8_isWithin 8 = .ok (.aload_n 0, 1) := by decide +kernel
theorem dX8_isWithin_9 : decode cX8_isWithin 9 = .ok (.getfield 20, 3) := by decide +kernel
theorem dX8_isWithin_12 : decode cX8_isWithin 12 = .ok (.iload_n 2, 1) := by decide +kernel
theorem dX8_isWithin_13 : decode cX8_isWithin 13 = .ok (.if_icmp .gt 7, 3) := by decide +kernel
theorem dX8_isWithin_16 : decode cX8_isWithin 16 = .ok (.iconst 1, 1) := by decide +kernel
theorem dX8_isWithin_17 : decode cX8_isWithin 17 = .ok (.goto 4, 3) := by decide +kernel
theorem dX8_isWithin_20 : decode cX8_isWithin 20 = .ok (.iconst 0, 1) := by decide +kernel
theorem dX8_isWithin_21 : decode cX8_isWithin 21 = .ok (.ireturn, 1) := by decide +kernel
theorem dX8_shift_0 : decode cX8_shift 0 = .ok (.aload_n 0, 1) := by decide +kernel
theorem dX8_shift_1 : decode cX8_shift 1 = .ok (.dup, 1) := by decide +kernel
theorem dX8_shift_2 : decode cX8_shift 2 = .ok (.getfield 13, 3) := by decide +kernel
theorem dX8_shift_5 : decode cX8_shift 5 = .ok (.iload_n 1, 1) := by decide +kernel
theorem dX8_shift_6 : decode cX8_shift 6 = .ok (.iadd, 1) := by decide +kernel
theorem dX8_shift_7 : decode cX8_shift 7 = .ok (.putfield 13, 3) := by decide +kernel
theorem dX8_shift_10 : decode cX8_shift 10 = .ok (.aload_n 0, 1) := by decide +kernel
theorem dX8_shift_11 : decode cX8_shift 11 = .ok (.dup, 1) := by decide +kernel
theorem dX8_shift_12 : decode cX8_shift 12 = .ok (.getfield 20, 3) := by decide +kernel
theorem dX8_shift_15 : decode cX8_shift 15 = .ok (.iload_n 1, 1) := by decide +kernel
theorem dX8_shift_16 : decode cX8_shift 16 = .ok (.iadd, 1) := by decide +kernel
theorem dX8_shift_17 : decode cX8_shift 17 = .ok (.putfield 20, 3) := by decide +kernel
theorem dX8_shift_20 : decode cX8_shift 20 = .ok (.return_, 1) := by decide +kernel
theorem dX8_shiftLoose_0 : decode cX8_shiftLoose 0 = .ok (.aload_n 0, 1) := by decide +kernel
theorem dX8_shiftLoose_1 : decode cX8_shiftLoose 1 = .ok (.getfield 16, 3) := by decide +kernel
theorem dX8_shiftLoose_4 : decode cX8_shiftLoose 4 = .ok (.ifCond .ne 13, 3) := by decide +kernel
theorem dX8_shiftLoose_7 : decode cX8_shiftLoose 7 = .ok (.aload_n 0, 1) := by decide +kernel
theorem dX8_shiftLoose_8 : decode cX8_shiftLoose 8 = .ok (.dup, 1) := by decide +kernel
theorem dX8_shiftLoose_9 : decode cX8_shiftLoose 9 = .ok (.getfield 13, 3) := by decide +kernel
theorem dX8_shiftLoose_12 : decode cX8_shiftLoose 12 = .ok (.iload_n 1, 1) := by decide +kernel
theorem dX8_shiftLoose_13 : decode cX8_shiftLoose 13 = .ok (.iadd, 1) := by decide +kernel
theorem dX8_shiftLoose_14 : decode cX8_shiftLoose 14 = .ok (.putfield 13, 3) := by decide +kernel
theorem dX8_shiftLoose_17 : decode cX8_shiftLoose 17 = .ok (.aload_n 0, 1) := by decide +kernel
theorem dX8_shiftLoose_18 : decode cX8_shiftLoose 18 = .ok (.getfield 23, 3) := by decide +kernel
theorem dX8_shiftLoose_21 : decode cX8_shiftLoose 21 = .ok (.ifCond .ne 13, 3) := by decide +kernel
theorem dX8_shiftLoose_24 : decode cX8_shiftLoose 24 = .ok (.aload_n 0, 1) := by decide +kernel
theorem dX8_shiftLoose_25 : decode cX8_shiftLoose 25 = .ok (.dup, 1) := by decide +kernel
theorem dX8_shiftLoose_26 : decode cX8_shiftLoose 26 = .ok (.getfield 20, 3) := by decide +kernel
theorem dX8_shiftLoose_29 : decode cX8_shiftLoose 29 = .ok (.iload_n 1, 1) := by decide +kernel
theorem dX8_shiftLoose_30 : decode cX8_shiftLoose 30 = .ok (.iadd, 1) := by decide +kernel
theorem dX8_shiftLoose_31 : decode cX8_shiftLoose 31 = .ok (.putfield 20, 3) := by decide +kernel
theorem dX8_shiftLoose_34 : decode cX8_shiftLoose 34 = .ok (.aload_n 0, 1) := by decide +kernel
theorem dX8_shiftLoose_35 : decode cX8_shiftLoose 35 = .ok (.getfield 13, 3) := by decide +kernel
theorem dX8_shiftLoose_38 : decode cX8_shiftLoose 38 = .ok (.aload_n 0, 1) := by decide +kernel
theorem dX8_shiftLoose_39 : decode cX8_shiftLoose 39 = .ok (.getfield 7, 3) := by decide +kernel
theorem dX8_shiftLoose_42 : decode cX8_shiftLoose 42 = .ok (.invokestatic 26, 3) := by decide +kernel
theorem dX8_shiftLoose_45 : decode cX8_shiftLoose 45 = .ok (.ifCond .eq 17, 3) := by decide +kernel
theorem dX8_shiftLoose_48 : decode cX8_shiftLoose 48 = .ok (.aload_n 0, 1) := by decide +kernel
theorem dX8_shiftLoose_49 : decode cX8_shiftLoose 49 = .ok (.getfield 20, 3) := by decide +kernel
theorem dX8_shiftLoose_52 : decode cX8_shiftLoose 52 = .ok (.aload_n 0, 1) := by decide +kernel
theorem dX8_shiftLoose_53 : decode cX8_shiftLoose 53 = .ok (.getfield 7, 3) := by decide +kernel
theorem dX8_shiftLoose_56 : decode cX8_shiftLoose 56 = .ok (.invokestatic 26, 3) := by decide +kernel
theorem dX8_shiftLoose_59 : decode cX8_shiftLoose 59 = .ok (.ifCond .ne 5, 3) := by decide +kernel
theorem dX8_shiftLoose_62 : decode cX8_shiftLoose 62 = .ok (.iconst 0, 1) := by decide +kernel
theorem dX8_shiftLoose_63 : decode cX8_shiftLoose 63 = .ok (.ireturn, 1) := by decide +kernel
theorem dX8_shiftLoose_64 : decode cX8_shiftLoose 64 = .ok (.aload_n 0, 1) := by decide +kernel
theorem dX8_shiftLoose_65 : decode cX8_shiftLoose 65 = .ok (.getfield 13, 3) := by decide +kernel
theorem dX8_shiftLoose_68 : decode cX8_shiftLoose 68 = .ok (.aload_n 0, 1) := by decide +kernel
theorem dX8_shiftLoose_69 : decode cX8_shiftLoose 69 = .ok (.getfield 20, 3) := by decide +kernel
theorem dX8_shiftLoose_72 : decode cX8_shiftLoose 72 = .ok (.if_icmp .le 7, 3) := by decide +kernel
theorem dX8_shiftLoose_75 : decode cX8_shiftLoose 75 = .ok (.aload_n 0, 1) := by decide +kernel
theorem dX8_shiftLoose_76 : decode cX8_shiftLoose 76 = .ok (.invokevirtual 32, 3) := by decide +kernel
theorem dX8_shiftLoose_79 : decode cX8_shiftLoose 79 = .ok (.iconst 1, 1) := by decide +kernel
theorem dX8_shiftLoose_80 : decode cX8_shiftLoose 80 = .ok (.ireturn, 1) := by decide +kernel
theorem dX8_exchange_0 : decode cX8_exchange 0 = .ok (.aload_n 0, 1) := by decide +kernel
theorem dX8_exchange_1 : decode cX8_exchange 1 = .ok (.getfield 13, 3) := by decide +kernel
theorem dX8_exchange_4 : decode cX8_exchange 4 = .ok (.istore_n 1, 1) := by decide +kernel
theorem dX8_exchange_5 : decode cX8_exchange 5 = .ok (.aload_n 0, 1) := by decide +kernel
theorem dX8_exchange_6 : decode cX8_exchange 6 = .ok (.getfield 16, 3) := by decide +kernel
theorem dX8_exchange_9 : decode cX8_exchange 9 = .ok (.istore_n 2, 1) := by decide +kernel
theorem dX8_exchange_10 : decode cX8_exchange 10 = .ok (.aload_n 0, 1) := by decide +kernel
theorem dX8_exchange_11 : decode cX8_exchange 11 = .ok (.aload_n 0, 1) := by decide +kernel
theorem dX8_exchange_12 : decode cX8_exchange 12 = .ok (.getfield 20, 3) := by decide +kernel
theorem dX8_exchange_15 : decode cX8_exchange 15 = .ok (.aload_n 0, 1) := by decide +kernel
theorem dX8_exchange_16 : decode cX8_exchange 16 = .ok (.getfield 23, 3) := by decide +kernel
theorem dX8_exchange_19 : decode cX8_exchange 19 = .ok (.invokevirtual 35, 3) := by decide +kernel
theorem dX8_exchange_22 : decode cX8_exchange 22 = .ok (.aload_n 0, 1) := by decide +kernel
theorem dX8_exchange_23 : decode cX8_exchange 23 = .ok (.iload_n 1, 1) := by decide +kernel
theorem dX8_exchange_24 : decode cX8_exchange 24 = .ok (.iload_n 2, 1) := by decide +kernel
theorem dX8_exchange_25 : decode cX8_exchange 25 = .ok (.invokevirtual 39, 3) := by decide +kernel
theorem dX8_exchange_28 : decode cX8_exchange 28 = .ok (.return_, 1) := by decide +kernel
theorem dX8_openGap_0 : decode cX8_openGap 0 = .ok (.aload_n 0, 1) := by decide +kernel
theorem dX8_openGap_1 : decode cX8_openGap 1 = .ok (.getfield 13, 3) := by decide +kernel
theorem dX8_openGap_4 : decode cX8_openGap 4 = .ok (.aload_n 0, 1) := by decide +kernel
theorem dX8_openGap_5 : decode cX8_openGap 5 = .ok (.getfield 20, 3) := by decide +kernel
theorem dX8_openGap_8 : decode cX8_openGap 8 = .ok (.aload_n 0, 1) := by decide +kernel
theorem dX8_openGap_9 : decode cX8_openGap 9 = .ok (.getfield 7, 3) := by decide +kernel
theorem dX8_openGap_12 : decode cX8_openGap 12 = .ok (.invokestatic 42, 3) := by decide +kernel
theorem dX8_openGap_15 : decode cX8_openGap 15 = .ok (.ifCond .eq 5, 3) := by decide +kernel
theorem dX8_openGap_18 : decode cX8_openGap 18 = .ok (.iconst 1, 1) := by decide +kernel
theorem dX8_openGap_19 : decode cX8_openGap 19 = .ok (.ireturn, 1) := by decide +kernel
theorem dX8_openGap_20 : decode cX8_openGap 20 = .ok (.aload_n 0, 1) := by decide +kernel
theorem dX8_openGap_21 : decode cX8_openGap 21 = .ok (.getfield 13, 3) := by decide +kernel
theorem dX8_openGap_24 : decode cX8_openGap 24 = .ok (.iload_n 1, 1) := by decide +kernel
theorem dX8_openGap_25 : decode cX8_openGap 25 = .ok (.if_icmp .lt 13, 3) := by decide +kernel
theorem dX8_openGap_28 : decode cX8_openGap 28 = .ok (.aload_n 0, 1) := by decide +kernel
theorem dX8_openGap_29 : decode cX8_openGap 29 = .ok (.dup, 1) := by decide +kernel
theorem dX8_openGap_30 : decode cX8_openGap 30 = .ok (.getfield 13, 3) := by decide +kernel
theorem dX8_openGap_33 : decode cX8_openGap 33 = .ok (.iload_n 2, 1) := by decide +kernel
theorem dX8_openGap_34 : decode cX8_openGap 34 = .ok (.iadd, 1) := by decide +kernel
theorem dX8_openGap_35 : decode cX8_openGap 35 = .ok (.putfield 13, 3) := by decide +kernel
theorem dX8_openGap_38 : decode cX8_openGap 38 = .ok (.aload_n 0, 1) := by decide +kernel
theorem dX8_openGap_39 : decode cX8_openGap 39 = .ok (.getfield 20, 3) := by decide +kernel
theorem dX8_openGap_42 : decode cX8_openGap 42 = .ok (.iload_n 1, 1) := by decide +kernel
theorem dX8_openGap_43 : decode cX8_openGap 43 = .ok (.if_icmp .lt 20, 3) := by decide +kernel
theorem dX8_openGap_46 : decode cX8_openGap 46 = .ok (.aload_n 0, 1) := by decide +kernel
theorem dX8_openGap_47 : decode cX8_openGap 47 = .ok (.aload_n 0, 1) := by decide +kernel
theorem dX8_openGap_48 : decode cX8_openGap 48 = .ok (.getfield 20, 3) := by decide +kernel
theorem dX8_openGap_51 : decode cX8_openGap 51 = .ok (.iload_n 2, 1) := by decide +kernel
theorem dX8_openGap_52 : decode cX8_openGap 52 = .ok (.iadd, 1) := by decide +kernel
theorem dX8_openGap_53 : decode cX8_openGap 53 = .ok (.aload_n 0, 1) := by decide +kernel
theorem dX8_openGap_54 : decode cX8_openGap 54 = .ok (.getfield 7, 3) := by decide +kernel
theorem dX8_openGap_57 : decode cX8_openGap 57 = .ok (.invokestatic 46, 3) := by decide +kernel
theorem dX8_openGap_60 : decode cX8_openGap 60 = .ok (.putfield 20, 3) := by decide +kernel
theorem dX8_openGap_63 : decode cX8_openGap 63 = .ok (.aload_n 0, 1) := by decide +kernel
theorem dX8_openGap_64 : decode cX8_openGap 64 = .ok (.getfield 13, 3) := by decide +kernel
theorem dX8_openGap_67 : decode cX8_openGap 67 = .ok (.aload_n 0, 1) := by decide +kernel
theorem dX8_openGap_68 : decode cX8_openGap 68 = .ok (.getfield 7, 3) := by decide +kernel
theorem dX8_openGap_71 : decode cX8_openGap 71 = .ok (.if_icmp .gt 7, 3) := by decide +kernel
theorem dX8_openGap_74 : decode cX8_openGap 74 = .ok (.iconst 1, 1) := by decide +kernel
theorem dX8_openGap_75 : decode cX8_openGap 75 = .ok (.goto 4, 3) := by decide +kernel
theorem dX8_openGap_78 : decode cX8_openGap 78 = .ok (.iconst 0, 1) := by decide +kernel
theorem dX8_openGap_79 : decode cX8_openGap 79 = .ok (.ireturn, 1) := by decide +kernel
theorem dX8_closeGap_0 : decode cX8_closeGap 0 = .ok (.aload_n 0, 1) := by decide +kernel
theorem dX8_closeGap_1 : decode cX8_closeGap 1 = .ok (.getfield 13, 3) := by decide +kernel
theorem dX8_closeGap_4 : decode cX8_closeGap 4 = .ok (.aload_n 0, 1) := by decide +kernel
theorem dX8_closeGap_5 : decode cX8_closeGap 5 = .ok (.getfield 20, 3) := by decide +kernel
theorem dX8_closeGap_8 : decode cX8_closeGap 8 = .ok (.aload_n 0, 1) := by decide +kernel
theorem dX8_closeGap_9 : decode cX8_closeGap 9 = .ok (.getfield 7, 3) := by decide +kernel
theorem dX8_closeGap_12 : decode cX8_closeGap 12 = .ok (.invokestatic 42, 3) := by decide +kernel
theorem dX8_closeGap_15 : decode cX8_closeGap 15 = .ok (.ifCond .eq 5, 3) := by decide +kernel
theorem dX8_closeGap_18 : decode cX8_closeGap 18 = .ok (.iconst 1, 1) := by decide +kernel
theorem dX8_closeGap_19 : decode cX8_closeGap 19 = .ok (.ireturn, 1) := by decide +kernel
theorem dX8_closeGap_20 : decode cX8_closeGap 20 = .ok (.iload_n 1, 1) := by decide +kernel
theorem dX8_closeGap_21 : decode cX8_closeGap 21 = .ok (.iload_n 2, 1) := by decide +kernel
theorem dX8_closeGap_22 : decode cX8_closeGap 22 = .ok (.iadd, 1) := by decide +kernel
theorem dX8_closeGap_23 : decode cX8_closeGap 23 = .ok (.istore_n 3, 1) := by decide +kernel
theorem dX8_closeGap_24 : decode cX8_closeGap 24 = .ok (.aload_n 0, 1) := by decide +kernel
theorem dX8_closeGap_25 : decode cX8_closeGap 25 = .ok (.getfield 13, 3) := by decide +kernel
theorem dX8_closeGap_28 : decode cX8_closeGap 28 = .ok (.iload_n 3, 1) := by decide +kernel
theorem dX8_closeGap_29 : decode cX8_closeGap 29 = .ok (.if_icmp .lt 16, 3) := by decide +kernel
theorem dX8_closeGap_32 : decode cX8_closeGap 32 = .ok (.aload_n 0, 1) := by decide +kernel
theorem dX8_closeGap_33 : decode cX8_closeGap 33 = .ok (.dup, 1) := by decide +kernel
theorem dX8_closeGap_34 : decode cX8_closeGap 34 = .ok (.getfield 13, 3) := by decide +kernel
theorem dX8_closeGap_37 : decode cX8_closeGap 37 = .ok (.iload_n 2, 1) := by decide +kernel
theorem dX8_closeGap_38 : decode cX8_closeGap 38 = .ok (.isub, 1) := by decide +kernel
theorem dX8_closeGap_39 : decode cX8_closeGap 39 = .ok (.putfield 13, 3) := by decide +kernel
theorem dX8_closeGap_42 : decode cX8_closeGap 42 = .ok (.goto 16, 3) := by decide +kernel
theorem dX8_closeGap_45 : decode cX8_closeGap 45 = .ok (.aload_n 0, 1) := by decide +kernel
theorem dX8_closeGap_46 : decode cX8_closeGap 46 = .ok (.getfield 13, 3) := by decide +kernel
theorem dX8_closeGap_49 : decode cX8_closeGap 49 = .ok (.iload_n 1, 1) := by decide +kernel
theorem dX8_closeGap_50 : decode cX8_closeGap 50 = .ok (.if_icmp .lt 8, 3) := by decide +kernel
theorem dX8_closeGap_53 : decode cX8_closeGap 53 = .ok (.aload_n 0, 1) := by decide +kernel
theorem dX8_closeGap_54 : decode cX8_closeGap 54 = .ok (.iload_n 1, 1) := by decide +kernel
theorem dX8_closeGap_55 : decode cX8_closeGap 55 = .ok (.putfield 13, 3) := by decide +kernel
theorem dX8_closeGap_58 : decode cX8_closeGap 58 = .ok (.aload_n 0, 1) := by decide +kernel
theorem dX8_closeGap_59 : decode cX8_closeGap 59 = .ok (.getfield 20, 3) := by decide +kernel
theorem dX8_closeGap_62 : decode cX8_closeGap 62 = .ok (.iload_n 3, 1) := by decide +kernel
theorem dX8_closeGap_63 : decode cX8_closeGap 63 = .ok (.if_icmp .lt 16, 3) := by decide +kernel
theorem dX8_closeGap_66 : decode cX8_closeGap 66 = .ok (.aload_n 0, 1) := by decide +kernel
theorem dX8_closeGap_67 : decode cX8_closeGap 67 = .ok (.dup, 1) := by decide +kernel
theorem dX8_closeGap_68 : decode cX8_closeGap 68 = .ok (.getfield 20, 3) := by decide +kernel
theorem dX8_closeGap_71 : decode cX8_closeGap 71 = .ok (.iload_n 2, 1) := by decide +kernel
theorem dX8_closeGap_72 : decode cX8_closeGap 72 = .ok (.isub, 1) := by decide +kernel
theorem dX8_closeGap_73 : decode cX8_closeGap 73 = .ok (.putfield 20, 3) := by decide +kernel
theorem dX8_closeGap_76 : decode cX8_closeGap 76 = .ok (.goto 18, 3) := by decide +kernel
theorem dX8_closeGap_79 : decode cX8_closeGap 79 = .ok (.aload_n 0, 1) := by decide +kernel
theorem dX8_closeGap_80 : decode cX8_closeGap 80 = .ok (.getfield 20, 3) := by decide +kernel
theorem dX8_closeGap_83 : decode cX8_closeGap 83 = .ok (.iload_n 1, 1) := by decide +kernel
theorem dX8_closeGap_84 : decode cX8_closeGap 84 = .ok (.if_icmp .lt 10, 3) := by decide +kernel
theorem dX8_closeGap_87 : decode cX8_closeGap 87 = .ok (.aload_n 0, 1) := by decide +kernel
theorem dX8_closeGap_88 : decode cX8_closeGap 88 = .ok (.iload_n 1, 1) := by decide +kernel
theorem dX8_closeGap_89 : decode cX8_closeGap 89 = .ok (.iconst 1, 1) := by decide +kernel
theorem dX8_closeGap_90 : decode cX8_closeGap 90 = .ok (.isub, 1) := by decide +kernel
theorem dX8_closeGap_91 : decode cX8_closeGap 91 = .ok (.putfield 20, 3) := by decide +kernel
theorem dX8_closeGap_94 : decode cX8_closeGap 94 = .ok (.aload_n 0, 1) := by decide +kernel
theorem dX8_closeGap_95 : decode cX8_closeGap 95 = .ok (.getfield 13, 3) := by decide +kernel
theorem dX8_closeGap_98 : decode cX8_closeGap 98 = .ok (.aload_n 0, 1) := by decide +kernel
theorem dX8_closeGap_99 : decode cX8_closeGap 99 = .ok (.getfield 20, 3) := by decide +kernel
theorem dX8_closeGap_102 : decode cX8_closeGap 102 = .ok (.if_icmp .gt 7, 3) := by decide +kernel
theorem dX8_closeGap_105 : decode cX8_closeGap 105 = .ok (.iconst 1, 1) := by decide +kernel
theorem dX8_closeGap_106 : decode cX8_closeGap 106 = .ok (.goto 4, 3) := by decide +kernel
theorem dX8_closeGap_109 : decode cX8_closeGap 109 = .ok (.iconst 0, 1) := by decide +kernel
theorem dX8_closeGap_110 : decode cX8_closeGap 110 = .ok (.ireturn, 1) := by decide +kernel
theorem dX9_init_0 : decode cX9_init 0 = .ok (.aload_n 0, 1) := by decide +kernel
theorem dX9_init_1 : decode cX9_init 1 = .ok (.invokespecial 3, 3) := by decide +kernel
theorem dX9_init_4 : decode cX9_init 4 = .ok (.aload_n 0, 1) := by decide +kernel
theorem dX9_init_5 : decode cX9_init 5 = .ok (.sipush 1000, 3) := by decide +kernel
theorem dX9_init_8 : decode cX9_init 8 = .ok (.newarray .int, 2) := by decide +kernel
theorem dX9_init_10 : decode cX9_init 10 = .ok (.putfield 9, 3) := by decide +kernel
theorem dX9_init_13 : decode cX9_init 13 = .ok (.aload_n 0, 1) := by decide +kernel
theorem dX9_init_14 : decode cX9_init 14 = .ok (.iconst 0, 1) := by decide +kernel
theorem dX9_init_15 : decode cX9_init 15 = .ok (.putfield 13, 3) := by decide +kernel
theorem dX9_init_18 : decode cX9_init 18 = .ok (.aload_n 0, 1) := by decide +kernel
theorem dX9_init_19 : decode cX9_init 19 = .ok (.new 17, 3) := by decide +kernel
theorem dX9_init_22 : decode cX9_init 22 = .ok (.dup, 1) := by decide +kernel
theorem dX9_init_23 : decode cX9_init 23 = .ok (.iconst 0, 1) := by decide +kernel
theorem dX9_init_24 : decode cX9_init 24 = .ok (.iconst 1, 1) := by decide +kernel
theorem dX9_init_25 : decode cX9_init 25 = .ok (.iconst 1, 1) := by decide +kernel
theorem dX9_init_26 : decode cX9_init 26 = .ok (.iconst 1, 1) := by decide +kernel
theorem dX9_init_27 : decode cX9_init 27 = .ok (.iconst 1, 1) := by decide +kernel
theorem dX9_init_28 : decode cX9_init 28 = .ok (.invokespecial 19, 3) := by decide +kernel
theorem dX9_init_31 : decode cX9_init 31 = .ok (.putfield 22, 3) := by decide +kernel
theorem dX9_init_34 : decode cX9_init 34 = .ok (.aload_n 0, 1) := by decide +kernel
theorem dX9_init_35 : decode cX9_init 35 = .ok (.new 26, 3) := by decide +kernel
theorem dX9_init_38 : decode cX9_init 38 = .ok (.dup, 1) := by decide +kernel
theorem dX9_init_39 : decode cX9_init 39 = .ok (.invokespecial 28, 3) := by decide +kernel
theorem dX9_init_42 : decode cX9_init 42 = .ok (.putfield 29, 3) := by decide +kernel
theorem dX9_init_45 : decode cX9_init 45 = .ok (.return_, 1) := by decide +kernel
theorem dX9_clear_0 : decode cX9_clear 0 = .ok (.aload_n 0, 1) := by decide +kernel
theorem dX9_clear_1 : decode cX9_clear 1 = .ok (.iconst 0, 1) := by decide +kernel
theorem dX9_clear_2 : decode cX9_clear 2 = .ok (.putfield 13, 3) := by decide +kernel
theorem dX9_clear_5 : decode cX9_clear 5 = .ok (.return_, 1) := by decide +kernel
theorem dX9_other_0 : decode cX9_other 0 = .ok (.iload_n 1, 1) := by decide +kernel
theorem dX9_other_1 : decode cX9_other 1 = .ok (.iconst 4, 1) := by decide +kernel
theorem dX9_other_2 : decode cX9_other 2 = .ok (.invokestatic 33, 3) := by decide +kernel
theorem dX9_other_5 : decode cX9_other 5 = .ok (.ifCond .ne 19, 3) := by decide +kernel
theorem dX9_other_8 : decode cX9_other 8 = .ok (.iload_n 1, 1) := by decide +kernel
theorem dX9_other_9 : decode cX9_other 9 = .ok (.iconst 5, 1) := by decide +kernel
theorem dX9_other_10 : decode cX9_other 10 = .ok (.invokestatic 33, 3) := by decide +kernel
theorem dX9_other_13 : decode cX9_other 13 = .ok (.ifCond .ne 11, 3) := by decide +kernel
theorem dX9_other_16 : decode cX9_other 16 = .ok (.aload_n 0, 1) := by decide +kernel
theorem dX9_other_17 : decode cX9_other 17 = .ok (.iconst 1, 1) := by decide +kernel
theorem dX9_other_18 : decode cX9_other 18 = .ok (.invokevirtual 37, 3) := by decide +kernel
theorem dX9_other_21 : decode cX9_other 21 = .ok (.ifCond .ne 5, 3) := by decide +kernel
theorem dX9_other_24 : decode cX9_other 24 = .ok (.iconst 0, 1) := by decide +kernel
theorem dX9_other_25 : decode cX9_other 25 = .ok (.ireturn, 1) := by decide +kernel
theorem dX9_other_26 : decode cX9_other 26 = .ok (.aload_n 0, 1) := by decide +kernel
theorem dX9_other_27 : decode cX9_other 27 = .ok (.iload_n 1, 1) := by decide +kernel
theorem dX9_other_28 : decode cX9_other 28 = .ok (.invokevirtual 41, 3) := by decide +kernel
theorem dX9_other_31 : decode cX9_other 31 = .ok (.iconst 1, 1) := by decide +kernel
theorem dX9_other_32 : decode cX9_other 32 = .ok (.ireturn, 1) := by decide +kernel
theorem dX9_place_0 : decode cX9_place 0 = .ok (.iload_n 1, 1) := by decide +kernel
theorem dX9_place_1 : decode cX9_place 1 = .ok (.ifCond .lt 43, 3) := by decide +kernel
theorem dX9_place_4 : decode cX9_place 4 = .ok (.iload_n 1, 1) := by decide +kernel
theorem dX9_place_5 : decode cX9_place 5 = .ok (.iconst 3, 1) := by decide +kernel
theorem dX9_place_6 : decode cX9_place 6 = .ok (.if_icmp .gt 38, 3) := by decide +kernel
theorem dX9_place_9 : decode cX9_place 9 = .ok (.iload_n 2, 1) := by decide +kernel
theorem dX9_place_10 : decode cX9_place 10 = .ok (.invokestatic 45, 3) := by decide +kernel
theorem dX9_place_13 : decode cX9_place 13 = .ok (.ifCond .eq 31, 3) := by decide +kernel
theorem dX9_place_16 : decode cX9_place 16 = .ok (.iload_n 3, 1) := by decide +kernel
theorem dX9_place_17 : decode cX9_place 17 = .ok (.ldc 48, 2) := by decide +kernel
theorem dX9_place_19 : decode cX9_place 19 = .ok (.invokestatic 49, 3) := by decide +kernel
theorem dX9_place_22 : decode cX9_place 22 = .ok (.ifCond .eq 22, 3) := by decide +kernel
theorem dX9_place_25 : decode cX9_place 25 = .ok (.iload 4, 2) := by decide +kernel
theorem dX9_place_27 : decode cX9_place 27 = .ok (.sipush 16384, 3) := by decide +kernel
theorem dX9_place_30 : decode cX9_place 30 = .ok (.invokestatic 49, 3) := by decide +kernel
theorem dX9_place_33 : decode cX9_place 33 = .ok (.ifCond .eq 11, 3) := by decide +kernel
theorem dX9_place_36 : decode cX9_place 36 = .ok (.aload_n 0, 1) := by decide +kernel
theorem dX9_place_37 : decode cX9_place 37 = .ok (.iconst 4, 1) := by decide +kernel
theorem dX9_place_38 : decode cX9_place 38 = .ok (.invokevirtual 37, 3) := by decide +kernel
theorem dX9_place_41 : decode cX9_place 41 = .ok (.ifCond .ne 5, 3) := by decide +kernel
theorem dX9_place_44 : decode cX9_place 44 = .ok (.iconst 0, 1) := by decide +kernel
theorem dX9_place_45 : decode cX9_place 45 = .ok (.ireturn, 1) := by decide +kernel
theorem dX9_place_46 : decode cX9_place 46 = .ok (.aload_n 0, 1) := by decide +kernel
theorem dX9_place_47 : decode cX9_place 47 = .ok (.iconst 4, 1) := by decide +kernel
theorem dX9_place_48 : decode cX9_place 48 = .ok (.bipush 16, 2) := by decide +kernel
theorem dX9_place_50 : decode cX9_place 50 = .ok (.iload_n 1, 1) := by decide +kernel
theorem dX9_place_51 : decode cX9_place 51 = .ok (.imul, 1) := by decide +kernel
theorem dX9_place_52 : decode cX9_place 52 = .ok (.iadd, 1) := by decide +kernel
theorem dX9_place_53 : decode cX9_place 53 = .ok (.invokevirtual 41, 3) := by decide +kernel
theorem dX9_place_56 : decode cX9_place 56 = .ok (.aload_n 0, 1) := by decide +kernel
theorem dX9_place_57 : decode cX9_place 57 = .ok (.iload_n 2, 1) := by decide +kernel
theorem dX9_place_58 : decode cX9_place 58 = .ok (.invokevirtual 41, 3) := by decide +kernel
theorem dX9_place_61 : decode cX9_place 61 = .ok (.aload_n 0, 1) := by decide +kernel
theorem dX9_place_62 : decode cX9_place 62 = .ok (.iload_n 3, 1) := by decide +kernel
theorem dX9_place_63 : decode cX9_place 63 = .ok (.invokevirtual 41, 3) := by decide +kernel
theorem dX9_place_66 : decode cX9_place 66 = .ok (.aload_n 0, 1) := by decide +kernel
theorem dX9_place_67 : decode cX9_place 67 = .ok (.iload 4, 2) := by decide +kernel
theorem dX9_place_69 : decode cX9_place 69 = .ok (.invokevirtual 41, 3) := by decide +kernel
theorem dX9_place_72 : decode cX9_place 72 = .ok (.iconst 1, 1) := by decide +kernel
theorem dX9_place_73 : decode cX9_place 73 = .ok (.ireturn, 1) := by decide +kernel
theorem dX9_range_0 : decode cX9_range 0 = .ok (.iload_n 1, 1) := by decide +kernel
theorem dX9_range_1 : decode cX9_range 1 = .ok (.ifCond .lt 49, 3) := by decide +kernel
theorem dX9_range_4 : decode cX9_range 4 = .ok (.iload_n 1, 1) := by decide +kernel
theorem dX9_range_5 : decode cX9_range 5 = .ok (.bipush 47, 2) := by decide +kernel
theorem dX9_range_7 : decode cX9_range 7 = .ok (.if_icmp .gt 43, 3) := by decide +kernel
theorem dX9_range_10 : decode cX9_range 10 = .ok (.iload_n 2, 1) := by decide +kernel
theorem dX9_range_11 : decode cX9_range 11 = .ok (.invokestatic 45, 3) := by decide +kernel
theorem dX9_range_14 : decode cX9_range 14 = .ok (.ifCond .eq 36, 3) := by decide +kernel
theorem dX9_range_17 : decode cX9_range 17 = .ok (.iload_n 3, 1) := by decide +kernel
theorem dX9_range_18 : decode cX9_range 18 = .ok (.iload 5, 2) := by decide +kernel
theorem dX9_range_20 : decode cX9_range 20 = .ok (.ldc 48, 2) := by decide +kernel
theorem dX9_range_22 : decode cX9_range 22 = .ok (.invokestatic 52, 3) := by decide +kernel
theorem dX9_range_25 : decode cX9_range 25 = .ok (.ifCond .eq 25, 3) := by decide +kernel
theorem dX9_range_28 : decode cX9_range 28 = .ok (.iload 4, 2) := by decide +kernel
theorem dX9_range_30 : decode cX9_range 30 = .ok (.iload 6, 2) := by decide +kernel
theorem dX9_range_32 : decode cX9_range 32 = .ok (.sipush 16384, 3) := by decide +kernel
theorem dX9_range_35 : decode cX9_range 35 = .ok (.invokestatic 52, 3) := by decide +kernel
theorem dX9_range_38 : decode cX9_range 38 = .ok (.ifCond .eq 12, 3) := by decide +kernel
theorem dX9_range_41 : decode cX9_range 41 = .ok (.aload_n 0, 1) := by decide +kernel
theorem dX9_range_42 : decode cX9_range 42 = .ok (.bipush 6, 2) := by decide +kernel
theorem dX9_range_44 : decode cX9_range 44 = .ok (.invokevirtual 37, 3) := by decide +kernel
theorem dX9_range_47 : decode cX9_range 47 = .ok (.ifCond .ne 5, 3) := by decide +kernel
theorem dX9_range_50 : decode cX9_range 50 = .ok (.iconst 0, 1) := by decide +kernel
theorem dX9_range_51 : decode cX9_range 51 = .ok (.ireturn, 1) := by decide +kernel
theorem dX9_range_52 : decode cX9_range 52 = .ok (.iload_n 1, 1) := by decide +kernel
theorem dX9_range_53 : decode cX9_range 53 = .ok (.bipush 16, 2) := by decide +kernel
theorem dX9_range_55 : decode cX9_range 55 = .ok (.invokestatic 56, 3) := by decide +kernel
theorem dX9_range_58 : decode cX9_range 58 = .ok (.ifCond .eq 14, 3) := by decide +kernel
theorem dX9_range_61 : decode cX9_range 61 = .ok (.iload_n 3, 1) := by decide +kernel
theorem dX9_range_62 : decode cX9_range 62 = .ok (.iload 5, 2) := by decide +kernel
theorem dX9_range_64 : decode cX9_range 64 = .ok (.ldc 48, 2) := by decide +kernel
theorem dX9_range_66 : decode cX9_range 66 = .ok (.invokestatic 59, 3) := by decide +kernel
theorem dX9_range_69 : decode cX9_range 69 = .ok (.ifCond .eq 25, 3) := by decide +kernel
theorem dX9_range_72 : decode cX9_range 72 = .ok (.iload_n 1, 1) := by decide +kernel
theorem dX9_range_73 : decode cX9_range 73 = .ok (.bipush 32, 2) := by decide +kernel
theorem dX9_range_75 : decode cX9_range 75 = .ok (.invokestatic 56, 3) := by decide +kernel
theorem dX9_range_78 : decode cX9_range 78 = .ok (.ifCond .eq 18, 3) := by decide +kernel
theorem dX9_range_81 : decode cX9_range 81 = .ok (.iload 4, 2) := by decide +kernel
theorem dX9_range_83 : decode cX9_range 83 = .ok (.iload 6, 2) := by decide +kernel
theorem dX9_range_85 : decode cX9_range 85 = .ok (.sipush 16384, 3) := by decide +kernel
theorem dX9_range_88 : decode cX9_range 88 = .ok (.invokestatic 59, 3) := by decide +kernel
theorem dX9_range_91 : decode cX9_range 91 = .ok (.ifCond .ne 5, 3) := by decide +kernel
theorem dX9_range_94 : decode cX9_range 94 = .ok (.iconst 0, 1) := by decide +kernel
theorem dX9_range_95 : decode cX9_range 95 = .ok (.ireturn, 1) := by decide +kernel
theorem dX9_range_96 : decode cX9_range 96 = .ok (.aload_n 0, 1) := by decide +kernel
theorem dX9_range_97 : decode cX9_range 97 = .ok (.iconst 5, 1) := by decide +kernel
theorem dX9_range_98 : decode cX9_range 98 = .ok (.bipush 16, 2) := by decide +kernel
theorem dX9_range_100 : decode cX9_range 100 = .ok (.iload_n 1, 1) := by decide +kernel
theorem dX9_range_101 : decode cX9_range 101 = .ok (.imul, 1) := by decide +kernel
theorem dX9_range_102 : decode cX9_range 102 = .ok (.iadd, 1) := by decide +kernel
theorem dX9_range_103 : decode cX9_range 103 = .ok (.invokevirtual 41, 3) := by decide +kernel
theorem dX9_range_106 : decode cX9_range 106 = .ok (.aload_n 0, 1) := by decide +kernel
theorem dX9_range_107 : decode cX9_range 107 = .ok (.iload_n 2, 1) := by decide +kernel
theorem dX9_range_108 : decode cX9_range 108 = .ok (.invokevirtual 41, 3) := by decide +kernel
theorem dX9_range_111 : decode cX9_range 111 = .ok (.aload_n 0, 1) := by decide +kernel
theorem dX9_range_112 : decode cX9_range 112 = .ok (.iload_n 3, 1) := by decide +kernel
theorem dX9_range_113 : decode cX9_range 113 = .ok (.invokevirtual 41, 3) := by decide +kernel
theorem dX9_range_116 : decode cX9_range 116 = .ok (.aload_n 0, 1) := by decide +kernel
theorem dX9_range_117 : decode cX9_range 117 = .ok (.iload 4, 2) := by decide +kernel
theorem dX9_range_119 : decode cX9_range 119 = .ok (.invokevirtual 41, 3) := by decide +kernel
theorem dX9_range_122 : decode cX9_range 122 = .ok (.aload_n 0, 1) := by decide +kernel
theorem dX9_range_123 : decode cX9_range 123 = .ok (.iload 5, 2) := by decide +kernel
theorem dX9_range_125 : decode cX9_range 125 = .ok (.invokevirtual 41, 3) := by decide +kernel
theorem dX9_range_128 : decode cX9_range 128 = .ok (.aload_n 0, 1) := by decide +kernel
theorem dX9_range_129 : decode cX9_range 129 = .ok (.iload 6, 2) := by decide +kernel
theorem dX9_range_131 : decode cX9_range 131 = .ok (.invokevirtual 41, 3) := by decide +kernel
theorem dX9_range_134 : decode cX9_range 134 = .ok (.iconst 1, 1) := by decide +kernel
theorem dX9_range_135 : decode cX9_range 135 = .ok (.ireturn, 1) := by decide +kernel
theorem dX9_size_0 : decode cX9_size 0 = .ok (.aload_n 0, 1) := by decide +kernel
theorem dX9_size_1 : decode cX9_size 1 = .ok (.getfield 13, 3) := by decide +kernel
theorem dX9_size_4 : decode cX9_size 4 = .ok (.ireturn, 1) := by decide +kernel
theorem dX9_word_0 : decode cX9_word 0 = .ok (.iload_n 1, 1) := by decide +kernel
theorem dX9_word_1 : decode cX9_word 1 = .ok (.ifCond .lt 29, 3) := by decide +kernel
theorem dX9_word_4 : decode cX9_word 4 = .ok (.iload_n 1, 1) := by decide +kernel
theorem dX9_word_5 : decode cX9_word 5 = .ok (.aload_n 0, 1) := by decide +kernel
theorem dX9_word_6 : decode cX9_word 6 = .ok (.getfield 13, 3) := by decide +kernel
theorem dX9_word_9 : decode cX9_word 9 = .ok (.if_icmp .ge 21, 3) := by decide +kernel
theorem dX9_word_12 : decode cX9_word 12 = .ok (.iload_n 1, 1) := by decide +kernel
theorem dX9_word_13 : decode cX9_word 13 = .ok (.aload_n 0, 1) := by decide +kernel
theorem dX9_word_14 : decode cX9_word 14 = .ok (.getfield 9, 3) := by decide +kernel
theorem dX9_word_17 : decode cX9_word 17 = .ok (.arraylength, 1) := by decide +kernel
theorem dX9_word_18 : decode cX9_word 18 = .ok (.if_icmp .ge 12, 3) := by decide +kernel
theorem dX9_word_21 : decode cX9_word 21 = .ok (.aload_n 0, 1) := by decide +kernel
theorem dX9_word_22 : decode cX9_word 22 = .ok (.getfield 9, 3) := by decide +kernel
theorem dX9_word_25 : decode cX9_word 25 = .ok (.iload_n 1, 1) := by decide +kernel
theorem dX9_word_26 : decode cX9_word 26 = .ok (.iaload, 1) := by decide +kernel
theorem dX9_word_27 : decode cX9_word 27 = .ok (.goto 4, 3) := by decide +kernel
theorem dX9_word_30 : decode cX9_word 30 = .ok (.iconst 0, 1) := by decide +kernel
theorem dX9_word_31 : decode cX9_word 31 = .ok (.ireturn, 1) := by decide +kernel
theorem dX9_copy_0 : decode cX9_copy 0 = .ok (.iload_n 1, 1) := by decide +kernel
theorem dX9_copy_1 : decode cX9_copy 1 = .ok (.ldc 62, 2) := by decide +kernel
theorem dX9_copy_3 : decode cX9_copy 3 = .ok (.if_icmp .le 9, 3) := by decide +kernel
theorem dX9_copy_6 : decode cX9_copy 6 = .ok (.iload_n 1, 1) := by decide +kernel
theorem dX9_copy_7 : decode cX9_copy 7 = .ok (.ldc 48, 2) := by decide +kernel
theorem dX9_copy_9 : decode cX9_copy 9 = .ok (.if_icmp .lt 13, 3) := by decide +kernel
theorem dX9_copy_12 : decode cX9_copy 12 = .ok (.new 63, 3) := by decide +kernel
theorem dX9_copy_15 : decode cX9_copy 15 = .ok (.dup, 1) := by decide +kernel
theorem dX9_copy_16 : decode cX9_copy 16 = .ok (.ldc 65, 2) := by decide +kernel
theorem dX9_copy_18 : decode cX9_copy 18 = .ok (.invokespecial 67, 3) := by decide +kernel
theorem dX9_copy_21 : decode cX9_copy 21 = .ok (.athrow, 1) := by decide +kernel
theorem dX9_copy_22 : decode cX9_copy 22 = .ok (.iload_n 2, 1) := by decide +kernel
theorem dX9_copy_23 : decode cX9_copy 23 = .ok (.sipush (-16384), 3) := by decide +kernel
theorem dX9_copy_26 : decode cX9_copy 26 = .ok (.if_icmp .le 10, 3) := by decide +kernel
theorem dX9_copy_29 : decode cX9_copy 29 = .ok (.iload_n 2, 1) := by decide +kernel
theorem dX9_copy_30 : decode cX9_copy 30 = .ok (.sipush 16384, 3) := by decide +kernel
theorem dX9_copy_33 : decode cX9_copy 33 = .ok (.if_icmp .lt 13, 3) := by decide +kernel
theorem dX9_copy_36 : decode cX9_copy 36 = .ok (.new 63, 3) := by decide +kernel
theorem dX9_copy_39 : decode cX9_copy 39 = .ok (.dup, 1) := by decide +kernel
theorem dX9_copy_40 : decode cX9_copy 40 = .ok (.ldc 70, 2) := by decide +kernel
theorem dX9_copy_42 : decode cX9_copy 42 = .ok (.invokespecial 67, 3) := by decide +kernel
theorem dX9_copy_45 : decode cX9_copy 45 = .ok (.athrow, 1) := by decide +kernel
theorem dX9_copy_46 : decode cX9_copy 46 = .ok (.aload_n 0, 1) := by decide +kernel
theorem dX9_copy_47 : decode cX9_copy 47 = .ok (.new 72, 3) := by decide +kernel
theorem dX9_copy_50 : decode cX9_copy 50 = .ok (.dup, 1) := by decide +kernel
theorem dX9_copy_51 : decode cX9_copy 51 = .ok (.iload_n 1, 1) := by decide +kernel
theorem dX9_copy_52 : decode cX9_copy 52 = .ok (.iload_n 2, 1) := by decide +kernel
theorem dX9_copy_53 : decode cX9_copy 53 = .ok (.invokespecial 74, 3) := by decide +kernel
theorem dX9_copy_56 : decode cX9_copy 56 = .ok (.invokevirtual 77, 3) := by decide +kernel
theorem dX9_copy_59 : decode cX9_copy 59 = .ok (.ireturn, 1) := by decide +kernel
theorem dX9_insert_0 : decode cX9_insert 0 = .ok (.iload_n 1, 1) := by decide +kernel
theorem dX9_insert_1 : decode cX9_insert 1 = .ok (.iload_n 2, 1) := by decide +kernel
theorem dX9_insert_2 : decode cX9_insert 2 = .ok (.iload_n 3, 1) := by decide +kernel
theorem dX9_insert_3 : decode cX9_insert 3 = .ok (.iload 4, 2) := by decide +kernel
theorem dX9_insert_5 : decode cX9_insert 5 = .ok (.iload 5, 2) := by decide +kernel
theorem dX9_insert_7 : decode cX9_insert 7 = .ok (.invokestatic 81, 3) := by decide +kernel
theorem dX9_insert_10 : decode cX9_insert 10 = .ok (.aload_n 0, 1) := by decide +kernel
theorem dX9_insert_11 : decode cX9_insert 11 = .ok (.new 85, 3) := by decide +kernel
theorem dX9_insert_14 : decode cX9_insert 14 = .ok (.dup, 1) := by decide +kernel
theorem dX9_insert_15 : decode cX9_insert 15 = .ok (.iload_n 1, 1) := by decide +kernel
theorem dX9_insert_16 : decode cX9_insert 16 = .ok (.iload_n 2, 1) := by decide +kernel
theorem dX9_insert_17 : decode cX9_insert 17 = .ok (.iload_n 3, 1) := by decide +kernel
theorem dX9_insert_18 : decode cX9_insert 18 = .ok (.iload 4, 2) := by decide +kernel
theorem dX9_insert_20 : decode cX9_insert 20 = .ok (.iload 5, 2) := by decide +kernel
theorem dX9_insert_22 : decode cX9_insert 22 = .ok (.invokespecial 87, 3) := by decide +kernel
theorem dX9_insert_25 : decode cX9_insert 25 = .ok (.invokevirtual 77, 3) := by decide +kernel
theorem dX9_insert_28 : decode cX9_insert 28 = .ok (.ireturn, 1) := by decide +kernel
theorem dX9_delete_0 : decode cX9_delete 0 = .ok (.iload_n 1, 1) := by decide +kernel
theorem dX9_delete_1 : decode cX9_delete 1 = .ok (.iload_n 2, 1) := by decide +kernel
theorem dX9_delete_2 : decode cX9_delete 2 = .ok (.iload_n 3, 1) := by decide +kernel
theorem dX9_delete_3 : decode cX9_delete 3 = .ok (.iload 4, 2) := by decide +kernel
theorem dX9_delete_5 : decode cX9_delete 5 = .ok (.iload 5, 2) := by decide +kernel
theorem dX9_delete_7 : decode cX9_delete 7 = .ok (.invokestatic 81, 3) := by decide +kernel
theorem dX9_delete_10 : decode cX9_delete 10 = .ok (.aload_n 0, 1) := by decide +kernel
theorem dX9_delete_11 : decode cX9_delete 11 = .ok (.new 89, 3) := by decide +kernel
theorem dX9_delete_14 : decode cX9_delete 14 = .ok (.dup, 1) := by decide +kernel
theorem dX9_delete_15 : decode cX9_delete 15 = .ok (.iload_n 1, 1) := by decide +kernel
theorem dX9_delete_16 : decode cX9_delete 16 = .ok (.iload_n 2, 1) := by decide +kernel
theorem dX9_delete_17 : decode cX9_delete 17 = .ok (.iload_n 3, 1) := by decide +kernel
theorem dX9_delete_18 : decode cX9_delete 18 = .ok (.iload 4, 2) := by decide +kernel
theorem dX9_delete_20 : decode cX9_delete 20 = .ok (.iload 5, 2) := by decide +kernel
theorem dX9_delete_22 : decode cX9_delete 22 = .ok (.invokespecial 91, 3) := by decide +kernel
theorem dX9_delete_25 : decode cX9_delete 25 = .ok (.invokevirtual 77, 3) := by decide +kernel
theorem dX9_delete_28 : decode cX9_delete 28 = .ok (.ireturn, 1) := by decide +kernel
theorem dX9_rectangle_0 : decode cX9_rectangle 0 = .ok (.iload_n 1, 1) := by decide +kernel
theorem dX9_rectangle_1 : decode cX9_rectangle 1 = .ok (.invokestatic 92, 3) := by decide +kernel
theorem dX9_rectangle_4 : decode cX9_rectangle 4 = .ok (.ifCond .eq 26, 3) := by decide +kernel
theorem dX9_rectangle_7 : decode cX9_rectangle 7 = .ok (.iload_n 2, 1) := by decide +kernel
theorem dX9_rectangle_8 : decode cX9_rectangle 8 = .ok (.iload 4, 2) := by decide +kernel
theorem dX9_rectangle_10 : decode cX9_rectangle 10 = .ok (.ldc 48, 2) := by decide +kernel
theorem dX9_rectangle_12 : decode cX9_rectangle 12 = .ok (.invokestatic 52, 3) := by decide +kernel
theorem dX9_rectangle_15 : decode cX9_rectangle 15 = .ok (.ifCond .eq 15, 3) := by decide +kernel
theorem dX9_rectangle_18 : decode cX9_rectangle 18 = .ok (.iload_n 3, 1) := by decide +kernel
theorem dX9_rectangle_19 : decode cX9_rectangle 19 = .ok (.iload 5, 2) := by decide +kernel
theorem dX9_rectangle_21 : decode cX9_rectangle 21 = .ok (.sipush 16384, 3) := by decide +kernel
theorem dX9_rectangle_24 : decode cX9_rectangle 24 = .ok (.invokestatic 52, 3) := by decide +kernel
theorem dX9_rectangle_27 : decode cX9_rectangle 27 = .ok (.ifCond .ne 5, 3) := by decide +kernel
theorem dX9_rectangle_30 : decode cX9_rectangle 30 = .ok (.iconst 0, 1) := by decide +kernel
theorem dX9_rectangle_31 : decode cX9_rectangle 31 = .ok (.ireturn, 1) := by decide +kernel
theorem dX9_rectangle_32 : decode cX9_rectangle 32 = .ok (.aload_n 0, 1) := by decide +kernel
theorem dX9_rectangle_33 : decode cX9_rectangle 33 = .ok (.new 17, 3) := by decide +kernel
theorem dX9_rectangle_36 : decode cX9_rectangle 36 = .ok (.dup, 1) := by decide +kernel
theorem dX9_rectangle_37 : decode cX9_rectangle 37 = .ok (.iload_n 1, 1) := by decide +kernel
theorem dX9_rectangle_38 : decode cX9_rectangle 38 = .ok (.iload_n 2, 1) := by decide +kernel
theorem dX9_rectangle_39 : decode cX9_rectangle 39 = .ok (.iload_n 3, 1) := by decide +kernel
theorem dX9_rectangle_40 : decode cX9_rectangle 40 = .ok (.iload 4, 2) := by decide +kernel
theorem dX9_rectangle_42 : decode cX9_rectangle 42 = .ok (.iload 5, 2) := by decide +kernel
theorem dX9_rectangle_44 : decode cX9_rectangle 44 = .ok (.invokespecial 19, 3) := by decide +kernel
theorem dX9_rectangle_47 : decode cX9_rectangle 47 = .ok (.putfield 22, 3) := by decide +kernel
theorem dX9_rectangle_50 : decode cX9_rectangle 50 = .ok (.iconst 1, 1) := by decide +kernel
theorem dX9_rectangle_51 : decode cX9_rectangle 51 = .ok (.ireturn, 1) := by decide +kernel
theorem dX9_move_0 : decode cX9_move 0 = .ok (.iload_n 1, 1) := by decide +kernel
theorem dX9_move_1 : decode cX9_move 1 = .ok (.invokestatic 92, 3) := by decide +kernel
theorem dX9_move_4 : decode cX9_move 4 = .ok (.ifCond .eq 17, 3) := by decide +kernel
theorem dX9_move_7 : decode cX9_move 7 = .ok (.iload_n 2, 1) := by decide +kernel
theorem dX9_move_8 : decode cX9_move 8 = .ok (.invokestatic 92, 3) := by decide +kernel
theorem dX9_move_11 : decode cX9_move 11 = .ok (.ifCond .eq 10, 3) := by decide +kernel
theorem dX9_move_14 : decode cX9_move 14 = .ok (.iload_n 3, 1) := by decide +kernel
theorem dX9_move_15 : decode cX9_move 15 = .ok (.invokestatic 92, 3) := by decide +kernel
theorem dX9_move_18 : decode cX9_move 18 = .ok (.ifCond .ne 13, 3) := by decide +kernel
theorem dX9_move_21 : decode cX9_move 21 = .ok (.new 63, 3) := by decide +kernel
theorem dX9_move_24 : decode cX9_move 24 = .ok (.dup, 1) := by decide +kernel
theorem dX9_move_25 : decode cX9_move 25 = .ok (.ldc 95, 2) := by decide +kernel
theorem dX9_move_27 : decode cX9_move 27 = .ok (.invokespecial 67, 3) := by decide +kernel
theorem dX9_move_30 : decode cX9_move 30 = .ok (.athrow, 1) := by decide +kernel
theorem dX9_move_31 : decode cX9_move 31 = .ok (.iload 4, 2) := by decide +kernel
theorem dX9_move_33 : decode cX9_move 33 = .ok (.ldc 48, 2) := by decide +kernel
theorem dX9_move_35 : decode cX9_move 35 = .ok (.invokestatic 49, 3) := by decide +kernel
theorem dX9_move_38 : decode cX9_move 38 = .ok (.ifCond .eq 14, 3) := by decide +kernel
theorem dX9_move_41 : decode cX9_move 41 = .ok (.iload 5, 2) := by decide +kernel
theorem dX9_move_43 : decode cX9_move 43 = .ok (.sipush 16384, 3) := by decide +kernel
theorem dX9_move_46 : decode cX9_move 46 = .ok (.invokestatic 49, 3) := by decide +kernel
theorem dX9_move_49 : decode cX9_move 49 = .ok (.ifCond .ne 13, 3) := by decide +kernel
theorem dX9_move_52 : decode cX9_move 52 = .ok (.new 63, 3) := by decide +kernel
theorem dX9_move_55 : decode cX9_move 55 = .ok (.dup, 1) := by decide +kernel
theorem dX9_move_56 : decode cX9_move 56 = .ok (.ldc 97, 2) := by decide +kernel
theorem dX9_move_58 : decode cX9_move 58 = .ok (.invokespecial 67, 3) := by decide +kernel
theorem dX9_move_61 : decode cX9_move 61 = .ok (.athrow, 1) := by decide +kernel
theorem dX9_move_62 : decode cX9_move 62 = .ok (.iload 4, 2) := by decide +kernel
theorem dX9_move_64 : decode cX9_move 64 = .ok (.aload_n 0, 1) := by decide +kernel
theorem dX9_move_65 : decode cX9_move 65 = .ok (.getfield 22, 3) := by decide +kernel
theorem dX9_move_68 : decode cX9_move 68 = .ok (.getfield 99, 3) := by decide +kernel
theorem dX9_move_71 : decode cX9_move 71 = .ok (.iadd, 1) := by decide +kernel
theorem dX9_move_72 : decode cX9_move 72 = .ok (.aload_n 0, 1) := by decide +kernel
theorem dX9_move_73 : decode cX9_move 73 = .ok (.getfield 22, 3) := by decide +kernel
theorem dX9_move_76 : decode cX9_move 76 = .ok (.getfield 102, 3) := by decide +kernel
theorem dX9_move_79 : decode cX9_move 79 = .ok (.isub, 1) := by decide +kernel
theorem dX9_move_80 : decode cX9_move 80 = .ok (.istore 6, 2) := by decide +kernel
theorem dX9_move_82 : decode cX9_move 82 = .ok (.iload 5, 2) := by decide +kernel
theorem dX9_move_84 : decode cX9_move 84 = .ok (.aload_n 0, 1) := by decide +kernel
theorem dX9_move_85 : decode cX9_move 85 = .ok (.getfield 22, 3) := by decide +kernel
theorem dX9_move_88 : decode cX9_move 88 = .ok (.getfield 105, 3) := by decide +kernel
theorem dX9_move_91 : decode cX9_move 91 = .ok (.iadd, 1) := by decide +kernel
theorem dX9_move_92 : decode cX9_move 92 = .ok (.aload_n 0, 1) := by decide +kernel
theorem dX9_move_93 : decode cX9_move 93 = .ok (.getfield 22, 3) := by decide +kernel
theorem dX9_move_96 : decode cX9_move 96 = .ok (.getfield 108, 3) := by decide +kernel
theorem dX9_move_99 : decode cX9_move 99 = .ok (.isub, 1) := by decide +kernel
theorem dX9_move_100 : decode cX9_move 100 = .ok (.istore 7, 2) := by decide +kernel
theorem dX9_move_102 : decode cX9_move 102 = .ok (.iload 6, 2) := by decide +kernel
theorem dX9_move_104 : decode cX9_move 104 = .ok (.ldc 48, 2) := by decide +kernel
theorem dX9_move_106 : decode cX9_move 106 = .ok (.if_icmp .gt 11, 3) := by decide +kernel
theorem dX9_move_109 : decode cX9_move 109 = .ok (.iload 7, 2) := by decide +kernel
theorem dX9_move_111 : decode cX9_move 111 = .ok (.sipush 16384, 3) := by decide +kernel
theorem dX9_move_114 : decode cX9_move 114 = .ok (.if_icmp .le 13, 3) := by decide +kernel
theorem dX9_move_117 : decode cX9_move 117 = .ok (.new 63, 3) := by decide +kernel
theorem dX9_move_120 : decode cX9_move 120 = .ok (.dup, 1) := by decide +kernel
theorem dX9_move_121 : decode cX9_move 121 = .ok (.ldc 111, 2) := by decide +kernel
theorem dX9_move_123 : decode cX9_move 123 = .ok (.invokespecial 67, 3) := by decide +kernel
theorem dX9_move_126 : decode cX9_move 126 = .ok (.athrow, 1) := by decide +kernel
theorem dX9_move_127 : decode cX9_move 127 = .ok (.new 17, 3) := by decide +kernel
theorem dX9_move_130 : decode cX9_move 130 = .ok (.dup, 1) := by decide +kernel
theorem dX9_move_131 : decode cX9_move 131 = .ok (.iload_n 3, 1) := by decide +kernel
theorem dX9_move_132 : decode cX9_move 132 = .ok (.iload 4, 2) := by decide +kernel
theorem dX9_move_134 : decode cX9_move 134 = .ok (.iload 5, 2) := by decide +kernel
theorem dX9_move_136 : decode cX9_move 136 = .ok (.iload 6, 2) := by decide +kernel
theorem dX9_move_138 : decode cX9_move 138 = .ok (.iload 7, 2) := by decide +kernel
theorem dX9_move_140 : decode cX9_move 140 = .ok (.invokespecial 19, 3) := by decide +kernel
theorem dX9_move_143 : decode cX9_move 143 = .ok (.astore 8, 2) := by decide +kernel
theorem dX9_move_145 : decode cX9_move 145 = .ok (.aload_n 0, 1) := by decide +kernel
theorem dX9_move_146 : decode cX9_move 146 = .ok (.new 113, 3) := by decide +kernel
theorem dX9_move_149 : decode cX9_move 149 = .ok (.dup, 1) := by decide +kernel
theorem dX9_move_150 : decode cX9_move 150 = .ok (.iload_n 1, 1) := by decide +kernel
theorem dX9_move_151 : decode cX9_move 151 = .ok (.iload_n 2, 1) := by decide +kernel
theorem dX9_move_152 : decode cX9_move 152 = .ok (.aload_n 0, 1) := by decide +kernel
theorem dX9_move_153 : decode cX9_move 153 = .ok (.getfield 22, 3) := by decide +kernel
theorem dX9_move_156 : decode cX9_move 156 = .ok (.aload 8, 2) := by decide +kernel
theorem dX9_move_158 : decode cX9_move 158 = .ok (.invokespecial 115, 3) := by decide +kernel
theorem dX9_move_161 : decode cX9_move 161 = .ok (.invokevirtual 77, 3) := by decide +kernel
theorem dX9_move_164 : decode cX9_move 164 = .ok (.ireturn, 1) := by decide +kernel
theorem dX9_isSheet_0 : decode cX9_isSheet 0 = .ok (.iload_n 0, 1) := by decide +kernel
theorem dX9_isSheet_1 : decode cX9_isSheet 1 = .ok (.ifCond .lt 13, 3) := by decide +kernel
theorem dX9_isSheet_4 : decode cX9_isSheet 4 = .ok (.iload_n 0, 1) := by decide +kernel
theorem dX9_isSheet_5 : decode cX9_isSheet 5 = .ok (.bipush 7, 2) := by decide +kernel
theorem dX9_isSheet_7 : decode cX9_isSheet 7 = .ok (.if_icmp .gt 7, 3) := by decide +kernel
theorem dX9_isSheet_10 : decode cX9_isSheet 10 = .ok (.iconst 1, 1) := by decide +kernel
theorem dX9_isSheet_11 : decode cX9_isSheet 11 = .ok (.goto 4, 3) := by decide +kernel
theorem dX9_isSheet_14 : decode cX9_isSheet 14 = .ok (.iconst 0, 1) := by decide +kernel
theorem dX9_isSheet_15 : decode cX9_isSheet 15 = .ok (.ireturn, 1) := by decide +kernel
theorem dX9_isSheetOrNone_0 : decode cX9_isSheetOrNone 0 = .ok (.iload_n 0, 1) := by decide +kernel
theorem dX9_isSheetOrNone_1 : decode cX9_isSheetOrNone 1 = .ok (.iconst (-1), 1) := by decide +kernel
theorem dX9_isSheetOrNone_2 : decode cX9_isSheetOrNone 2 = .ok (.if_icmp .eq 10, 3) := by decide +kernel
theorem dX9_isSheetOrNone_5 : decode cX9_isSheetOrNone 5 = .ok (.iload_n 0, 1) := by decide +kernel
theorem dX9_isSheetOrNone_6 : decode cX9_isSheetOrNone 6 = .ok (.invokestatic 92, 3) := by decide +kernel
theorem dX9_isSheetOrNone_9 : decode cX9_isSheetOrNone 9 = .ok (.ifCond .eq 7, 3) := by decide +kernel
theorem dX9_isSheetOrNone_12 : decode cX9_isSheetOrNone 12 = .ok (.iconst 1, 1) := by decide +kernel
theorem dX9_isSheetOrNone_13 : decode cX9_isSheetOrNone 13 = .ok (.goto 4, 3) := by decide +kernel
theorem dX9_isSheetOrNone_16 : decode cX9_isSheetOrNone 16 = .ok (.iconst 0, 1) := by decide +kernel
theorem dX9_isSheetOrNone_17 : decode cX9_isSheetOrNone 17 = .ok (.ireturn, 1) := by decide +kernel
theorem dX9_isLine_0 : decode cX9_isLine 0 = .ok (.iload_n 0, 1) := by decide +kernel
theorem dX9_isLine_1 : decode cX9_isLine 1 = .ok (.iconst 1, 1) := by decide +kernel
theorem dX9_isLine_2 : decode cX9_isLine 2 = .ok (.if_icmp .lt 12, 3) := by decide +kernel
theorem dX9_isLine_5 : decode cX9_isLine 5 = .ok (.iload_n 0, 1) := by decide +kernel
theorem dX9_isLine_6 : decode cX9_isLine 6 = .ok (.iload_n 1, 1) := by decide +kernel
theorem dX9_isLine_7 : decode cX9_isLine 7 = .ok (.if_icmp .gt 7, 3) := by decide +kernel
theorem dX9_isLine_10 : decode cX9_isLine 10 = .ok (.iconst 1, 1) := by decide +kernel
theorem dX9_isLine_11 : decode cX9_isLine 11 = .ok (.goto 4, 3) := by decide +kernel
theorem dX9_isLine_14 : decode cX9_isLine 14 = .ok (.iconst 0, 1) := by decide +kernel
theorem dX9_isLine_15 : decode cX9_isLine 15 = .ok (.ireturn, 1) := by decide +kernel
theorem dX9_areLines_0 : decode cX9_areLines 0 = .ok (.iload_n 0, 1) := by decide +kernel
theorem dX9_areLines_1 : decode cX9_areLines 1 = .ok (.iconst 1, 1) := by decide +kernel
theorem dX9_areLines_2 : decode cX9_areLines 2 = .ok (.if_icmp .lt 17, 3) := by decide +kernel
theorem dX9_areLines_5 : decode cX9_areLines 5 = .ok (.iload_n 0, 1) := by decide +kernel
theorem dX9_areLines_6 : decode cX9_areLines 6 = .ok (.iload_n 1, 1) := by decide +kernel
theorem dX9_areLines_7 : decode cX9_areLines 7 = .ok (.if_icmp .gt 12, 3) := by decide +kernel
theorem dX9_areLines_10 : decode cX9_areLines 10 = .ok (.iload_n 1, 1) := by decide +kernel
theorem dX9_areLines_11 : decode cX9_areLines 11 = .ok (.iload_n 2, 1) := by decide +kernel
theorem dX9_areLines_12 : decode cX9_areLines 12 = .ok (.if_icmp .gt 7, 3) := by decide +kernel
theorem dX9_areLines_15 : decode cX9_areLines 15 = .ok (.iconst 1, 1) := by decide +kernel
theorem dX9_areLines_16 : decode cX9_areLines 16 = .ok (.goto 4, 3) := by decide +kernel
theorem dX9_areLines_19 : decode cX9_areLines 19 = .ok (.iconst 0, 1) := by decide +kernel
theorem dX9_areLines_20 : decode cX9_areLines 20 = .ok (.ireturn, 1) := by decide +kernel
theorem dX9_areAllLines_0 : decode cX9_areAllLines 0 = .ok (.iload_n 0, 1) := by decide +kernel
theorem dX9_areAllLines_1 : decode cX9_areAllLines 1 = .ok (.iconst 1, 1) := by decide +kernel
theorem dX9_areAllLines_2 : decode cX9_areAllLines 2 = .ok (.if_icmp .ne 12, 3) := by decide +kernel
end
section
theorem dX9_areAllLines_5 : decode cX9_areAllLines 5 = .ok (.iload_n 1, 1) := by decide +kernel
theorem dX9_areAllLines_6 : decode cX9_areAllLines 6 = .ok (.iload_n 2, 1) := by decide +kernel
theorem dX9_areAllLines_7 : decode cX9_areAllLines 7 = .ok (.if_icmp .ne 7, 3) := by decide +kernel
theorem dX9_areAllLines_10 : decode cX9_areAllLines 10 = .ok (.iconst 1, 1) := by decide +kernel
theorem dX9_areAllLines_11 : decode cX9_areAllLines 11 = .ok (.goto 4, 3) := by decide +kernel
theorem dX9_areAllLines_14 : decode cX9_areAllLines 14 = .ok (.iconst 0, 1) := by decide +kernel
theorem dX9_areAllLines_15 : decode cX9_areAllLines 15 = .ok (.ireturn, 1) := by decide +kernel
theorem dX9_has_0 : decode cX9_has 0 = .ok (.iload_n 0, 1) := by decide +kernel
theorem dX9_has_1 : decode cX9_has 1 = .ok (.iload_n 1, 1) := by decide +kernel
theorem dX9_has_2 : decode cX9_has 2 = .ok (.iand, 1) := by decide +kernel
theorem dX9_has_3 : decode cX9_has 3 = .ok (.ifCond .eq 7, 3) := by decide +kernel
theorem dX9_has_6 : decode cX9_has 6 = .ok (.iconst 1, 1) := by decide +kernel
theorem dX9_has_7 : decode cX9_has 7 = .ok (.goto 4, 3) := by decide +kernel
theorem dX9_has_10 : decode cX9_has 10 = .ok (.iconst 0, 1) := by decide +kernel
theorem dX9_has_11 : decode cX9_has 11 = .ok (.ireturn, 1) := by decide +kernel
theorem dX9_isOfKind_0 : decode cX9_isOfKind 0 = .ok (.iload_n 0, 1) := by decide +kernel
theorem dX9_isOfKind_1 : decode cX9_isOfKind 1 = .ok (.ifCond .lt 15, 3) := by decide +kernel
theorem dX9_isOfKind_4 : decode cX9_isOfKind 4 = .ok (.iload_n 0, 1) := by decide +kernel
theorem dX9_isOfKind_5 : decode cX9_isOfKind 5 = .ok (.bipush 16, 2) := by decide +kernel
theorem dX9_isOfKind_7 : decode cX9_isOfKind 7 = .ok (.irem, 1) := by decide +kernel
theorem dX9_isOfKind_8 : decode cX9_isOfKind 8 = .ok (.iload_n 1, 1) := by decide +kernel
theorem dX9_isOfKind_9 : decode cX9_isOfKind 9 = .ok (.if_icmp .ne 7, 3) := by decide +kernel
theorem dX9_isOfKind_12 : decode cX9_isOfKind 12 = .ok (.iconst 1, 1) := by decide +kernel
theorem dX9_isOfKind_13 : decode cX9_isOfKind 13 = .ok (.goto 4, 3) := by decide +kernel
theorem dX9_isOfKind_16 : decode cX9_isOfKind 16 = .ok (.iconst 0, 1) := by decide +kernel
theorem dX9_isOfKind_17 : decode cX9_isOfKind 17 = .ok (.ireturn, 1) := by decide +kernel
theorem dX9_checkLines_0 : decode cX9_checkLines 0 = .ok (.iload_n 0, 1) := by decide +kernel
theorem dX9_checkLines_1 : decode cX9_checkLines 1 = .ok (.invokestatic 92, 3) := by decide +kernel
theorem dX9_checkLines_4 : decode cX9_checkLines 4 = .ok (.ifCond .eq 10, 3) := by decide +kernel
theorem dX9_checkLines_7 : decode cX9_checkLines 7 = .ok (.iload_n 1, 1) := by decide +kernel
theorem dX9_checkLines_8 : decode cX9_checkLines 8 = .ok (.invokestatic 92, 3) := by decide +kernel
theorem dX9_checkLines_11 : decode cX9_checkLines 11 = .ok (.ifCond .ne 13, 3) := by decide +kernel
theorem dX9_checkLines_14 : decode cX9_checkLines 14 = .ok (.new 63, 3) := by decide +kernel
theorem dX9_checkLines_17 : decode cX9_checkLines 17 = .ok (.dup, 1) := by decide +kernel
theorem dX9_checkLines_18 : decode cX9_checkLines 18 = .ok (.ldc 95, 2) := by decide +kernel
theorem dX9_checkLines_20 : decode cX9_checkLines 20 = .ok (.invokespecial 67, 3) := by decide +kernel
theorem dX9_checkLines_23 : decode cX9_checkLines 23 = .ok (.athrow, 1) := by decide +kernel
theorem dX9_checkLines_24 : decode cX9_checkLines 24 = .ok (.iload_n 3, 1) := by decide +kernel
theorem dX9_checkLines_25 : decode cX9_checkLines 25 = .ok (.iload_n 2, 1) := by decide +kernel
theorem dX9_checkLines_26 : decode cX9_checkLines 26 = .ok (.ifCond .eq 9, 3) := by decide +kernel
theorem dX9_checkLines_29 : decode cX9_checkLines 29 = .ok (.sipush 16384, 3) := by decide +kernel
theorem dX9_checkLines_32 : decode cX9_checkLines 32 = .ok (.goto 5, 3) := by decide +kernel
theorem dX9_checkLines_35 : decode cX9_checkLines 35 = .ok (.ldc 48, 2) := by decide +kernel
theorem dX9_checkLines_37 : decode cX9_checkLines 37 = .ok (.invokestatic 49, 3) := by decide +kernel
theorem dX9_checkLines_40 : decode cX9_checkLines 40 = .ok (.ifCond .ne 13, 3) := by decide +kernel
theorem dX9_checkLines_43 : decode cX9_checkLines 43 = .ok (.new 63, 3) := by decide +kernel
theorem dX9_checkLines_46 : decode cX9_checkLines 46 = .ok (.dup, 1) := by decide +kernel
theorem dX9_checkLines_47 : decode cX9_checkLines 47 = .ok (.ldc 118, 2) := by decide +kernel
theorem dX9_checkLines_49 : decode cX9_checkLines 49 = .ok (.invokespecial 67, 3) := by decide +kernel
theorem dX9_checkLines_52 : decode cX9_checkLines 52 = .ok (.athrow, 1) := by decide +kernel
theorem dX9_checkLines_53 : decode cX9_checkLines 53 = .ok (.iload 4, 2) := by decide +kernel
theorem dX9_checkLines_55 : decode cX9_checkLines 55 = .ok (.iconst 1, 1) := by decide +kernel
theorem dX9_checkLines_56 : decode cX9_checkLines 56 = .ok (.if_icmp .lt 11, 3) := by decide +kernel
theorem dX9_checkLines_59 : decode cX9_checkLines 59 = .ok (.iload 4, 2) := by decide +kernel
theorem dX9_checkLines_61 : decode cX9_checkLines 61 = .ok (.sipush 16384, 3) := by decide +kernel
theorem dX9_checkLines_64 : decode cX9_checkLines 64 = .ok (.if_icmp .le 13, 3) := by decide +kernel
theorem dX9_checkLines_67 : decode cX9_checkLines 67 = .ok (.new 63, 3) := by decide +kernel
theorem dX9_checkLines_70 : decode cX9_checkLines 70 = .ok (.dup, 1) := by decide +kernel
theorem dX9_checkLines_71 : decode cX9_checkLines 71 = .ok (.ldc 120, 2) := by decide +kernel
theorem dX9_checkLines_73 : decode cX9_checkLines 73 = .ok (.invokespecial 67, 3) := by decide +kernel
theorem dX9_checkLines_76 : decode cX9_checkLines 76 = .ok (.athrow, 1) := by decide +kernel
theorem dX9_checkLines_77 : decode cX9_checkLines 77 = .ok (.return_, 1) := by decide +kernel
theorem dX9_hasRoomFor_0 : decode cX9_hasRoomFor 0 = .ok (.aload_n 0, 1) := by decide +kernel
theorem dX9_hasRoomFor_1 : decode cX9_hasRoomFor 1 = .ok (.getfield 13, 3) := by decide +kernel
theorem dX9_hasRoomFor_4 : decode cX9_hasRoomFor 4 = .ok (.iload_n 1, 1) := by decide +kernel
theorem dX9_hasRoomFor_5 : decode cX9_hasRoomFor 5 = .ok (.iadd, 1) := by decide +kernel
theorem dX9_hasRoomFor_6 : decode cX9_hasRoomFor 6 = .ok (.sipush 1000, 3) := by decide +kernel
theorem dX9_hasRoomFor_9 : decode cX9_hasRoomFor 9 = .ok (.if_icmp .gt 7, 3) := by decide +kernel
theorem dX9_hasRoomFor_12 : decode cX9_hasRoomFor 12 = .ok (.iconst 1, 1) := by decide +kernel
theorem dX9_hasRoomFor_13 : decode cX9_hasRoomFor 13 = .ok (.goto 4, 3) := by decide +kernel
theorem dX9_hasRoomFor_16 : decode cX9_hasRoomFor 16 = .ok (.iconst 0, 1) := by decide +kernel
theorem dX9_hasRoomFor_17 : decode cX9_hasRoomFor 17 = .ok (.ireturn, 1) := by decide +kernel
theorem dX9_append_0 : decode cX9_append 0 = .ok (.aload_n 0, 1) := by decide +kernel
theorem dX9_append_1 : decode cX9_append 1 = .ok (.aload_n 0, 1) := by decide +kernel
theorem dX9_append_2 : decode cX9_append 2 = .ok (.getfield 13, 3) := by decide +kernel
theorem dX9_append_5 : decode cX9_append 5 = .ok (.iload_n 1, 1) := by decide +kernel
theorem dX9_append_6 : decode cX9_append 6 = .ok (.invokevirtual 122, 3) := by decide +kernel
theorem dX9_append_9 : decode cX9_append 9 = .ok (.aload_n 0, 1) := by decide +kernel
theorem dX9_append_10 : decode cX9_append 10 = .ok (.dup, 1) := by decide +kernel
theorem dX9_append_11 : decode cX9_append 11 = .ok (.getfield 13, 3) := by decide +kernel
theorem dX9_append_14 : decode cX9_append 14 = .ok (.iconst 1, 1) := by decide +kernel
theorem dX9_append_15 : decode cX9_append 15 = .ok (.iadd, 1) := by decide +kernel
theorem dX9_append_16 : decode cX9_append 16 = .ok (.putfield 13, 3) := by decide +kernel
theorem dX9_append_19 : decode cX9_append 19 = .ok (.return_, 1) := by decide +kernel
theorem dX9_put_0 : decode cX9_put 0 = .ok (.iload_n 1, 1) := by decide +kernel
theorem dX9_put_1 : decode cX9_put 1 = .ok (.ifCond .lt 19, 3) := by decide +kernel
theorem dX9_put_4 : decode cX9_put 4 = .ok (.iload_n 1, 1) := by decide +kernel
theorem dX9_put_5 : decode cX9_put 5 = .ok (.aload_n 0, 1) := by decide +kernel
theorem dX9_put_6 : decode cX9_put 6 = .ok (.getfield 9, 3) := by decide +kernel
theorem dX9_put_9 : decode cX9_put 9 = .ok (.arraylength, 1) := by decide +kernel
theorem dX9_put_10 : decode cX9_put 10 = .ok (.if_icmp .ge 10, 3) := by decide +kernel
theorem dX9_put_13 : decode cX9_put 13 = .ok (.aload_n 0, 1) := by decide +kernel
theorem dX9_put_14 : decode cX9_put 14 = .ok (.getfield 9, 3) := by decide +kernel
theorem dX9_put_17 : decode cX9_put 17 = .ok (.iload_n 1, 1) := by decide +kernel
theorem dX9_put_18 : decode cX9_put 18 = .ok (.iload_n 2, 1) := by decide +kernel
theorem dX9_put_19 : decode cX9_put 19 = .ok (.iastore, 1) := by decide +kernel
theorem dX9_put_20 : decode cX9_put 20 = .ok (.return_, 1) := by decide +kernel
theorem dX9_changeReferences_0 : decode cX9_changeReferences 0 = .ok (.iconst 0, 1) := by decide +kernel
theorem dX9_changeReferences_1 : decode cX9_changeReferences 1 = .ok (.istore_n 2, 1) := by decide +kernel
theorem dX9_changeReferences_2 : decode cX9_changeReferences 2 = .ok (.iconst 0, 1) := by decide +kernel
theorem dX9_changeReferences_3 : decode cX9_changeReferences 3 = .ok (.istore_n 3, 1) := by decide +kernel
theorem dX9_changeReferences_4 : decode cX9_changeReferences 4 = .ok (.iconst 1, 1) := by decide +kernel
theorem dX9_changeReferences_5 : decode cX9_changeReferences 5 = .ok (.istore 4, 2) := by decide +kernel
theorem dX9_changeReferences_7 : decode cX9_changeReferences 7 = .ok (.iconst 0, 1) := by decide +kernel
theorem dX9_changeReferences_8 : decode cX9_changeReferences 8 = .ok (.istore 5, 2) := by decide +kernel
theorem dX9_changeReferences_10 : decode cX9_changeReferences 10 = .ok (.iload 5, 2) := by decide +kernel
theorem dX9_changeReferences_12 : decode cX9_changeReferences 12 = .ok (.aload_n 0, 1) := by decide +kernel
theorem dX9_changeReferences_13 : decode cX9_changeReferences 13 = .ok (.getfield 13, 3) := by decide +kernel
theorem dX9_changeReferences_16 : decode cX9_changeReferences 16 = .ok (.if_icmp .ge 102, 3) := by decide +kernel
theorem dX9_changeReferences_19 : decode cX9_changeReferences 19 = .ok (.aload_n 0, 1) := by decide +kernel
theorem dX9_changeReferences_20 : decode cX9_changeReferences 20 = .ok (.iload 5, 2) := by decide +kernel
theorem dX9_changeReferences_22 : decode cX9_changeReferences 22 = .ok (.invokevirtual 125, 3) := by decide +kernel
theorem dX9_changeReferences_25 : decode cX9_changeReferences 25 = .ok (.invokestatic 129, 3) := by decide +kernel
theorem dX9_changeReferences_28 : decode cX9_changeReferences 28 = .ok (.istore 4, 2) := by decide +kernel
theorem dX9_changeReferences_30 : decode cX9_changeReferences 30 = .ok (.iload 4, 2) := by decide +kernel
theorem dX9_changeReferences_32 : decode cX9_changeReferences 32 = .ok (.iconst 1, 1) := by decide +kernel
theorem dX9_changeReferences_33 : decode cX9_changeReferences 33 = .ok (.if_icmp .ne 20, 3) := by decide +kernel
theorem dX9_changeReferences_36 : decode cX9_changeReferences 36 = .ok (.aload_n 0, 1) := by decide +kernel
theorem dX9_changeReferences_37 : decode cX9_changeReferences 37 = .ok (.iload_n 3, 1) := by decide +kernel
theorem dX9_changeReferences_38 : decode cX9_changeReferences 38 = .ok (.aload_n 0, 1) := by decide +kernel
theorem dX9_changeReferences_39 : decode cX9_changeReferences 39 = .ok (.iload 5, 2) := by decide +kernel
theorem dX9_changeReferences_41 : decode cX9_changeReferences 41 = .ok (.invokevirtual 125, 3) := by decide +kernel
theorem dX9_changeReferences_44 : decode cX9_changeReferences 44 = .ok (.invokevirtual 122, 3) := by decide +kernel
theorem dX9_changeReferences_47 : decode cX9_changeReferences 47 = .ok (.iinc 3 1, 3) := by decide +kernel
theorem dX9_changeReferences_50 : decode cX9_changeReferences 50 = .ok (.goto 58, 3) := by decide +kernel
theorem dX9_changeReferences_53 : decode cX9_changeReferences 53 = .ok (.aload_n 0, 1) := by decide +kernel
theorem dX9_changeReferences_54 : decode cX9_changeReferences 54 = .ok (.iload 5, 2) := by decide +kernel
theorem dX9_changeReferences_56 : decode cX9_changeReferences 56 = .ok (.iload 4, 2) := by decide +kernel
theorem dX9_changeReferences_58 : decode cX9_changeReferences 58 = .ok (.invokevirtual 132, 3) := by decide +kernel
theorem dX9_changeReferences_61 : decode cX9_changeReferences 61 = .ok (.aload_n 1, 1) := by decide +kernel
theorem dX9_changeReferences_62 : decode cX9_changeReferences 62 = .ok (.aload_n 0, 1) := by decide +kernel
theorem dX9_changeReferences_63 : decode cX9_changeReferences 63 = .ok (.getfield 29, 3) := by decide +kernel
theorem dX9_changeReferences_66 : decode cX9_changeReferences 66 = .ok (.invokevirtual 135, 3) := by decide +kernel
theorem dX9_changeReferences_69 : decode cX9_changeReferences 69 = .ok (.ifCond .ne 19, 3) := by decide +kernel
theorem dX9_changeReferences_72 : decode cX9_changeReferences 72 = .ok (.aload_n 0, 1) := by decide +kernel
theorem dX9_changeReferences_73 : decode cX9_changeReferences 73 = .ok (.iload_n 3, 1) := by decide +kernel
theorem dX9_changeReferences_74 : decode cX9_changeReferences 74 = .ok (.bipush 67, 2) := by decide +kernel
theorem dX9_changeReferences_76 : decode cX9_changeReferences 76 = .ok (.invokevirtual 122, 3) := by decide +kernel
theorem dX9_changeReferences_79 : decode cX9_changeReferences 79 = .ok (.iinc 3 1, 3) := by decide +kernel
theorem dX9_changeReferences_82 : decode cX9_changeReferences 82 = .ok (.iinc 2 1, 3) := by decide +kernel
theorem dX9_changeReferences_85 : decode cX9_changeReferences 85 = .ok (.goto 23, 3) := by decide +kernel
theorem dX9_changeReferences_88 : decode cX9_changeReferences 88 = .ok (.aload_n 0, 1) := by decide +kernel
theorem dX9_changeReferences_89 : decode cX9_changeReferences 89 = .ok (.iload 5, 2) := by decide +kernel
theorem dX9_changeReferences_91 : decode cX9_changeReferences 91 = .ok (.iload_n 3, 1) := by decide +kernel
theorem dX9_changeReferences_92 : decode cX9_changeReferences 92 = .ok (.iload 4, 2) := by decide +kernel
theorem dX9_changeReferences_94 : decode cX9_changeReferences 94 = .ok (.invokevirtual 141, 3) := by decide +kernel
theorem dX9_changeReferences_97 : decode cX9_changeReferences 97 = .ok (.ifCond .eq 6, 3) := by decide +kernel
theorem dX9_changeReferences_100 : decode cX9_changeReferences 100 = .ok (.iinc 2 1, 3) := by decide +kernel
theorem dX9_changeReferences_103 : decode cX9_changeReferences 103 = .ok (.iload_n 3, 1) := by decide +kernel
theorem dX9_changeReferences_104 : decode cX9_changeReferences 104 = .ok (.iload 4, 2) := by decide +kernel
theorem dX9_changeReferences_106 : decode cX9_changeReferences 106 = .ok (.iadd, 1) := by decide +kernel
theorem dX9_changeReferences_107 : decode cX9_changeReferences 107 = .ok (.istore_n 3, 1) := by decide +kernel
theorem dX9_changeReferences_108 : decode cX9_changeReferences 108 = .ok (.iload 5, 2) := by decide +kernel
theorem dX9_changeReferences_110 : decode cX9_changeReferences 110 = .ok (.iload 4, 2) := by decide +kernel
theorem dX9_changeReferences_112 : decode cX9_changeReferences 112 = .ok (.iadd, 1) := by decide +kernel
theorem dX9_changeReferences_113 : decode cX9_changeReferences 113 = .ok (.istore 5, 2) := by decide +kernel
theorem dX9_changeReferences_115 : decode cX9_changeReferences 115 = .ok (.goto (-105), 3) := by decide +kernel
theorem dX9_changeReferences_118 : decode cX9_changeReferences 118 = .ok (.aload_n 0, 1) := by decide +kernel
theorem dX9_changeReferences_119 : decode cX9_changeReferences 119 = .ok (.iload_n 3, 1) := by decide +kernel
theorem dX9_changeReferences_120 : decode cX9_changeReferences 120 = .ok (.putfield 13, 3) := by decide +kernel
theorem dX9_changeReferences_123 : decode cX9_changeReferences 123 = .ok (.iload_n 2, 1) := by decide +kernel
theorem dX9_changeReferences_124 : decode cX9_changeReferences 124 = .ok (.ireturn, 1) := by decide +kernel
theorem dX9_itemLength_0 : decode cX9_itemLength 0 = .ok (.iload_n 0, 1) := by decide +kernel
theorem dX9_itemLength_1 : decode cX9_itemLength 1 = .ok (.iconst 4, 1) := by decide +kernel
theorem dX9_itemLength_2 : decode cX9_itemLength 2 = .ok (.invokestatic 33, 3) := by decide +kernel
theorem dX9_itemLength_5 : decode cX9_itemLength 5 = .ok (.ifCond .eq 5, 3) := by decide +kernel
theorem dX9_itemLength_8 : decode cX9_itemLength 8 = .ok (.iconst 4, 1) := by decide +kernel
theorem dX9_itemLength_9 : decode cX9_itemLength 9 = .ok (.ireturn, 1) := by decide +kernel
theorem dX9_itemLength_10 : decode cX9_itemLength 10 = .ok (.iload_n 0, 1) := by decide +kernel
theorem dX9_itemLength_11 : decode cX9_itemLength 11 = .ok (.iconst 5, 1) := by decide +kernel
theorem dX9_itemLength_12 : decode cX9_itemLength 12 = .ok (.invokestatic 33, 3) := by decide +kernel
theorem dX9_itemLength_15 : decode cX9_itemLength 15 = .ok (.ifCond .eq 8, 3) := by decide +kernel
theorem dX9_itemLength_18 : decode cX9_itemLength 18 = .ok (.bipush 6, 2) := by decide +kernel
theorem dX9_itemLength_20 : decode cX9_itemLength 20 = .ok (.goto 4, 3) := by decide +kernel
theorem dX9_itemLength_23 : decode cX9_itemLength 23 = .ok (.iconst 1, 1) := by decide +kernel
theorem dX9_itemLength_24 : decode cX9_itemLength 24 = .ok (.ireturn, 1) := by decide +kernel
theorem dX9_load_0 : decode cX9_load 0 = .ok (.iload_n 2, 1) := by decide +kernel
theorem dX9_load_1 : decode cX9_load 1 = .ok (.bipush 6, 2) := by decide +kernel
theorem dX9_load_3 : decode cX9_load 3 = .ok (.if_icmp .ne 7, 3) := by decide +kernel
theorem dX9_load_6 : decode cX9_load 6 = .ok (.iconst 1, 1) := by decide +kernel
theorem dX9_load_7 : decode cX9_load 7 = .ok (.goto 4, 3) := by decide +kernel
theorem dX9_load_10 : decode cX9_load 10 = .ok (.iconst 0, 1) := by decide +kernel
theorem dX9_load_11 : decode cX9_load 11 = .ok (.istore_n 3, 1) := by decide +kernel
theorem dX9_load_12 : decode cX9_load 12 = .ok (.aload_n 0, 1) := by decide +kernel
theorem dX9_load_13 : decode cX9_load 13 = .ok (.iload_n 1, 1) := by decide +kernel
theorem dX9_load_14 : decode cX9_load 14 = .ok (.invokevirtual 125, 3) := by decide +kernel
theorem dX9_load_17 : decode cX9_load 17 = .ok (.bipush 16, 2) := by decide +kernel
theorem dX9_load_19 : decode cX9_load 19 = .ok (.idiv, 1) := by decide +kernel
theorem dX9_load_20 : decode cX9_load 20 = .ok (.istore 4, 2) := by decide +kernel
theorem dX9_load_22 : decode cX9_load 22 = .ok (.iload_n 3, 1) := by decide +kernel
theorem dX9_load_23 : decode cX9_load 23 = .ok (.ifCond .eq 10, 3) := by decide +kernel
theorem dX9_load_26 : decode cX9_load 26 = .ok (.iload 4, 2) := by decide +kernel
theorem dX9_load_28 : decode cX9_load 28 = .ok (.iconst 4, 1) := by decide +kernel
theorem dX9_load_29 : decode cX9_load 29 = .ok (.idiv, 1) := by decide +kernel
theorem dX9_load_30 : decode cX9_load 30 = .ok (.goto 5, 3) := by decide +kernel
theorem dX9_load_33 : decode cX9_load 33 = .ok (.iload 4, 2) := by decide +kernel
theorem dX9_load_35 : decode cX9_load 35 = .ok (.istore 5, 2) := by decide +kernel
theorem dX9_load_37 : decode cX9_load 37 = .ok (.aload_n 0, 1) := by decide +kernel
theorem dX9_load_38 : decode cX9_load 38 = .ok (.getfield 29, 3) := by decide +kernel
theorem dX9_load_41 : decode cX9_load 41 = .ok (.iload_n 3, 1) := by decide +kernel
theorem dX9_load_42 : decode cX9_load 42 = .ok (.putfield 144, 3) := by decide +kernel
theorem dX9_load_45 : decode cX9_load 45 = .ok (.aload_n 0, 1) := by decide +kernel
theorem dX9_load_46 : decode cX9_load 46 = .ok (.getfield 29, 3) := by decide +kernel
theorem dX9_load_49 : decode cX9_load 49 = .ok (.iload 4, 2) := by decide +kernel
theorem dX9_load_51 : decode cX9_load 51 = .ok (.bipush 48, 2) := by decide +kernel
theorem dX9_load_53 : decode cX9_load 53 = .ok (.iand, 1) := by decide +kernel
theorem dX9_load_54 : decode cX9_load 54 = .ok (.putfield 148, 3) := by decide +kernel
theorem dX9_load_57 : decode cX9_load 57 = .ok (.aload_n 0, 1) := by decide +kernel
theorem dX9_load_58 : decode cX9_load 58 = .ok (.getfield 29, 3) := by decide +kernel
theorem dX9_load_61 : decode cX9_load 61 = .ok (.aload_n 0, 1) := by decide +kernel
theorem dX9_load_62 : decode cX9_load 62 = .ok (.iload_n 1, 1) := by decide +kernel
theorem dX9_load_63 : decode cX9_load 63 = .ok (.iconst 1, 1) := by decide +kernel
theorem dX9_load_64 : decode cX9_load 64 = .ok (.iadd, 1) := by decide +kernel
theorem dX9_load_65 : decode cX9_load 65 = .ok (.invokevirtual 125, 3) := by decide +kernel
theorem dX9_load_68 : decode cX9_load 68 = .ok (.putfield 151, 3) := by decide +kernel
theorem dX9_load_71 : decode cX9_load 71 = .ok (.aload_n 0, 1) := by decide +kernel
theorem dX9_load_72 : decode cX9_load 72 = .ok (.getfield 29, 3) := by decide +kernel
theorem dX9_load_75 : decode cX9_load 75 = .ok (.getfield 154, 3) := by decide +kernel
theorem dX9_load_78 : decode cX9_load 78 = .ok (.aload_n 0, 1) := by decide +kernel
theorem dX9_load_79 : decode cX9_load 79 = .ok (.iload_n 1, 1) := by decide +kernel
theorem dX9_load_80 : decode cX9_load 80 = .ok (.iconst 2, 1) := by decide +kernel
theorem dX9_load_81 : decode cX9_load 81 = .ok (.iadd, 1) := by decide +kernel
theorem dX9_load_82 : decode cX9_load 82 = .ok (.invokevirtual 125, 3) := by decide +kernel
theorem dX9_load_85 : decode cX9_load 85 = .ok (.iload 4, 2) := by decide +kernel
theorem dX9_load_87 : decode cX9_load 87 = .ok (.iconst 2, 1) := by decide +kernel
theorem dX9_load_88 : decode cX9_load 88 = .ok (.invokestatic 56, 3) := by decide +kernel
theorem dX9_load_91 : decode cX9_load 91 = .ok (.invokevirtual 158, 3) := by decide +kernel
theorem dX9_load_94 : decode cX9_load 94 = .ok (.aload_n 0, 1) := by decide +kernel
theorem dX9_load_95 : decode cX9_load 95 = .ok (.getfield 29, 3) := by decide +kernel
theorem dX9_load_98 : decode cX9_load 98 = .ok (.getfield 164, 3) := by decide +kernel
theorem dX9_load_101 : decode cX9_load 101 = .ok (.aload_n 0, 1) := by decide +kernel
theorem dX9_load_102 : decode cX9_load 102 = .ok (.iload_n 1, 1) := by decide +kernel
theorem dX9_load_103 : decode cX9_load 103 = .ok (.iconst 3, 1) := by decide +kernel
theorem dX9_load_104 : decode cX9_load 104 = .ok (.iadd, 1) := by decide +kernel
theorem dX9_load_105 : decode cX9_load 105 = .ok (.invokevirtual 125, 3) := by decide +kernel
theorem dX9_load_108 : decode cX9_load 108 = .ok (.iload 4, 2) := by decide +kernel
theorem dX9_load_110 : decode cX9_load 110 = .ok (.iconst 1, 1) := by decide +kernel
theorem dX9_load_111 : decode cX9_load 111 = .ok (.invokestatic 56, 3) := by decide +kernel
theorem dX9_load_114 : decode cX9_load 114 = .ok (.invokevirtual 158, 3) := by decide +kernel
theorem dX9_load_117 : decode cX9_load 117 = .ok (.aload_n 0, 1) := by decide +kernel
theorem dX9_load_118 : decode cX9_load 118 = .ok (.getfield 29, 3) := by decide +kernel
theorem dX9_load_121 : decode cX9_load 121 = .ok (.getfield 154, 3) := by decide +kernel
theorem dX9_load_124 : decode cX9_load 124 = .ok (.aload_n 0, 1) := by decide +kernel
theorem dX9_load_125 : decode cX9_load 125 = .ok (.iload_n 1, 1) := by decide +kernel
theorem dX9_load_126 : decode cX9_load 126 = .ok (.iload_n 2, 1) := by decide +kernel
theorem dX9_load_127 : decode cX9_load 127 = .ok (.iadd, 1) := by decide +kernel
theorem dX9_load_128 : decode cX9_load 128 = .ok (.iconst 2, 1) := by decide +kernel
theorem dX9_load_129 : decode cX9_load 129 = .ok (.isub, 1) := by decide +kernel
theorem dX9_load_130 : decode cX9_load 130 = .ok (.invokevirtual 125, 3) := by decide +kernel
theorem dX9_load_133 : decode cX9_load 133 = .ok (.iload 5, 2) := by decide +kernel
theorem dX9_load_135 : decode cX9_load 135 = .ok (.iconst 2, 1) := by decide +kernel
theorem dX9_load_136 : decode cX9_load 136 = .ok (.invokestatic 56, 3) := by decide +kernel
theorem dX9_load_139 : decode cX9_load 139 = .ok (.invokevirtual 167, 3) := by decide +kernel
theorem dX9_load_142 : decode cX9_load 142 = .ok (.aload_n 0, 1) := by decide +kernel
theorem dX9_load_143 : decode cX9_load 143 = .ok (.getfield 29, 3) := by decide +kernel
theorem dX9_load_146 : decode cX9_load 146 = .ok (.getfield 164, 3) := by decide +kernel
theorem dX9_load_149 : decode cX9_load 149 = .ok (.aload_n 0, 1) := by decide +kernel
theorem dX9_load_150 : decode cX9_load 150 = .ok (.iload_n 1, 1) := by decide +kernel
theorem dX9_load_151 : decode cX9_load 151 = .ok (.iload_n 2, 1) := by decide +kernel
theorem dX9_load_152 : decode cX9_load 152 = .ok (.iadd, 1) := by decide +kernel
theorem dX9_load_153 : decode cX9_load 153 = .ok (.iconst 1, 1) := by decide +kernel
theorem dX9_load_154 : decode cX9_load 154 = .ok (.isub, 1) := by decide +kernel
theorem dX9_load_155 : decode cX9_load 155 = .ok (.invokevirtual 125, 3) := by decide +kernel
theorem dX9_load_158 : decode cX9_load 158 = .ok (.iload 5, 2) := by decide +kernel
theorem dX9_load_160 : decode cX9_load 160 = .ok (.iconst 1, 1) := by decide +kernel
theorem dX9_load_161 : decode cX9_load 161 = .ok (.invokestatic 56, 3) := by decide +kernel
theorem dX9_load_164 : decode cX9_load 164 = .ok (.invokevirtual 167, 3) := by decide +kernel
theorem dX9_load_167 : decode cX9_load 167 = .ok (.return_, 1) := by decide +kernel
theorem dX9_store_0 : decode cX9_store 0 = .ok (.iconst 0, 1) := by decide +kernel
theorem dX9_store_1 : decode cX9_store 1 = .ok (.istore 4, 2) := by decide +kernel
theorem dX9_store_3 : decode cX9_store 3 = .ok (.iconst 0, 1) := by decide +kernel
theorem dX9_store_4 : decode cX9_store 4 = .ok (.istore 5, 2) := by decide +kernel
theorem dX9_store_6 : decode cX9_store 6 = .ok (.iload 5, 2) := by decide +kernel
theorem dX9_store_8 : decode cX9_store 8 = .ok (.iload_n 3, 1) := by decide +kernel
theorem dX9_store_9 : decode cX9_store 9 = .ok (.if_icmp .ge 46, 3) := by decide +kernel
theorem dX9_store_12 : decode cX9_store 12 = .ok (.aload_n 0, 1) := by decide +kernel
theorem dX9_store_13 : decode cX9_store 13 = .ok (.getfield 29, 3) := by decide +kernel
theorem dX9_store_16 : decode cX9_store 16 = .ok (.iload 5, 2) := by decide +kernel
theorem dX9_store_18 : decode cX9_store 18 = .ok (.invokevirtual 170, 3) := by decide +kernel
theorem dX9_store_21 : decode cX9_store 21 = .ok (.istore 6, 2) := by decide +kernel
theorem dX9_store_23 : decode cX9_store 23 = .ok (.iload 6, 2) := by decide +kernel
theorem dX9_store_25 : decode cX9_store 25 = .ok (.aload_n 0, 1) := by decide +kernel
theorem dX9_store_26 : decode cX9_store 26 = .ok (.iload_n 1, 1) := by decide +kernel
theorem dX9_store_27 : decode cX9_store 27 = .ok (.iload 5, 2) := by decide +kernel
theorem dX9_store_29 : decode cX9_store 29 = .ok (.iadd, 1) := by decide +kernel
theorem dX9_store_30 : decode cX9_store 30 = .ok (.invokevirtual 125, 3) := by decide +kernel
theorem dX9_store_33 : decode cX9_store 33 = .ok (.if_icmp .eq 6, 3) := by decide +kernel
theorem dX9_store_36 : decode cX9_store 36 = .ok (.iconst 1, 1) := by decide +kernel
theorem dX9_store_37 : decode cX9_store 37 = .ok (.istore 4, 2) := by decide +kernel
theorem dX9_store_39 : decode cX9_store 39 = .ok (.aload_n 0, 1) := by decide +kernel
theorem dX9_store_40 : decode cX9_store 40 = .ok (.iload_n 2, 1) := by decide +kernel
theorem dX9_store_41 : decode cX9_store 41 = .ok (.iload 5, 2) := by decide +kernel
theorem dX9_store_43 : decode cX9_store 43 = .ok (.iadd, 1) := by decide +kernel
theorem dX9_store_44 : decode cX9_store 44 = .ok (.iload 6, 2) := by decide +kernel
theorem dX9_store_46 : decode cX9_store 46 = .ok (.invokevirtual 122, 3) := by decide +kernel
theorem dX9_store_49 : decode cX9_store 49 = .ok (.iinc 5 1, 3) := by decide +kernel
theorem dX9_store_52 : decode cX9_store 52 = .ok (.goto (-46), 3) := by decide +kernel
theorem dX9_store_55 : decode cX9_store 55 = .ok (.iload 4, 2) := by decide +kernel
theorem dX9_store_57 : decode cX9_store 57 = .ok (.ireturn, 1) := by decide +kernel
theorem dX10_init_0 : decode cX10_init 0 = .ok (.aload_n 0, 1) := by decide +kernel
theorem dX10_init_1 : decode cX10_init 1 = .ok (.invokespecial 1, 3) := by decide +kernel
theorem dX10_init_4 : decode cX10_init 4 = .ok (.aload_n 0, 1) := by decide +kernel
theorem dX10_init_5 : decode cX10_init 5 = .ok (.sipush 1000, 3) := by decide +kernel
theorem dX10_init_8 : decode cX10_init 8 = .ok (.newarray .int, 2) := by decide +kernel
theorem dX10_init_10 : decode cX10_init 10 = .ok (.putfield 7, 3) := by decide +kernel
theorem dX10_init_13 : decode cX10_init 13 = .ok (.aload_n 0, 1) := by decide +kernel
theorem dX10_init_14 : decode cX10_init 14 = .ok (.sipush 1000, 3) := by decide +kernel
theorem dX10_init_17 : decode cX10_init 17 = .ok (.newarray .int, 2) := by decide +kernel
theorem dX10_init_19 : decode cX10_init 19 = .ok (.putfield 13, 3) := by decide +kernel
theorem dX10_init_22 : decode cX10_init 22 = .ok (.aload_n 0, 1) := by decide +kernel
theorem dX10_init_23 : decode cX10_init 23 = .ok (.iconst 1, 1) := by decide +kernel
theorem dX10_init_24 : decode cX10_init 24 = .ok (.putfield 16, 3) := by decide +kernel
theorem dX10_init_27 : decode cX10_init 27 = .ok (.aload_n 0, 1) := by decide +kernel
theorem dX10_init_28 : decode cX10_init 28 = .ok (.iconst 1, 1) := by decide +kernel
theorem dX10_init_29 : decode cX10_init 29 = .ok (.putfield 20, 3) := by decide +kernel
theorem dX10_init_32 : decode cX10_init 32 = .ok (.aload_n 0, 1) := by decide +kernel
theorem dX10_init_33 : decode cX10_init 33 = .ok (.iconst 1, 1) := by decide +kernel
theorem dX10_init_34 : decode cX10_init 34 = .ok (.putfield 23, 3) := by decide +kernel
theorem dX10_init_37 : decode cX10_init 37 = .ok (.aload_n 0, 1) := by decide +kernel
theorem dX10_init_38 : decode cX10_init 38 = .ok (.iconst 1, 1) := by decide +kernel
theorem dX10_init_39 : decode cX10_init 39 = .ok (.putfield 26, 3) := by decide +kernel
theorem dX10_init_42 : decode cX10_init 42 = .ok (.return_, 1) := by decide +kernel
theorem dX10_thrown_0 : decode cX10_thrown 0 = .ok (.aload_n 0, 1) := by decide +kernel
theorem dX10_thrown_1 : decode cX10_thrown 1 = .ok (.getfield 29, 3) := by decide +kernel
theorem dX10_thrown_4 : decode cX10_thrown 4 = .ok (.ireturn, 1) := by decide +kernel
theorem dX10_within_0 : decode cX10_within 0 = .ok (.iload_n 0, 1) := by decide +kernel
theorem dX10_within_1 : decode cX10_within 1 = .ok (.iload_n 1, 1) := by decide +kernel
theorem dX10_within_2 : decode cX10_within 2 = .ok (.if_icmp .lt 12, 3) := by decide +kernel
theorem dX10_within_5 : decode cX10_within 5 = .ok (.iload_n 0, 1) := by decide +kernel
theorem dX10_within_6 : decode cX10_within 6 = .ok (.iload_n 2, 1) := by decide +kernel
theorem dX10_within_7 : decode cX10_within 7 = .ok (.if_icmp .gt 7, 3) := by decide +kernel
theorem dX10_within_10 : decode cX10_within 10 = .ok (.iconst 1, 1) := by decide +kernel
theorem dX10_within_11 : decode cX10_within 11 = .ok (.goto 4, 3) := by decide +kernel
theorem dX10_within_14 : decode cX10_within 14 = .ok (.iconst 0, 1) := by decide +kernel
theorem dX10_within_15 : decode cX10_within 15 = .ok (.ireturn, 1) := by decide +kernel
theorem dX10_clear_0 : decode cX10_clear 0 = .ok (.aload_n 0, 1) := by decide +kernel
theorem dX10_clear_1 : decode cX10_clear 1 = .ok (.iconst 0, 1) := by decide +kernel
theorem dX10_clear_2 : decode cX10_clear 2 = .ok (.putfield 29, 3) := by decide +kernel
theorem dX10_clear_5 : decode cX10_clear 5 = .ok (.aload_n 0, 1) := by decide +kernel
theorem dX10_clear_6 : decode cX10_clear 6 = .ok (.iconst 0, 1) := by decide +kernel
theorem dX10_clear_7 : decode cX10_clear 7 = .ok (.putfield 32, 3) := by decide +kernel
theorem dX10_clear_10 : decode cX10_clear 10 = .ok (.return_, 1) := by decide +kernel
theorem dX10_put_0 : decode cX10_put 0 = .ok (.aload_n 0, 1) := by decide +kernel
theorem dX10_put_1 : decode cX10_put 1 = .ok (.getfield 7, 3) := by decide +kernel
theorem dX10_put_4 : decode cX10_put 4 = .ok (.aload_n 0, 1) := by decide +kernel
theorem dX10_put_5 : decode cX10_put 5 = .ok (.getfield 32, 3) := by decide +kernel
theorem dX10_put_8 : decode cX10_put 8 = .ok (.iload_n 1, 1) := by decide +kernel
theorem dX10_put_9 : decode cX10_put 9 = .ok (.iastore, 1) := by decide +kernel
theorem dX10_put_10 : decode cX10_put 10 = .ok (.aload_n 0, 1) := by decide +kernel
theorem dX10_put_11 : decode cX10_put 11 = .ok (.dup, 1) := by decide +kernel
theorem dX10_put_12 : decode cX10_put 12 = .ok (.getfield 32, 3) := by decide +kernel
theorem dX10_put_15 : decode cX10_put 15 = .ok (.iconst 1, 1) := by decide +kernel
theorem dX10_put_16 : decode cX10_put 16 = .ok (.iadd, 1) := by decide +kernel
theorem dX10_put_17 : decode cX10_put 17 = .ok (.putfield 32, 3) := by decide +kernel
theorem dX10_put_20 : decode cX10_put 20 = .ok (.return_, 1) := by decide +kernel
theorem dX10_other_0 : decode cX10_other 0 = .ok (.aload_n 0, 1) := by decide +kernel
theorem dX10_other_1 : decode cX10_other 1 = .ok (.iconst 0, 1) := by decide +kernel
theorem dX10_other_2 : decode cX10_other 2 = .ok (.putfield 29, 3) := by decide +kernel
theorem dX10_other_5 : decode cX10_other 5 = .ok (.aload_n 0, 1) := by decide +kernel
theorem dX10_other_6 : decode cX10_other 6 = .ok (.getfield 32, 3) := by decide +kernel
theorem dX10_other_9 : decode cX10_other 9 = .ok (.sipush 1000, 3) := by decide +kernel
theorem dX10_other_12 : decode cX10_other 12 = .ok (.if_icmp .eq 23, 3) := by decide +kernel
theorem dX10_other_15 : decode cX10_other 15 = .ok (.iload_n 1, 1) := by decide +kernel
theorem dX10_other_16 : decode cX10_other 16 = .ok (.ifCond .lt 21, 3) := by decide +kernel
theorem dX10_other_19 : decode cX10_other 19 = .ok (.iload_n 1, 1) := by decide +kernel
theorem dX10_other_20 : decode cX10_other 20 = .ok (.bipush 16, 2) := by decide +kernel
theorem dX10_other_22 : decode cX10_other 22 = .ok (.irem, 1) := by decide +kernel
theorem dX10_other_23 : decode cX10_other 23 = .ok (.iconst 4, 1) := by decide +kernel
theorem dX10_other_24 : decode cX10_other 24 = .ok (.if_icmp .eq 11, 3) := by decide +kernel
theorem dX10_other_27 : decode cX10_other 27 = .ok (.iload_n 1, 1) := by decide +kernel
theorem dX10_other_28 : decode cX10_other 28 = .ok (.bipush 16, 2) := by decide +kernel
theorem dX10_other_30 : decode cX10_other 30 = .ok (.irem, 1) := by decide +kernel
theorem dX10_other_31 : decode cX10_other 31 = .ok (.iconst 5, 1) := by decide +kernel
theorem dX10_other_32 : decode cX10_other 32 = .ok (.if_icmp .ne 5, 3) := by decide +kernel
theorem dX10_other_35 : decode cX10_other 35 = .ok (.iconst 0, 1) := by decide +kernel
theorem dX10_other_36 : decode cX10_other 36 = .ok (.ireturn, 1) := by decide +kernel
theorem dX10_other_37 : decode cX10_other 37 = .ok (.aload_n 0, 1) := by decide +kernel
theorem dX10_other_38 : decode cX10_other 38 = .ok (.iload_n 1, 1) := by decide +kernel
theorem dX10_other_39 : decode cX10_other 39 = .ok (.invokevirtual 35, 3) := by decide +kernel
theorem dX10_other_42 : decode cX10_other 42 = .ok (.iconst 1, 1) := by decide +kernel
theorem dX10_other_43 : decode cX10_other 43 = .ok (.ireturn, 1) := by decide +kernel
theorem dX10_isCell_0 : decode cX10_isCell 0 = .ok (.iload_n 0, 1) := by decide +kernel
theorem dX10_isCell_1 : decode cX10_isCell 1 = .ok (.iconst 1, 1) := by decide +kernel
theorem dX10_isCell_2 : decode cX10_isCell 2 = .ok (.ldc 39, 2) := by decide +kernel
theorem dX10_isCell_4 : decode cX10_isCell 4 = .ok (.invokestatic 40, 3) := by decide +kernel
theorem dX10_isCell_7 : decode cX10_isCell 7 = .ok (.ifCond .eq 18, 3) := by decide +kernel
theorem dX10_isCell_10 : decode cX10_isCell 10 = .ok (.iload_n 1, 1) := by decide +kernel
theorem dX10_isCell_11 : decode cX10_isCell 11 = .ok (.iconst 1, 1) := by decide +kernel
theorem dX10_isCell_12 : decode cX10_isCell 12 = .ok (.sipush 16384, 3) := by decide +kernel
theorem dX10_isCell_15 : decode cX10_isCell 15 = .ok (.invokestatic 40, 3) := by decide +kernel
theorem dX10_isCell_18 : decode cX10_isCell 18 = .ok (.ifCond .eq 7, 3) := by decide +kernel
theorem dX10_isCell_21 : decode cX10_isCell 21 = .ok (.iconst 1, 1) := by decide +kernel
theorem dX10_isCell_22 : decode cX10_isCell 22 = .ok (.goto 4, 3) := by decide +kernel
theorem dX10_isCell_25 : decode cX10_isCell 25 = .ok (.iconst 0, 1) := by decide +kernel
theorem dX10_isCell_26 : decode cX10_isCell 26 = .ok (.ireturn, 1) := by decide +kernel
theorem dX10_place_0 : decode cX10_place 0 = .ok (.aload_n 0, 1) := by decide +kernel
theorem dX10_place_1 : decode cX10_place 1 = .ok (.iconst 0, 1) := by decide +kernel
theorem dX10_place_2 : decode cX10_place 2 = .ok (.putfield 29, 3) := by decide +kernel
theorem dX10_place_5 : decode cX10_place 5 = .ok (.iload_n 1, 1) := by decide +kernel
theorem dX10_place_6 : decode cX10_place 6 = .ok (.iconst 0, 1) := by decide +kernel
theorem dX10_place_7 : decode cX10_place 7 = .ok (.iconst 3, 1) := by decide +kernel
theorem dX10_place_8 : decode cX10_place 8 = .ok (.invokestatic 40, 3) := by decide +kernel
theorem dX10_place_11 : decode cX10_place 11 = .ok (.ifCond .eq 32, 3) := by decide +kernel
theorem dX10_place_14 : decode cX10_place 14 = .ok (.iload_n 2, 1) := by decide +kernel
theorem dX10_place_15 : decode cX10_place 15 = .ok (.iconst (-1), 1) := by decide +kernel
theorem dX10_place_16 : decode cX10_place 16 = .ok (.bipush 7, 2) := by decide +kernel
theorem dX10_place_18 : decode cX10_place 18 = .ok (.invokestatic 40, 3) := by decide +kernel
theorem dX10_place_21 : decode cX10_place 21 = .ok (.ifCond .eq 22, 3) := by decide +kernel
theorem dX10_place_24 : decode cX10_place 24 = .ok (.iload_n 3, 1) := by decide +kernel
theorem dX10_place_25 : decode cX10_place 25 = .ok (.iload 4, 2) := by decide +kernel
theorem dX10_place_27 : decode cX10_place 27 = .ok (.invokestatic 44, 3) := by decide +kernel
theorem dX10_place_30 : decode cX10_place 30 = .ok (.ifCond .eq 13, 3) := by decide +kernel
theorem dX10_place_33 : decode cX10_place 33 = .ok (.aload_n 0, 1) := by decide +kernel
theorem dX10_place_34 : decode cX10_place 34 = .ok (.getfield 32, 3) := by decide +kernel
theorem dX10_place_37 : decode cX10_place 37 = .ok (.sipush 996, 3) := by decide +kernel
theorem dX10_place_40 : decode cX10_place 40 = .ok (.if_icmp .le 5, 3) := by decide +kernel
theorem dX10_place_43 : decode cX10_place 43 = .ok (.iconst 0, 1) := by decide +kernel
theorem dX10_place_44 : decode cX10_place 44 = .ok (.ireturn, 1) := by decide +kernel
theorem dX10_place_45 : decode cX10_place 45 = .ok (.aload_n 0, 1) := by decide +kernel
theorem dX10_place_46 : decode cX10_place 46 = .ok (.iconst 4, 1) := by decide +kernel
theorem dX10_place_47 : decode cX10_place 47 = .ok (.bipush 16, 2) := by decide +kernel
theorem dX10_place_49 : decode cX10_place 49 = .ok (.iload_n 1, 1) := by decide +kernel
theorem dX10_place_50 : decode cX10_place 50 = .ok (.imul, 1) := by decide +kernel
theorem dX10_place_51 : decode cX10_place 51 = .ok (.iadd, 1) := by decide +kernel
theorem dX10_place_52 : decode cX10_place 52 = .ok (.invokevirtual 35, 3) := by decide +kernel
theorem dX10_place_55 : decode cX10_place 55 = .ok (.aload_n 0, 1) := by decide +kernel
theorem dX10_place_56 : decode cX10_place 56 = .ok (.iload_n 2, 1) := by decide +kernel
theorem dX10_place_57 : decode cX10_place 57 = .ok (.invokevirtual 35, 3) := by decide +kernel
theorem dX10_place_60 : decode cX10_place 60 = .ok (.aload_n 0, 1) := by decide +kernel
theorem dX10_place_61 : decode cX10_place 61 = .ok (.iload_n 3, 1) := by decide +kernel
theorem dX10_place_62 : decode cX10_place 62 = .ok (.invokevirtual 35, 3) := by decide +kernel
theorem dX10_place_65 : decode cX10_place 65 = .ok (.aload_n 0, 1) := by decide +kernel
theorem dX10_place_66 : decode cX10_place 66 = .ok (.iload 4, 2) := by decide +kernel
theorem dX10_place_68 : decode cX10_place 68 = .ok (.invokevirtual 35, 3) := by decide +kernel
theorem dX10_place_71 : decode cX10_place 71 = .ok (.iconst 1, 1) := by decide +kernel
theorem dX10_place_72 : decode cX10_place 72 = .ok (.ireturn, 1) := by decide +kernel
theorem dX10_range_0 : decode cX10_range 0 = .ok (.aload_n 0, 1) := by decide +kernel
theorem dX10_range_1 : decode cX10_range 1 = .ok (.iconst 0, 1) := by decide +kernel
theorem dX10_range_2 : decode cX10_range 2 = .ok (.putfield 29, 3) := by decide +kernel
theorem dX10_range_5 : decode cX10_range 5 = .ok (.iload_n 1, 1) := by decide +kernel
theorem dX10_range_6 : decode cX10_range 6 = .ok (.bipush 16, 2) := by decide +kernel
theorem dX10_range_8 : decode cX10_range 8 = .ok (.iand, 1) := by decide +kernel
theorem dX10_range_9 : decode cX10_range 9 = .ok (.bipush 16, 2) := by decide +kernel
theorem dX10_range_11 : decode cX10_range 11 = .ok (.if_icmp .ne 19, 3) := by decide +kernel
theorem dX10_range_14 : decode cX10_range 14 = .ok (.iload_n 3, 1) := by decide +kernel
theorem dX10_range_15 : decode cX10_range 15 = .ok (.iconst 1, 1) := by decide +kernel
theorem dX10_range_16 : decode cX10_range 16 = .ok (.if_icmp .ne 10, 3) := by decide +kernel
theorem dX10_range_19 : decode cX10_range 19 = .ok (.iload 5, 2) := by decide +kernel
theorem dX10_range_21 : decode cX10_range 21 = .ok (.ldc 39, 2) := by decide +kernel
theorem dX10_range_23 : decode cX10_range 23 = .ok (.if_icmp .eq 7, 3) := by decide +kernel
theorem dX10_range_26 : decode cX10_range 26 = .ok (.iconst 1, 1) := by decide +kernel
theorem dX10_range_27 : decode cX10_range 27 = .ok (.goto 4, 3) := by decide +kernel
theorem dX10_range_30 : decode cX10_range 30 = .ok (.iconst 0, 1) := by decide +kernel
theorem dX10_range_31 : decode cX10_range 31 = .ok (.istore 7, 2) := by decide +kernel
theorem dX10_range_33 : decode cX10_range 33 = .ok (.iload_n 1, 1) := by decide +kernel
theorem dX10_range_34 : decode cX10_range 34 = .ok (.bipush 32, 2) := by decide +kernel
theorem dX10_range_36 : decode cX10_range 36 = .ok (.iand, 1) := by decide +kernel
theorem dX10_range_37 : decode cX10_range 37 = .ok (.bipush 32, 2) := by decide +kernel
theorem dX10_range_39 : decode cX10_range 39 = .ok (.if_icmp .ne 21, 3) := by decide +kernel
theorem dX10_range_42 : decode cX10_range 42 = .ok (.iload 4, 2) := by decide +kernel
theorem dX10_range_44 : decode cX10_range 44 = .ok (.iconst 1, 1) := by decide +kernel
theorem dX10_range_45 : decode cX10_range 45 = .ok (.if_icmp .ne 11, 3) := by decide +kernel
theorem dX10_range_48 : decode cX10_range 48 = .ok (.iload 6, 2) := by decide +kernel
theorem dX10_range_50 : decode cX10_range 50 = .ok (.sipush 16384, 3) := by decide +kernel
theorem dX10_range_53 : decode cX10_range 53 = .ok (.if_icmp .eq 7, 3) := by decide +kernel
theorem dX10_range_56 : decode cX10_range 56 = .ok (.iconst 1, 1) := by decide +kernel
theorem dX10_range_57 : decode cX10_range 57 = .ok (.goto 4, 3) := by decide +kernel
theorem dX10_range_60 : decode cX10_range 60 = .ok (.iconst 0, 1) := by decide +kernel
theorem dX10_range_61 : decode cX10_range 61 = .ok (.istore 8, 2) := by decide +kernel
theorem dX10_range_63 : decode cX10_range 63 = .ok (.iload_n 1, 1) := by decide +kernel
theorem dX10_range_64 : decode cX10_range 64 = .ok (.iconst 0, 1) := by decide +kernel
theorem dX10_range_65 : decode cX10_range 65 = .ok (.bipush 47, 2) := by decide +kernel
theorem dX10_range_67 : decode cX10_range 67 = .ok (.invokestatic 40, 3) := by decide +kernel
theorem dX10_range_70 : decode cX10_range 70 = .ok (.ifCond .eq 65, 3) := by decide +kernel
theorem dX10_range_73 : decode cX10_range 73 = .ok (.iload 7, 2) := by decide +kernel
theorem dX10_range_75 : decode cX10_range 75 = .ok (.ifCond .ne 60, 3) := by decide +kernel
theorem dX10_range_78 : decode cX10_range 78 = .ok (.iload 8, 2) := by decide +kernel
theorem dX10_range_80 : decode cX10_range 80 = .ok (.ifCond .ne 55, 3) := by decide +kernel
theorem dX10_range_83 : decode cX10_range 83 = .ok (.iload_n 2, 1) := by decide +kernel
theorem dX10_range_84 : decode cX10_range 84 = .ok (.iconst (-1), 1) := by decide +kernel
theorem dX10_range_85 : decode cX10_range 85 = .ok (.bipush 7, 2) := by decide +kernel
theorem dX10_range_87 : decode cX10_range 87 = .ok (.invokestatic 40, 3) := by decide +kernel
theorem dX10_range_90 : decode cX10_range 90 = .ok (.ifCond .eq 45, 3) := by decide +kernel
theorem dX10_range_93 : decode cX10_range 93 = .ok (.iload_n 3, 1) := by decide +kernel
theorem dX10_range_94 : decode cX10_range 94 = .ok (.iload 4, 2) := by decide +kernel
theorem dX10_range_96 : decode cX10_range 96 = .ok (.invokestatic 44, 3) := by decide +kernel
theorem dX10_range_99 : decode cX10_range 99 = .ok (.ifCond .eq 36, 3) := by decide +kernel
theorem dX10_range_102 : decode cX10_range 102 = .ok (.iload 5, 2) := by decide +kernel
theorem dX10_range_104 : decode cX10_range 104 = .ok (.iload 6, 2) := by decide +kernel
theorem dX10_range_106 : decode cX10_range 106 = .ok (.invokestatic 44, 3) := by decide +kernel
theorem dX10_range_109 : decode cX10_range 109 = .ok (.ifCond .eq 26, 3) := by decide +kernel
theorem dX10_range_112 : decode cX10_range 112 = .ok (.iload 5, 2) := by decide +kernel
theorem dX10_range_114 : decode cX10_range 114 = .ok (.iload_n 3, 1) := by decide +kernel
theorem dX10_range_115 : decode cX10_range 115 = .ok (.if_icmp .lt 20, 3) := by decide +kernel
theorem dX10_range_118 : decode cX10_range 118 = .ok (.iload 6, 2) := by decide +kernel
theorem dX10_range_120 : decode cX10_range 120 = .ok (.iload 4, 2) := by decide +kernel
theorem dX10_range_122 : decode cX10_range 122 = .ok (.if_icmp .lt 13, 3) := by decide +kernel
theorem dX10_range_125 : decode cX10_range 125 = .ok (.aload_n 0, 1) := by decide +kernel
theorem dX10_range_126 : decode cX10_range 126 = .ok (.getfield 32, 3) := by decide +kernel
theorem dX10_range_129 : decode cX10_range 129 = .ok (.sipush 994, 3) := by decide +kernel
theorem dX10_range_132 : decode cX10_range 132 = .ok (.if_icmp .le 5, 3) := by decide +kernel
theorem dX10_range_135 : decode cX10_range 135 = .ok (.iconst 0, 1) := by decide +kernel
theorem dX10_range_136 : decode cX10_range 136 = .ok (.ireturn, 1) := by decide +kernel
theorem dX10_range_137 : decode cX10_range 137 = .ok (.aload_n 0, 1) := by decide +kernel
theorem dX10_range_138 : decode cX10_range 138 = .ok (.iconst 5, 1) := by decide +kernel
theorem dX10_range_139 : decode cX10_range 139 = .ok (.bipush 16, 2) := by decide +kernel
theorem dX10_range_141 : decode cX10_range 141 = .ok (.iload_n 1, 1) := by decide +kernel
theorem dX10_range_142 : decode cX10_range 142 = .ok (.imul, 1) := by decide +kernel
theorem dX10_range_143 : decode cX10_range 143 = .ok (.iadd, 1) := by decide +kernel
theorem dX10_range_144 : decode cX10_range 144 = .ok (.invokevirtual 35, 3) := by decide +kernel
theorem dX10_range_147 : decode cX10_range 147 = .ok (.aload_n 0, 1) := by decide +kernel
theorem dX10_range_148 : decode cX10_range 148 = .ok (.iload_n 2, 1) := by decide +kernel
theorem dX10_range_149 : decode cX10_range 149 = .ok (.invokevirtual 35, 3) := by decide +kernel
theorem dX10_range_152 : decode cX10_range 152 = .ok (.aload_n 0, 1) := by decide +kernel
theorem dX10_range_153 : decode cX10_range 153 = .ok (.iload_n 3, 1) := by decide +kernel
theorem dX10_range_154 : decode cX10_range 154 = .ok (.invokevirtual 35, 3) := by decide +kernel
theorem dX10_range_157 : decode cX10_range 157 = .ok (.aload_n 0, 1) := by decide +kernel
theorem dX10_range_158 : decode cX10_range 158 = .ok (.iload 4, 2) := by decide +kernel
theorem dX10_range_160 : decode cX10_range 160 = .ok (.invokevirtual 35, 3) := by decide +kernel
theorem dX10_range_163 : decode cX10_range 163 = .ok (.aload_n 0, 1) := by decide +kernel
theorem dX10_range_164 : decode cX10_range 164 = .ok (.iload 5, 2) := by decide +kernel
theorem dX10_range_166 : decode cX10_range 166 = .ok (.invokevirtual 35, 3) := by decide +kernel
theorem dX10_range_169 : decode cX10_range 169 = .ok (.aload_n 0, 1) := by decide +kernel
theorem dX10_range_170 : decode cX10_range 170 = .ok (.iload 6, 2) := by decide +kernel
theorem dX10_range_172 : decode cX10_range 172 = .ok (.invokevirtual 35, 3) := by decide +kernel
theorem dX10_range_175 : decode cX10_range 175 = .ok (.iconst 1, 1) := by decide +kernel
theorem dX10_range_176 : decode cX10_range 176 = .ok (.ireturn, 1) := by decide +kernel
theorem dX10_size_0 : decode cX10_size 0 = .ok (.aload_n 0, 1) := by decide +kernel
theorem dX10_size_1 : decode cX10_size 1 = .ok (.iconst 0, 1) := by decide +kernel
theorem dX10_size_2 : decode cX10_size 2 = .ok (.putfield 29, 3) := by decide +kernel
theorem dX10_size_5 : decode cX10_size 5 = .ok (.aload_n 0, 1) := by decide +kernel
theorem dX10_size_6 : decode cX10_size 6 = .ok (.getfield 32, 3) := by decide +kernel
theorem dX10_size_9 : decode cX10_size 9 = .ok (.ireturn, 1) := by decide +kernel
theorem dX10_word_0 : decode cX10_word 0 = .ok (.aload_n 0, 1) := by decide +kernel
theorem dX10_word_1 : decode cX10_word 1 = .ok (.iconst 0, 1) := by decide +kernel
theorem dX10_word_2 : decode cX10_word 2 = .ok (.putfield 29, 3) := by decide +kernel
theorem dX10_word_5 : decode cX10_word 5 = .ok (.iload_n 1, 1) := by decide +kernel
theorem dX10_word_6 : decode cX10_word 6 = .ok (.ifCond .lt 20, 3) := by decide +kernel
theorem dX10_word_9 : decode cX10_word 9 = .ok (.iload_n 1, 1) := by decide +kernel
theorem dX10_word_10 : decode cX10_word 10 = .ok (.aload_n 0, 1) := by decide +kernel
theorem dX10_word_11 : decode cX10_word 11 = .ok (.getfield 32, 3) := by decide +kernel
theorem dX10_word_14 : decode cX10_word 14 = .ok (.if_icmp .ge 12, 3) := by decide +kernel
theorem dX10_word_17 : decode cX10_word 17 = .ok (.aload_n 0, 1) := by decide +kernel
theorem dX10_word_18 : decode cX10_word 18 = .ok (.getfield 7, 3) := by decide +kernel
theorem dX10_word_21 : decode cX10_word 21 = .ok (.iload_n 1, 1) := by decide +kernel
theorem dX10_word_22 : decode cX10_word 22 = .ok (.iaload, 1) := by decide +kernel
theorem dX10_word_23 : decode cX10_word 23 = .ok (.goto 4, 3) := by decide +kernel
theorem dX10_word_26 : decode cX10_word 26 = .ok (.iconst 0, 1) := by decide +kernel
theorem dX10_word_27 : decode cX10_word 27 = .ok (.ireturn, 1) := by decide +kernel
theorem dX10_make_0 : decode cX10_make 0 = .ok (.aload_n 0, 1) := by decide +kernel
theorem dX10_make_1 : decode cX10_make 1 = .ok (.getfield 13, 3) := by decide +kernel
theorem dX10_make_4 : decode cX10_make 4 = .ok (.aload_n 0, 1) := by decide +kernel
theorem dX10_make_5 : decode cX10_make 5 = .ok (.getfield 48, 3) := by decide +kernel
theorem dX10_make_8 : decode cX10_make 8 = .ok (.iload_n 1, 1) := by decide +kernel
theorem dX10_make_9 : decode cX10_make 9 = .ok (.iastore, 1) := by decide +kernel
theorem dX10_make_10 : decode cX10_make 10 = .ok (.aload_n 0, 1) := by decide +kernel
theorem dX10_make_11 : decode cX10_make 11 = .ok (.dup, 1) := by decide +kernel
theorem dX10_make_12 : decode cX10_make 12 = .ok (.getfield 48, 3) := by decide +kernel
theorem dX10_make_15 : decode cX10_make 15 = .ok (.iconst 1, 1) := by decide +kernel
theorem dX10_make_16 : decode cX10_make 16 = .ok (.iadd, 1) := by decide +kernel
theorem dX10_make_17 : decode cX10_make 17 = .ok (.putfield 48, 3) := by decide +kernel
theorem dX10_make_20 : decode cX10_make 20 = .ok (.return_, 1) := by decide +kernel
theorem dX10_lengthAt_0 : decode cX10_lengthAt 0 = .ok (.aload_n 0, 1) := by decide +kernel
theorem dX10_lengthAt_1 : decode cX10_lengthAt 1 = .ok (.getfield 7, 3) := by decide +kernel
theorem dX10_lengthAt_4 : decode cX10_lengthAt 4 = .ok (.iload_n 1, 1) := by decide +kernel
theorem dX10_lengthAt_5 : decode cX10_lengthAt 5 = .ok (.iaload, 1) := by decide +kernel
theorem dX10_lengthAt_6 : decode cX10_lengthAt 6 = .ok (.ifCond .ge 7, 3) := by decide +kernel
theorem dX10_lengthAt_9 : decode cX10_lengthAt 9 = .ok (.iconst 1, 1) := by decide +kernel
theorem dX10_lengthAt_10 : decode cX10_lengthAt 10 = .ok (.goto 39, 3) := by decide +kernel
theorem dX10_lengthAt_13 : decode cX10_lengthAt 13 = .ok (.aload_n 0, 1) := by decide +kernel
theorem dX10_lengthAt_14 : decode cX10_lengthAt 14 = .ok (.getfield 7, 3) := by decide +kernel
theorem dX10_lengthAt_17 : decode cX10_lengthAt 17 = .ok (.iload_n 1, 1) := by decide +kernel
theorem dX10_lengthAt_18 : decode cX10_lengthAt 18 = .ok (.iaload, 1) := by decide +kernel
theorem dX10_lengthAt_19 : decode cX10_lengthAt 19 = .ok (.bipush 16, 2) := by decide +kernel
theorem dX10_lengthAt_21 : decode cX10_lengthAt 21 = .ok (.irem, 1) := by decide +kernel
theorem dX10_lengthAt_22 : decode cX10_lengthAt 22 = .ok (.iconst 4, 1) := by decide +kernel
theorem dX10_lengthAt_23 : decode cX10_lengthAt 23 = .ok (.if_icmp .ne 7, 3) := by decide +kernel
theorem dX10_lengthAt_26 : decode cX10_lengthAt 26 = .ok (.iconst 4, 1) := by decide +kernel
theorem dX10_lengthAt_27 : decode cX10_lengthAt 27 = .ok (.goto 22, 3) := by decide +kernel
theorem dX10_lengthAt_30 : decode cX10_lengthAt 30 = .ok (.aload_n 0, 1) := by decide +kernel
theorem dX10_lengthAt_31 : decode cX10_lengthAt 31 = .ok (.getfield 7, 3) := by decide +kernel
theorem dX10_lengthAt_34 : decode cX10_lengthAt 34 = .ok (.iload_n 1, 1) := by decide +kernel
theorem dX10_lengthAt_35 : decode cX10_lengthAt 35 = .ok (.iaload, 1) := by decide +kernel
theorem dX10_lengthAt_36 : decode cX10_lengthAt 36 = .ok (.bipush 16, 2) := by decide +kernel
theorem dX10_lengthAt_38 : decode cX10_lengthAt 38 = .ok (.irem, 1) := by decide +kernel
theorem dX10_lengthAt_39 : decode cX10_lengthAt 39 = .ok (.iconst 5, 1) := by decide +kernel
theorem dX10_lengthAt_40 : decode cX10_lengthAt 40 = .ok (.if_icmp .ne 8, 3) := by decide +kernel
theorem dX10_lengthAt_43 : decode cX10_lengthAt 43 = .ok (.bipush 6, 2) := by decide +kernel
theorem dX10_lengthAt_45 : decode cX10_lengthAt 45 = .ok (.goto 4, 3) := by decide +kernel
theorem dX10_lengthAt_48 : decode cX10_lengthAt 48 = .ok (.iconst 1, 1) := by decide +kernel
theorem dX10_lengthAt_49 : decode cX10_lengthAt 49 = .ok (.ireturn, 1) := by decide +kernel
theorem dX10_lose_0 : decode cX10_lose 0 = .ok (.aload_n 0, 1) := by decide +kernel
theorem dX10_lose_1 : decode cX10_lose 1 = .ok (.bipush 67, 2) := by decide +kernel
theorem dX10_lose_3 : decode cX10_lose 3 = .ok (.invokevirtual 51, 3) := by decide +kernel
theorem dX10_lose_6 : decode cX10_lose 6 = .ok (.aload_n 0, 1) := by decide +kernel
theorem dX10_lose_7 : decode cX10_lose 7 = .ok (.dup, 1) := by decide +kernel
theorem dX10_lose_8 : decode cX10_lose 8 = .ok (.getfield 54, 3) := by decide +kernel
theorem dX10_lose_11 : decode cX10_lose 11 = .ok (.iconst 1, 1) := by decide +kernel
theorem dX10_lose_12 : decode cX10_lose 12 = .ok (.iadd, 1) := by decide +kernel
theorem dX10_lose_13 : decode cX10_lose 13 = .ok (.putfield 54, 3) := by decide +kernel
theorem dX10_lose_16 : decode cX10_lose 16 = .ok (.return_, 1) := by decide +kernel
theorem dX10_makePlace_0 : decode cX10_makePlace 0 = .ok (.aload_n 0, 1) := by decide +kernel
theorem dX10_makePlace_1 : decode cX10_makePlace 1 = .ok (.dup, 1) := by decide +kernel
theorem dX10_makePlace_2 : decode cX10_makePlace 2 = .ok (.getfield 54, 3) := by decide +kernel
theorem dX10_makePlace_5 : decode cX10_makePlace 5 = .ok (.iload_n 2, 1) := by decide +kernel
theorem dX10_makePlace_6 : decode cX10_makePlace 6 = .ok (.aload_n 0, 1) := by decide +kernel
theorem dX10_makePlace_7 : decode cX10_makePlace 7 = .ok (.getfield 7, 3) := by decide +kernel
theorem dX10_makePlace_10 : decode cX10_makePlace 10 = .ok (.iload_n 1, 1) := by decide +kernel
theorem dX10_makePlace_11 : decode cX10_makePlace 11 = .ok (.iconst 1, 1) := by decide +kernel
theorem dX10_makePlace_12 : decode cX10_makePlace 12 = .ok (.iadd, 1) := by decide +kernel
theorem dX10_makePlace_13 : decode cX10_makePlace 13 = .ok (.iaload, 1) := by decide +kernel
theorem dX10_makePlace_14 : decode cX10_makePlace 14 = .ok (.if_icmp .ne 28, 3) := by decide +kernel
theorem dX10_makePlace_17 : decode cX10_makePlace 17 = .ok (.iload_n 3, 1) := by decide +kernel
theorem dX10_makePlace_18 : decode cX10_makePlace 18 = .ok (.aload_n 0, 1) := by decide +kernel
theorem dX10_makePlace_19 : decode cX10_makePlace 19 = .ok (.getfield 7, 3) := by decide +kernel
theorem dX10_makePlace_22 : decode cX10_makePlace 22 = .ok (.iload_n 1, 1) := by decide +kernel
theorem dX10_makePlace_23 : decode cX10_makePlace 23 = .ok (.iconst 2, 1) := by decide +kernel
theorem dX10_makePlace_24 : decode cX10_makePlace 24 = .ok (.iadd, 1) := by decide +kernel
theorem dX10_makePlace_25 : decode cX10_makePlace 25 = .ok (.iaload, 1) := by decide +kernel
theorem dX10_makePlace_26 : decode cX10_makePlace 26 = .ok (.if_icmp .ne 16, 3) := by decide +kernel
theorem dX10_makePlace_29 : decode cX10_makePlace 29 = .ok (.iload 4, 2) := by decide +kernel
theorem dX10_makePlace_31 : decode cX10_makePlace 31 = .ok (.aload_n 0, 1) := by decide +kernel
theorem dX10_makePlace_32 : decode cX10_makePlace 32 = .ok (.getfield 7, 3) := by decide +kernel
theorem dX10_makePlace_35 : decode cX10_makePlace 35 = .ok (.iload_n 1, 1) := by decide +kernel
theorem dX10_makePlace_36 : decode cX10_makePlace 36 = .ok (.iconst 3, 1) := by decide +kernel
theorem dX10_makePlace_37 : decode cX10_makePlace 37 = .ok (.iadd, 1) := by decide +kernel
theorem dX10_makePlace_38 : decode cX10_makePlace 38 = .ok (.iaload, 1) := by decide +kernel
theorem dX10_makePlace_39 : decode cX10_makePlace 39 = .ok (.if_icmp .eq 7, 3) := by decide +kernel
theorem dX10_makePlace_42 : decode cX10_makePlace 42 = .ok (.iconst 1, 1) := by decide +kernel
theorem dX10_makePlace_43 : decode cX10_makePlace 43 = .ok (.goto 4, 3) := by decide +kernel
theorem dX10_makePlace_46 : decode cX10_makePlace 46 = .ok (.iconst 0, 1) := by decide +kernel
theorem dX10_makePlace_47 : decode cX10_makePlace 47 = .ok (.iadd, 1) := by decide +kernel
theorem dX10_makePlace_48 : decode cX10_makePlace 48 = .ok (.putfield 54, 3) := by decide +kernel
theorem dX10_makePlace_51 : decode cX10_makePlace 51 = .ok (.aload_n 0, 1) := by decide +kernel
theorem dX10_makePlace_52 : decode cX10_makePlace 52 = .ok (.aload_n 0, 1) := by decide +kernel
theorem dX10_makePlace_53 : decode cX10_makePlace 53 = .ok (.getfield 7, 3) := by decide +kernel
theorem dX10_makePlace_56 : decode cX10_makePlace 56 = .ok (.iload_n 1, 1) := by decide +kernel
theorem dX10_makePlace_57 : decode cX10_makePlace 57 = .ok (.iaload, 1) := by decide +kernel
theorem dX10_makePlace_58 : decode cX10_makePlace 58 = .ok (.invokevirtual 51, 3) := by decide +kernel
theorem dX10_makePlace_61 : decode cX10_makePlace 61 = .ok (.aload_n 0, 1) := by decide +kernel
theorem dX10_makePlace_62 : decode cX10_makePlace 62 = .ok (.iload_n 2, 1) := by decide +kernel
theorem dX10_makePlace_63 : decode cX10_makePlace 63 = .ok (.invokevirtual 51, 3) := by decide +kernel
theorem dX10_makePlace_66 : decode cX10_makePlace 66 = .ok (.aload_n 0, 1) := by decide +kernel
theorem dX10_makePlace_67 : decode cX10_makePlace 67 = .ok (.iload_n 3, 1) := by decide +kernel
theorem dX10_makePlace_68 : decode cX10_makePlace 68 = .ok (.invokevirtual 51, 3) := by decide +kernel
theorem dX10_makePlace_71 : decode cX10_makePlace 71 = .ok (.aload_n 0, 1) := by decide +kernel
theorem dX10_makePlace_72 : decode cX10_makePlace 72 = .ok (.iload 4, 2) := by decide +kernel
theorem dX10_makePlace_74 : decode cX10_makePlace 74 = .ok (.invokevirtual 51, 3) := by decide +kernel
theorem dX10_makePlace_77 : decode cX10_makePlace 77 = .ok (.return_, 1) := by decide +kernel
theorem dX10_makeRange_0 : decode cX10_makeRange 0 = .ok (.iconst 5, 1) := by decide +kernel
theorem dX10_makeRange_1 : decode cX10_makeRange 1 = .ok (.bipush 16, 2) := by decide +kernel
theorem dX10_makeRange_3 : decode cX10_makeRange 3 = .ok (.iload_n 2, 1) := by decide +kernel
theorem dX10_makeRange_4 : decode cX10_makeRange 4 = .ok (.imul, 1) := by decide +kernel
theorem dX10_makeRange_5 : decode cX10_makeRange 5 = .ok (.iadd, 1) := by decide +kernel
theorem dX10_makeRange_6 : decode cX10_makeRange 6 = .ok (.istore 8, 2) := by decide +kernel
theorem dX10_makeRange_8 : decode cX10_makeRange 8 = .ok (.aload_n 0, 1) := by decide +kernel
theorem dX10_makeRange_9 : decode cX10_makeRange 9 = .ok (.dup, 1) := by decide +kernel
theorem dX10_makeRange_10 : decode cX10_makeRange 10 = .ok (.getfield 54, 3) := by decide +kernel
theorem dX10_makeRange_13 : decode cX10_makeRange 13 = .ok (.iload 8, 2) := by decide +kernel
theorem dX10_makeRange_15 : decode cX10_makeRange 15 = .ok (.aload_n 0, 1) := by decide +kernel
theorem dX10_makeRange_16 : decode cX10_makeRange 16 = .ok (.getfield 7, 3) := by decide +kernel
theorem dX10_makeRange_19 : decode cX10_makeRange 19 = .ok (.iload_n 1, 1) := by decide +kernel
theorem dX10_makeRange_20 : decode cX10_makeRange 20 = .ok (.iaload, 1) := by decide +kernel
theorem dX10_makeRange_21 : decode cX10_makeRange 21 = .ok (.if_icmp .ne 67, 3) := by decide +kernel
theorem dX10_makeRange_24 : decode cX10_makeRange 24 = .ok (.iload_n 3, 1) := by decide +kernel
theorem dX10_makeRange_25 : decode cX10_makeRange 25 = .ok (.aload_n 0, 1) := by decide +kernel
theorem dX10_makeRange_26 : decode cX10_makeRange 26 = .ok (.getfield 7, 3) := by decide +kernel
theorem dX10_makeRange_29 : decode cX10_makeRange 29 = .ok (.iload_n 1, 1) := by decide +kernel
theorem dX10_makeRange_30 : decode cX10_makeRange 30 = .ok (.iconst 1, 1) := by decide +kernel
theorem dX10_makeRange_31 : decode cX10_makeRange 31 = .ok (.iadd, 1) := by decide +kernel
theorem dX10_makeRange_32 : decode cX10_makeRange 32 = .ok (.iaload, 1) := by decide +kernel
theorem dX10_makeRange_33 : decode cX10_makeRange 33 = .ok (.if_icmp .ne 55, 3) := by decide +kernel
theorem dX10_makeRange_36 : decode cX10_makeRange 36 = .ok (.iload 4, 2) := by decide +kernel
theorem dX10_makeRange_38 : decode cX10_makeRange 38 = .ok (.aload_n 0, 1) := by decide +kernel
theorem dX10_makeRange_39 : decode cX10_makeRange 39 = .ok (.getfield 7, 3) := by decide +kernel
theorem dX10_makeRange_42 : decode cX10_makeRange 42 = .ok (.iload_n 1, 1) := by decide +kernel
theorem dX10_makeRange_43 : decode cX10_makeRange 43 = .ok (.iconst 2, 1) := by decide +kernel
theorem dX10_makeRange_44 : decode cX10_makeRange 44 = .ok (.iadd, 1) := by decide +kernel
theorem dX10_makeRange_45 : decode cX10_makeRange 45 = .ok (.iaload, 1) := by decide +kernel
theorem dX10_makeRange_46 : decode cX10_makeRange 46 = .ok (.if_icmp .ne 42, 3) := by decide +kernel
theorem dX10_makeRange_49 : decode cX10_makeRange 49 = .ok (.iload 5, 2) := by decide +kernel
theorem dX10_makeRange_51 : decode cX10_makeRange 51 = .ok (.aload_n 0, 1) := by decide +kernel
theorem dX10_makeRange_52 : decode cX10_makeRange 52 = .ok (.getfield 7, 3) := by decide +kernel
theorem dX10_makeRange_55 : decode cX10_makeRange 55 = .ok (.iload_n 1, 1) := by decide +kernel
theorem dX10_makeRange_56 : decode cX10_makeRange 56 = .ok (.iconst 3, 1) := by decide +kernel
theorem dX10_makeRange_57 : decode cX10_makeRange 57 = .ok (.iadd, 1) := by decide +kernel
theorem dX10_makeRange_58 : decode cX10_makeRange 58 = .ok (.iaload, 1) := by decide +kernel
theorem dX10_makeRange_59 : decode cX10_makeRange 59 = .ok (.if_icmp .ne 29, 3) := by decide +kernel
theorem dX10_makeRange_62 : decode cX10_makeRange 62 = .ok (.iload 6, 2) := by decide +kernel
theorem dX10_makeRange_64 : decode cX10_makeRange 64 = .ok (.aload_n 0, 1) := by decide +kernel
theorem dX10_makeRange_65 : decode cX10_makeRange 65 = .ok (.getfield 7, 3) := by decide +kernel
theorem dX10_makeRange_68 : decode cX10_makeRange 68 = .ok (.iload_n 1, 1) := by decide +kernel
theorem dX10_makeRange_69 : decode cX10_makeRange 69 = .ok (.iconst 4, 1) := by decide +kernel
theorem dX10_makeRange_70 : decode cX10_makeRange 70 = .ok (.iadd, 1) := by decide +kernel
theorem dX10_makeRange_71 : decode cX10_makeRange 71 = .ok (.iaload, 1) := by decide +kernel
theorem dX10_makeRange_72 : decode cX10_makeRange 72 = .ok (.if_icmp .ne 16, 3) := by decide +kernel
theorem dX10_makeRange_75 : decode cX10_makeRange 75 = .ok (.iload 7, 2) := by decide +kernel
theorem dX10_makeRange_77 : decode cX10_makeRange 77 = .ok (.aload_n 0, 1) := by decide +kernel
theorem dX10_makeRange_78 : decode cX10_makeRange 78 = .ok (.getfield 7, 3) := by decide +kernel
theorem dX10_makeRange_81 : decode cX10_makeRange 81 = .ok (.iload_n 1, 1) := by decide +kernel
theorem dX10_makeRange_82 : decode cX10_makeRange 82 = .ok (.iconst 5, 1) := by decide +kernel
theorem dX10_makeRange_83 : decode cX10_makeRange 83 = .ok (.iadd, 1) := by decide +kernel
theorem dX10_makeRange_84 : decode cX10_makeRange 84 = .ok (.iaload, 1) := by decide +kernel
theorem dX10_makeRange_85 : decode cX10_makeRange 85 = .ok (.if_icmp .eq 7, 3) := by decide +kernel
theorem dX10_makeRange_88 : decode cX10_makeRange 88 = .ok (.iconst 1, 1) := by decide +kernel
theorem dX10_makeRange_89 : decode cX10_makeRange 89 = .ok (.goto 4, 3) := by decide +kernel
theorem dX10_makeRange_92 : decode cX10_makeRange 92 = .ok (.iconst 0, 1) := by decide +kernel
theorem dX10_makeRange_93 : decode cX10_makeRange 93 = .ok (.iadd, 1) := by decide +kernel
theorem dX10_makeRange_94 : decode cX10_makeRange 94 = .ok (.putfield 54, 3) := by decide +kernel
theorem dX10_makeRange_97 : decode cX10_makeRange 97 = .ok (.aload_n 0, 1) := by decide +kernel
theorem dX10_makeRange_98 : decode cX10_makeRange 98 = .ok (.iload 8, 2) := by decide +kernel
theorem dX10_makeRange_100 : decode cX10_makeRange 100 = .ok (.invokevirtual 51, 3) := by decide +kernel
theorem dX10_makeRange_103 : decode cX10_makeRange 103 = .ok (.aload_n 0, 1) := by decide +kernel
theorem dX10_makeRange_104 : decode cX10_makeRange 104 = .ok (.iload_n 3, 1) := by decide +kernel
theorem dX10_makeRange_105 : decode cX10_makeRange 105 = .ok (.invokevirtual 51, 3) := by decide +kernel
theorem dX10_makeRange_108 : decode cX10_makeRange 108 = .ok (.aload_n 0, 1) := by decide +kernel
theorem dX10_makeRange_109 : decode cX10_makeRange 109 = .ok (.iload 4, 2) := by decide +kernel
theorem dX10_makeRange_111 : decode cX10_makeRange 111 = .ok (.invokevirtual 51, 3) := by decide +kernel
theorem dX10_makeRange_114 : decode cX10_makeRange 114 = .ok (.aload_n 0, 1) := by decide +kernel
theorem dX10_makeRange_115 : decode cX10_makeRange 115 = .ok (.iload 5, 2) := by decide +kernel
theorem dX10_makeRange_117 : decode cX10_makeRange 117 = .ok (.invokevirtual 51, 3) := by decide +kernel
theorem dX10_makeRange_120 : decode cX10_makeRange 120 = .ok (.aload_n 0, 1) := by decide +kernel
theorem dX10_makeRange_121 : decode cX10_makeRange 121 = .ok (.iload 6, 2) := by decide +kernel
theorem dX10_makeRange_123 : decode cX10_makeRange 123 = .ok (.invokevirtual 51, 3) := by decide +kernel
theorem dX10_makeRange_126 : decode cX10_makeRange 126 = .ok (.aload_n 0, 1) := by decide +kernel
theorem dX10_makeRange_127 : decode cX10_makeRange 127 = .ok (.iload 7, 2) := by decide +kernel
theorem dX10_makeRange_129 : decode cX10_makeRange 129 = .ok (.invokevirtual 51, 3) := by decide +kernel
theorem dX10_makeRange_132 : decode cX10_makeRange 132 = .ok (.return_, 1) := by decide +kernel
theorem dX10_finish_0 : decode cX10_finish 0 = .ok (.iconst 0, 1) := by decide +kernel
theorem dX10_finish_1 : decode cX10_finish 1 = .ok (.istore_n 1, 1) := by decide +kernel
theorem dX10_finish_2 : decode cX10_finish 2 = .ok (.iload_n 1, 1) := by decide +kernel
theorem dX10_finish_3 : decode cX10_finish 3 = .ok (.aload_n 0, 1) := by decide +kernel
theorem dX10_finish_4 : decode cX10_finish 4 = .ok (.getfield 48, 3) := by decide +kernel
theorem dX10_finish_7 : decode cX10_finish 7 = .ok (.if_icmp .ge 21, 3) := by decide +kernel
theorem dX10_finish_10 : decode cX10_finish 10 = .ok (.aload_n 0, 1) := by decide +kernel
theorem dX10_finish_11 : decode cX10_finish 11 = .ok (.getfield 7, 3) := by decide +kernel
theorem dX10_finish_14 : decode cX10_finish 14 = .ok (.iload_n 1, 1) := by decide +kernel
theorem dX10_finish_15 : decode cX10_finish 15 = .ok (.aload_n 0, 1) := by decide +kernel
theorem dX10_finish_16 : decode cX10_finish 16 = .ok (.getfield 13, 3) := by decide +kernel
theorem dX10_finish_19 : decode cX10_finish 19 = .ok (.iload_n 1, 1) := by decide +kernel
theorem dX10_finish_20 : decode cX10_finish 20 = .ok (.iaload, 1) := by decide +kernel
theorem dX10_finish_21 : decode cX10_finish 21 = .ok (.iastore, 1) := by decide +kernel
theorem dX10_finish_22 : decode cX10_finish 22 = .ok (.iinc 1 1, 3) := by decide +kernel
theorem dX10_finish_25 : decode cX10_finish 25 = .ok (.goto (-23), 3) := by decide +kernel
theorem dX10_finish_28 : decode cX10_finish 28 = .ok (.aload_n 0, 1) := by decide +kernel
theorem dX10_finish_29 : decode cX10_finish 29 = .ok (.aload_n 0, 1) := by decide +kernel
theorem dX10_finish_30 : decode cX10_finish 30 = .ok (.getfield 48, 3) := by decide +kernel
theorem dX10_finish_33 : decode cX10_finish 33 = .ok (.putfield 32, 3) := by decide +kernel
theorem dX10_finish_36 : decode cX10_finish 36 = .ok (.aload_n 0, 1) := by decide +kernel
theorem dX10_finish_37 : decode cX10_finish 37 = .ok (.getfield 54, 3) := by decide +kernel
theorem dX10_finish_40 : decode cX10_finish 40 = .ok (.ireturn, 1) := by decide +kernel
theorem dX10_begin_0 : decode cX10_begin 0 = .ok (.aload_n 0, 1) := by decide +kernel
theorem dX10_begin_1 : decode cX10_begin 1 = .ok (.iconst 0, 1) := by decide +kernel
theorem dX10_begin_2 : decode cX10_begin 2 = .ok (.putfield 48, 3) := by decide +kernel
theorem dX10_begin_5 : decode cX10_begin 5 = .ok (.aload_n 0, 1) := by decide +kernel
theorem dX10_begin_6 : decode cX10_begin 6 = .ok (.iconst 0, 1) := by decide +kernel
theorem dX10_begin_7 : decode cX10_begin 7 = .ok (.putfield 54, 3) := by decide +kernel
theorem dX10_begin_10 : decode cX10_begin 10 = .ok (.return_, 1) := by decide +kernel
theorem dX10_moved_0 : decode cX10_moved 0 = .ok (.iload_n 1, 1) := by decide +kernel
theorem dX10_moved_1 : decode cX10_moved 1 = .ok (.ifCond .eq 7, 3) := by decide +kernel
theorem dX10_moved_4 : decode cX10_moved 4 = .ok (.iload_n 0, 1) := by decide +kernel
theorem dX10_moved_5 : decode cX10_moved 5 = .ok (.goto 21, 3) := by decide +kernel
theorem dX10_moved_8 : decode cX10_moved 8 = .ok (.iload_n 0, 1) := by decide +kernel
theorem dX10_moved_9 : decode cX10_moved 9 = .ok (.iload_n 2, 1) := by decide +kernel
theorem dX10_moved_10 : decode cX10_moved 10 = .ok (.iadd, 1) := by decide +kernel
theorem dX10_moved_11 : decode cX10_moved 11 = .ok (.iconst 1, 1) := by decide +kernel
theorem dX10_moved_12 : decode cX10_moved 12 = .ok (.iload_n 3, 1) := by decide +kernel
theorem dX10_moved_13 : decode cX10_moved 13 = .ok (.invokestatic 40, 3) := by decide +kernel
theorem dX10_moved_16 : decode cX10_moved 16 = .ok (.ifCond .eq 9, 3) := by decide +kernel
theorem dX10_moved_19 : decode cX10_moved 19 = .ok (.iload_n 0, 1) := by decide +kernel
theorem dX10_moved_20 : decode cX10_moved 20 = .ok (.iload_n 2, 1) := by decide +kernel
theorem dX10_moved_21 : decode cX10_moved 21 = .ok (.iadd, 1) := by decide +kernel
theorem dX10_moved_22 : decode cX10_moved 22 = .ok (.goto 4, 3) := by decide +kernel
theorem dX10_moved_25 : decode cX10_moved 25 = .ok (.iconst 0, 1) := by decide +kernel
theorem dX10_moved_26 : decode cX10_moved 26 = .ok (.ireturn, 1) := by decide +kernel
theorem dX10_copyRange_0 : decode cX10_copyRange 0 = .ok (.aload_n 0, 1) := by decide +kernel
theorem dX10_copyRange_1 : decode cX10_copyRange 1 = .ok (.getfield 7, 3) := by decide +kernel
theorem dX10_copyRange_4 : decode cX10_copyRange 4 = .ok (.iload_n 1, 1) := by decide +kernel
theorem dX10_copyRange_5 : decode cX10_copyRange 5 = .ok (.iaload, 1) := by decide +kernel
theorem dX10_copyRange_6 : decode cX10_copyRange 6 = .ok (.bipush 16, 2) := by decide +kernel
theorem dX10_copyRange_8 : decode cX10_copyRange 8 = .ok (.idiv, 1) := by decide +kernel
theorem dX10_copyRange_9 : decode cX10_copyRange 9 = .ok (.istore 4, 2) := by decide +kernel
theorem dX10_copyRange_11 : decode cX10_copyRange 11 = .ok (.iload 4, 2) := by decide +kernel
theorem dX10_copyRange_13 : decode cX10_copyRange 13 = .ok (.bipush 32, 2) := by decide +kernel
theorem dX10_copyRange_15 : decode cX10_copyRange 15 = .ok (.idiv, 1) := by decide +kernel
theorem dX10_copyRange_16 : decode cX10_copyRange 16 = .ok (.iconst 2, 1) := by decide +kernel
theorem dX10_copyRange_17 : decode cX10_copyRange 17 = .ok (.irem, 1) := by decide +kernel
theorem dX10_copyRange_18 : decode cX10_copyRange 18 = .ok (.iconst 1, 1) := by decide +kernel
theorem dX10_copyRange_19 : decode cX10_copyRange 19 = .ok (.if_icmp .ne 7, 3) := by decide +kernel
theorem dX10_copyRange_22 : decode cX10_copyRange 22 = .ok (.iconst 1, 1) := by decide +kernel
theorem dX10_copyRange_23 : decode cX10_copyRange 23 = .ok (.goto 4, 3) := by decide +kernel
theorem dX10_copyRange_26 : decode cX10_copyRange 26 = .ok (.iconst 0, 1) := by decide +kernel
theorem dX10_copyRange_27 : decode cX10_copyRange 27 = .ok (.istore 5, 2) := by decide +kernel
theorem dX10_copyRange_29 : decode cX10_copyRange 29 = .ok (.iload 4, 2) := by decide +kernel
theorem dX10_copyRange_31 : decode cX10_copyRange 31 = .ok (.bipush 16, 2) := by decide +kernel
theorem dX10_copyRange_33 : decode cX10_copyRange 33 = .ok (.idiv, 1) := by decide +kernel
theorem dX10_copyRange_34 : decode cX10_copyRange 34 = .ok (.iconst 2, 1) := by decide +kernel
theorem dX10_copyRange_35 : decode cX10_copyRange 35 = .ok (.irem, 1) := by decide +kernel
theorem dX10_copyRange_36 : decode cX10_copyRange 36 = .ok (.iconst 1, 1) := by decide +kernel
theorem dX10_copyRange_37 : decode cX10_copyRange 37 = .ok (.if_icmp .ne 7, 3) := by decide +kernel
theorem dX10_copyRange_40 : decode cX10_copyRange 40 = .ok (.iconst 1, 1) := by decide +kernel
theorem dX10_copyRange_41 : decode cX10_copyRange 41 = .ok (.goto 4, 3) := by decide +kernel
theorem dX10_copyRange_44 : decode cX10_copyRange 44 = .ok (.iconst 0, 1) := by decide +kernel
theorem dX10_copyRange_45 : decode cX10_copyRange 45 = .ok (.istore 6, 2) := by decide +kernel
theorem dX10_copyRange_47 : decode cX10_copyRange 47 = .ok (.aload_n 0, 1) := by decide +kernel
theorem dX10_copyRange_48 : decode cX10_copyRange 48 = .ok (.getfield 7, 3) := by decide +kernel
theorem dX10_copyRange_51 : decode cX10_copyRange 51 = .ok (.iload_n 1, 1) := by decide +kernel
theorem dX10_copyRange_52 : decode cX10_copyRange 52 = .ok (.iconst 2, 1) := by decide +kernel
theorem dX10_copyRange_53 : decode cX10_copyRange 53 = .ok (.iadd, 1) := by decide +kernel
theorem dX10_copyRange_54 : decode cX10_copyRange 54 = .ok (.iaload, 1) := by decide +kernel
theorem dX10_copyRange_55 : decode cX10_copyRange 55 = .ok (.iload 6, 2) := by decide +kernel
theorem dX10_copyRange_57 : decode cX10_copyRange 57 = .ok (.ifCond .ne 10, 3) := by decide +kernel
theorem dX10_copyRange_60 : decode cX10_copyRange 60 = .ok (.iload 4, 2) := by decide +kernel
theorem dX10_copyRange_62 : decode cX10_copyRange 62 = .ok (.iconst 2, 1) := by decide +kernel
theorem dX10_copyRange_63 : decode cX10_copyRange 63 = .ok (.iand, 1) := by decide +kernel
theorem dX10_copyRange_64 : decode cX10_copyRange 64 = .ok (.ifCond .le 7, 3) := by decide +kernel
theorem dX10_copyRange_67 : decode cX10_copyRange 67 = .ok (.iconst 1, 1) := by decide +kernel
theorem dX10_copyRange_68 : decode cX10_copyRange 68 = .ok (.goto 4, 3) := by decide +kernel
theorem dX10_copyRange_71 : decode cX10_copyRange 71 = .ok (.iconst 0, 1) := by decide +kernel
theorem dX10_copyRange_72 : decode cX10_copyRange 72 = .ok (.iload_n 2, 1) := by decide +kernel
theorem dX10_copyRange_73 : decode cX10_copyRange 73 = .ok (.ldc 39, 2) := by decide +kernel
theorem dX10_copyRange_75 : decode cX10_copyRange 75 = .ok (.invokestatic 57, 3) := by decide +kernel
theorem dX10_copyRange_78 : decode cX10_copyRange 78 = .ok (.istore 7, 2) := by decide +kernel
theorem dX10_copyRange_80 : decode cX10_copyRange 80 = .ok (.aload_n 0, 1) := by decide +kernel
theorem dX10_copyRange_81 : decode cX10_copyRange 81 = .ok (.getfield 7, 3) := by decide +kernel
theorem dX10_copyRange_84 : decode cX10_copyRange 84 = .ok (.iload_n 1, 1) := by decide +kernel
theorem dX10_copyRange_85 : decode cX10_copyRange 85 = .ok (.iconst 4, 1) := by decide +kernel
theorem dX10_copyRange_86 : decode cX10_copyRange 86 = .ok (.iadd, 1) := by decide +kernel
theorem dX10_copyRange_87 : decode cX10_copyRange 87 = .ok (.iaload, 1) := by decide +kernel
theorem dX10_copyRange_88 : decode cX10_copyRange 88 = .ok (.iload 6, 2) := by decide +kernel
theorem dX10_copyRange_90 : decode cX10_copyRange 90 = .ok (.ifCond .ne 11, 3) := by decide +kernel
theorem dX10_copyRange_93 : decode cX10_copyRange 93 = .ok (.iload 4, 2) := by decide +kernel
theorem dX10_copyRange_95 : decode cX10_copyRange 95 = .ok (.bipush 8, 2) := by decide +kernel
theorem dX10_copyRange_97 : decode cX10_copyRange 97 = .ok (.iand, 1) := by decide +kernel
theorem dX10_copyRange_98 : decode cX10_copyRange 98 = .ok (.ifCond .le 7, 3) := by decide +kernel
theorem dX10_copyRange_101 : decode cX10_copyRange 101 = .ok (.iconst 1, 1) := by decide +kernel
theorem dX10_copyRange_102 : decode cX10_copyRange 102 = .ok (.goto 4, 3) := by decide +kernel
theorem dX10_copyRange_105 : decode cX10_copyRange 105 = .ok (.iconst 0, 1) := by decide +kernel
theorem dX10_copyRange_106 : decode cX10_copyRange 106 = .ok (.iload_n 2, 1) := by decide +kernel
theorem dX10_copyRange_107 : decode cX10_copyRange 107 = .ok (.ldc 39, 2) := by decide +kernel
theorem dX10_copyRange_109 : decode cX10_copyRange 109 = .ok (.invokestatic 57, 3) := by decide +kernel
theorem dX10_copyRange_112 : decode cX10_copyRange 112 = .ok (.istore 8, 2) := by decide +kernel
theorem dX10_copyRange_114 : decode cX10_copyRange 114 = .ok (.aload_n 0, 1) := by decide +kernel
theorem dX10_copyRange_115 : decode cX10_copyRange 115 = .ok (.getfield 7, 3) := by decide +kernel
theorem dX10_copyRange_118 : decode cX10_copyRange 118 = .ok (.iload_n 1, 1) := by decide +kernel
theorem dX10_copyRange_119 : decode cX10_copyRange 119 = .ok (.iconst 3, 1) := by decide +kernel
theorem dX10_copyRange_120 : decode cX10_copyRange 120 = .ok (.iadd, 1) := by decide +kernel
theorem dX10_copyRange_121 : decode cX10_copyRange 121 = .ok (.iaload, 1) := by decide +kernel
theorem dX10_copyRange_122 : decode cX10_copyRange 122 = .ok (.iload 5, 2) := by decide +kernel
theorem dX10_copyRange_124 : decode cX10_copyRange 124 = .ok (.ifCond .ne 10, 3) := by decide +kernel
theorem dX10_copyRange_127 : decode cX10_copyRange 127 = .ok (.iload 4, 2) := by decide +kernel
theorem dX10_copyRange_129 : decode cX10_copyRange 129 = .ok (.iconst 1, 1) := by decide +kernel
theorem dX10_copyRange_130 : decode cX10_copyRange 130 = .ok (.iand, 1) := by decide +kernel
theorem dX10_copyRange_131 : decode cX10_copyRange 131 = .ok (.ifCond .le 7, 3) := by decide +kernel
theorem dX10_copyRange_134 : decode cX10_copyRange 134 = .ok (.iconst 1, 1) := by decide +kernel
theorem dX10_copyRange_135 : decode cX10_copyRange 135 = .ok (.goto 4, 3) := by decide +kernel
theorem dX10_copyRange_138 : decode cX10_copyRange 138 = .ok (.iconst 0, 1) := by decide +kernel
theorem dX10_copyRange_139 : decode cX10_copyRange 139 = .ok (.iload_n 3, 1) := by decide +kernel
theorem dX10_copyRange_140 : decode cX10_copyRange 140 = .ok (.sipush 16384, 3) := by decide +kernel
theorem dX10_copyRange_143 : decode cX10_copyRange 143 = .ok (.invokestatic 57, 3) := by decide +kernel
theorem dX10_copyRange_146 : decode cX10_copyRange 146 = .ok (.istore 9, 2) := by decide +kernel
theorem dX10_copyRange_148 : decode cX10_copyRange 148 = .ok (.aload_n 0, 1) := by decide +kernel
theorem dX10_copyRange_149 : decode cX10_copyRange 149 = .ok (.getfield 7, 3) := by decide +kernel
theorem dX10_copyRange_152 : decode cX10_copyRange 152 = .ok (.iload_n 1, 1) := by decide +kernel
theorem dX10_copyRange_153 : decode cX10_copyRange 153 = .ok (.iconst 5, 1) := by decide +kernel
theorem dX10_copyRange_154 : decode cX10_copyRange 154 = .ok (.iadd, 1) := by decide +kernel
theorem dX10_copyRange_155 : decode cX10_copyRange 155 = .ok (.iaload, 1) := by decide +kernel
theorem dX10_copyRange_156 : decode cX10_copyRange 156 = .ok (.iload 5, 2) := by decide +kernel
theorem dX10_copyRange_158 : decode cX10_copyRange 158 = .ok (.ifCond .ne 10, 3) := by decide +kernel
theorem dX10_copyRange_161 : decode cX10_copyRange 161 = .ok (.iload 4, 2) := by decide +kernel
theorem dX10_copyRange_163 : decode cX10_copyRange 163 = .ok (.iconst 4, 1) := by decide +kernel
theorem dX10_copyRange_164 : decode cX10_copyRange 164 = .ok (.iand, 1) := by decide +kernel
theorem dX10_copyRange_165 : decode cX10_copyRange 165 = .ok (.ifCond .le 7, 3) := by decide +kernel
theorem dX10_copyRange_168 : decode cX10_copyRange 168 = .ok (.iconst 1, 1) := by decide +kernel
theorem dX10_copyRange_169 : decode cX10_copyRange 169 = .ok (.goto 4, 3) := by decide +kernel
theorem dX10_copyRange_172 : decode cX10_copyRange 172 = .ok (.iconst 0, 1) := by decide +kernel
theorem dX10_copyRange_173 : decode cX10_copyRange 173 = .ok (.iload_n 3, 1) := by decide +kernel
theorem dX10_copyRange_174 : decode cX10_copyRange 174 = .ok (.sipush 16384, 3) := by decide +kernel
theorem dX10_copyRange_177 : decode cX10_copyRange 177 = .ok (.invokestatic 57, 3) := by decide +kernel
theorem dX10_copyRange_180 : decode cX10_copyRange 180 = .ok (.istore 10, 2) := by decide +kernel
theorem dX10_copyRange_182 : decode cX10_copyRange 182 = .ok (.iload 7, 2) := by decide +kernel
theorem dX10_copyRange_184 : decode cX10_copyRange 184 = .ok (.ifCond .eq 18, 3) := by decide +kernel
theorem dX10_copyRange_187 : decode cX10_copyRange 187 = .ok (.iload 8, 2) := by decide +kernel
theorem dX10_copyRange_189 : decode cX10_copyRange 189 = .ok (.ifCond .eq 13, 3) := by decide +kernel
theorem dX10_copyRange_192 : decode cX10_copyRange 192 = .ok (.iload 9, 2) := by decide +kernel
theorem dX10_copyRange_194 : decode cX10_copyRange 194 = .ok (.ifCond .eq 8, 3) := by decide +kernel
theorem dX10_copyRange_197 : decode cX10_copyRange 197 = .ok (.iload 10, 2) := by decide +kernel
theorem dX10_copyRange_199 : decode cX10_copyRange 199 = .ok (.ifCond .ne 8, 3) := by decide +kernel
theorem dX10_copyRange_202 : decode cX10_copyRange 202 = .ok (.aload_n 0, 1) := by decide +kernel
theorem dX10_copyRange_203 : decode cX10_copyRange 203 = .ok (.invokevirtual 61, 3) := by decide +kernel
theorem dX10_copyRange_206 : decode cX10_copyRange 206 = .ok (.return_, 1) := by decide +kernel
theorem dX10_copyRange_207 : decode cX10_copyRange 207 = .ok (.iload 4, 2) := by decide +kernel
theorem dX10_copyRange_209 : decode cX10_copyRange 209 = .ok (.bipush 48, 2) := by decide +kernel
theorem dX10_copyRange_211 : decode cX10_copyRange 211 = .ok (.iand, 1) := by decide +kernel
theorem dX10_copyRange_212 : decode cX10_copyRange 212 = .ok (.istore 11, 2) := by decide +kernel
theorem dX10_copyRange_214 : decode cX10_copyRange 214 = .ok (.iload 4, 2) := by decide +kernel
theorem dX10_copyRange_216 : decode cX10_copyRange 216 = .ok (.iconst 5, 1) := by decide +kernel
theorem dX10_copyRange_217 : decode cX10_copyRange 217 = .ok (.iand, 1) := by decide +kernel
theorem dX10_copyRange_218 : decode cX10_copyRange 218 = .ok (.istore 12, 2) := by decide +kernel
theorem dX10_copyRange_220 : decode cX10_copyRange 220 = .ok (.iload 4, 2) := by decide +kernel
theorem dX10_copyRange_222 : decode cX10_copyRange 222 = .ok (.bipush 10, 2) := by decide +kernel
theorem dX10_copyRange_224 : decode cX10_copyRange 224 = .ok (.iand, 1) := by decide +kernel
theorem dX10_copyRange_225 : decode cX10_copyRange 225 = .ok (.istore 13, 2) := by decide +kernel
theorem dX10_copyRange_227 : decode cX10_copyRange 227 = .ok (.iload 10, 2) := by decide +kernel
theorem dX10_copyRange_229 : decode cX10_copyRange 229 = .ok (.iload 9, 2) := by decide +kernel
theorem dX10_copyRange_231 : decode cX10_copyRange 231 = .ok (.if_icmp .ge 18, 3) := by decide +kernel
theorem dX10_copyRange_234 : decode cX10_copyRange 234 = .ok (.iload 4, 2) := by decide +kernel
theorem dX10_copyRange_236 : decode cX10_copyRange 236 = .ok (.iconst 1, 1) := by decide +kernel
theorem dX10_copyRange_237 : decode cX10_copyRange 237 = .ok (.iand, 1) := by decide +kernel
theorem dX10_copyRange_238 : decode cX10_copyRange 238 = .ok (.iconst 4, 1) := by decide +kernel
theorem dX10_copyRange_239 : decode cX10_copyRange 239 = .ok (.imul, 1) := by decide +kernel
theorem dX10_copyRange_240 : decode cX10_copyRange 240 = .ok (.iload 4, 2) := by decide +kernel
theorem dX10_copyRange_242 : decode cX10_copyRange 242 = .ok (.iconst 4, 1) := by decide +kernel
theorem dX10_copyRange_243 : decode cX10_copyRange 243 = .ok (.iand, 1) := by decide +kernel
theorem dX10_copyRange_244 : decode cX10_copyRange 244 = .ok (.iconst 4, 1) := by decide +kernel
theorem dX10_copyRange_245 : decode cX10_copyRange 245 = .ok (.idiv, 1) := by decide +kernel
theorem dX10_copyRange_246 : decode cX10_copyRange 246 = .ok (.iadd, 1) := by decide +kernel
theorem dX10_copyRange_247 : decode cX10_copyRange 247 = .ok (.istore 12, 2) := by decide +kernel
theorem dX10_copyRange_249 : decode cX10_copyRange 249 = .ok (.iload 8, 2) := by decide +kernel
theorem dX10_copyRange_251 : decode cX10_copyRange 251 = .ok (.iload 7, 2) := by decide +kernel
theorem dX10_copyRange_253 : decode cX10_copyRange 253 = .ok (.if_icmp .ge 19, 3) := by decide +kernel
theorem dX10_copyRange_256 : decode cX10_copyRange 256 = .ok (.iload 4, 2) := by decide +kernel
theorem dX10_copyRange_258 : decode cX10_copyRange 258 = .ok (.iconst 2, 1) := by decide +kernel
end
section
theorem dX10_copyRange_259 : decode cX10_copyRange 259 = .ok (.iand, 1) := by decide +kernel
theorem dX10_copyRange_260 : decode cX10_copyRange 260 = .ok (.iconst 4, 1) := by decide +kernel
theorem dX10_copyRange_261 : decode cX10_copyRange 261 = .ok (.imul, 1) := by decide +kernel
theorem dX10_copyRange_262 : decode cX10_copyRange 262 = .ok (.iload 4, 2) := by decide +kernel
theorem dX10_copyRange_264 : decode cX10_copyRange 264 = .ok (.bipush 8, 2) := by decide +kernel
theorem dX10_copyRange_266 : decode cX10_copyRange 266 = .ok (.iand, 1) := by decide +kernel
theorem dX10_copyRange_267 : decode cX10_copyRange 267 = .ok (.iconst 4, 1) := by decide +kernel
theorem dX10_copyRange_268 : decode cX10_copyRange 268 = .ok (.idiv, 1) := by decide +kernel
theorem dX10_copyRange_269 : decode cX10_copyRange 269 = .ok (.iadd, 1) := by decide +kernel
theorem dX10_copyRange_270 : decode cX10_copyRange 270 = .ok (.istore 13, 2) := by decide +kernel
theorem dX10_copyRange_272 : decode cX10_copyRange 272 = .ok (.aload_n 0, 1) := by decide +kernel
theorem dX10_copyRange_273 : decode cX10_copyRange 273 = .ok (.iload_n 1, 1) := by decide +kernel
theorem dX10_copyRange_274 : decode cX10_copyRange 274 = .ok (.iload 11, 2) := by decide +kernel
theorem dX10_copyRange_276 : decode cX10_copyRange 276 = .ok (.iload 12, 2) := by decide +kernel
theorem dX10_copyRange_278 : decode cX10_copyRange 278 = .ok (.iadd, 1) := by decide +kernel
theorem dX10_copyRange_279 : decode cX10_copyRange 279 = .ok (.iload 13, 2) := by decide +kernel
theorem dX10_copyRange_281 : decode cX10_copyRange 281 = .ok (.iadd, 1) := by decide +kernel
theorem dX10_copyRange_282 : decode cX10_copyRange 282 = .ok (.aload_n 0, 1) := by decide +kernel
theorem dX10_copyRange_283 : decode cX10_copyRange 283 = .ok (.getfield 7, 3) := by decide +kernel
theorem dX10_copyRange_286 : decode cX10_copyRange 286 = .ok (.iload_n 1, 1) := by decide +kernel
theorem dX10_copyRange_287 : decode cX10_copyRange 287 = .ok (.iconst 1, 1) := by decide +kernel
theorem dX10_copyRange_288 : decode cX10_copyRange 288 = .ok (.iadd, 1) := by decide +kernel
theorem dX10_copyRange_289 : decode cX10_copyRange 289 = .ok (.iaload, 1) := by decide +kernel
theorem dX10_copyRange_290 : decode cX10_copyRange 290 = .ok (.iload 8, 2) := by decide +kernel
theorem dX10_copyRange_292 : decode cX10_copyRange 292 = .ok (.iload 7, 2) := by decide +kernel
theorem dX10_copyRange_294 : decode cX10_copyRange 294 = .ok (.if_icmp .ge 8, 3) := by decide +kernel
theorem dX10_copyRange_297 : decode cX10_copyRange 297 = .ok (.iload 8, 2) := by decide +kernel
theorem dX10_copyRange_299 : decode cX10_copyRange 299 = .ok (.goto 5, 3) := by decide +kernel
theorem dX10_copyRange_302 : decode cX10_copyRange 302 = .ok (.iload 7, 2) := by decide +kernel
theorem dX10_copyRange_304 : decode cX10_copyRange 304 = .ok (.iload 10, 2) := by decide +kernel
theorem dX10_copyRange_306 : decode cX10_copyRange 306 = .ok (.iload 9, 2) := by decide +kernel
theorem dX10_copyRange_308 : decode cX10_copyRange 308 = .ok (.if_icmp .ge 8, 3) := by decide +kernel
theorem dX10_copyRange_311 : decode cX10_copyRange 311 = .ok (.iload 10, 2) := by decide +kernel
theorem dX10_copyRange_313 : decode cX10_copyRange 313 = .ok (.goto 5, 3) := by decide +kernel
theorem dX10_copyRange_316 : decode cX10_copyRange 316 = .ok (.iload 9, 2) := by decide +kernel
theorem dX10_copyRange_318 : decode cX10_copyRange 318 = .ok (.iload 8, 2) := by decide +kernel
theorem dX10_copyRange_320 : decode cX10_copyRange 320 = .ok (.iload 7, 2) := by decide +kernel
theorem dX10_copyRange_322 : decode cX10_copyRange 322 = .ok (.if_icmp .ge 8, 3) := by decide +kernel
theorem dX10_copyRange_325 : decode cX10_copyRange 325 = .ok (.iload 7, 2) := by decide +kernel
theorem dX10_copyRange_327 : decode cX10_copyRange 327 = .ok (.goto 5, 3) := by decide +kernel
theorem dX10_copyRange_330 : decode cX10_copyRange 330 = .ok (.iload 8, 2) := by decide +kernel
theorem dX10_copyRange_332 : decode cX10_copyRange 332 = .ok (.iload 10, 2) := by decide +kernel
theorem dX10_copyRange_334 : decode cX10_copyRange 334 = .ok (.iload 9, 2) := by decide +kernel
theorem dX10_copyRange_336 : decode cX10_copyRange 336 = .ok (.if_icmp .ge 8, 3) := by decide +kernel
theorem dX10_copyRange_339 : decode cX10_copyRange 339 = .ok (.iload 9, 2) := by decide +kernel
theorem dX10_copyRange_341 : decode cX10_copyRange 341 = .ok (.goto 5, 3) := by decide +kernel
theorem dX10_copyRange_344 : decode cX10_copyRange 344 = .ok (.iload 10, 2) := by decide +kernel
theorem dX10_copyRange_346 : decode cX10_copyRange 346 = .ok (.invokevirtual 64, 3) := by decide +kernel
theorem dX10_copyRange_349 : decode cX10_copyRange 349 = .ok (.return_, 1) := by decide +kernel
theorem dX10_copy_0 : decode cX10_copy 0 = .ok (.aload_n 0, 1) := by decide +kernel
theorem dX10_copy_1 : decode cX10_copy 1 = .ok (.iload_n 1, 1) := by decide +kernel
theorem dX10_copy_2 : decode cX10_copy 2 = .ok (.ldc 68, 2) := by decide +kernel
theorem dX10_copy_4 : decode cX10_copy 4 = .ok (.ldc 69, 2) := by decide +kernel
theorem dX10_copy_6 : decode cX10_copy 6 = .ok (.invokestatic 40, 3) := by decide +kernel
theorem dX10_copy_9 : decode cX10_copy 9 = .ok (.ifCond .eq 20, 3) := by decide +kernel
theorem dX10_copy_12 : decode cX10_copy 12 = .ok (.iload_n 2, 1) := by decide +kernel
theorem dX10_copy_13 : decode cX10_copy 13 = .ok (.sipush (-16383), 3) := by decide +kernel
theorem dX10_copy_16 : decode cX10_copy 16 = .ok (.sipush 16383, 3) := by decide +kernel
theorem dX10_copy_19 : decode cX10_copy 19 = .ok (.invokestatic 40, 3) := by decide +kernel
theorem dX10_copy_22 : decode cX10_copy 22 = .ok (.ifCond .eq 7, 3) := by decide +kernel
theorem dX10_copy_25 : decode cX10_copy 25 = .ok (.iconst 0, 1) := by decide +kernel
theorem dX10_copy_26 : decode cX10_copy 26 = .ok (.goto 4, 3) := by decide +kernel
theorem dX10_copy_29 : decode cX10_copy 29 = .ok (.iconst 1, 1) := by decide +kernel
theorem dX10_copy_30 : decode cX10_copy 30 = .ok (.putfield 29, 3) := by decide +kernel
theorem dX10_copy_33 : decode cX10_copy 33 = .ok (.aload_n 0, 1) := by decide +kernel
theorem dX10_copy_34 : decode cX10_copy 34 = .ok (.getfield 29, 3) := by decide +kernel
theorem dX10_copy_37 : decode cX10_copy 37 = .ok (.ifCond .eq 5, 3) := by decide +kernel
theorem dX10_copy_40 : decode cX10_copy 40 = .ok (.iconst 0, 1) := by decide +kernel
theorem dX10_copy_41 : decode cX10_copy 41 = .ok (.ireturn, 1) := by decide +kernel
theorem dX10_copy_42 : decode cX10_copy 42 = .ok (.aload_n 0, 1) := by decide +kernel
theorem dX10_copy_43 : decode cX10_copy 43 = .ok (.invokevirtual 70, 3) := by decide +kernel
theorem dX10_copy_46 : decode cX10_copy 46 = .ok (.iconst 0, 1) := by decide +kernel
theorem dX10_copy_47 : decode cX10_copy 47 = .ok (.istore_n 3, 1) := by decide +kernel
theorem dX10_copy_48 : decode cX10_copy 48 = .ok (.iload_n 3, 1) := by decide +kernel
theorem dX10_copy_49 : decode cX10_copy 49 = .ok (.aload_n 0, 1) := by decide +kernel
theorem dX10_copy_50 : decode cX10_copy 50 = .ok (.getfield 32, 3) := by decide +kernel
theorem dX10_copy_53 : decode cX10_copy 53 = .ok (.if_icmp .ge 182, 3) := by decide +kernel
theorem dX10_copy_56 : decode cX10_copy 56 = .ok (.aload_n 0, 1) := by decide +kernel
theorem dX10_copy_57 : decode cX10_copy 57 = .ok (.iload_n 3, 1) := by decide +kernel
theorem dX10_copy_58 : decode cX10_copy 58 = .ok (.invokevirtual 73, 3) := by decide +kernel
theorem dX10_copy_61 : decode cX10_copy 61 = .ok (.istore 4, 2) := by decide +kernel
theorem dX10_copy_63 : decode cX10_copy 63 = .ok (.iload 4, 2) := by decide +kernel
theorem dX10_copy_65 : decode cX10_copy 65 = .ok (.iconst 4, 1) := by decide +kernel
theorem dX10_copy_66 : decode cX10_copy 66 = .ok (.if_icmp .ne 39, 3) := by decide +kernel
theorem dX10_copy_69 : decode cX10_copy 69 = .ok (.aload_n 0, 1) := by decide +kernel
theorem dX10_copy_70 : decode cX10_copy 70 = .ok (.getfield 7, 3) := by decide +kernel
theorem dX10_copy_73 : decode cX10_copy 73 = .ok (.iload_n 3, 1) := by decide +kernel
theorem dX10_copy_74 : decode cX10_copy 74 = .ok (.iconst 2, 1) := by decide +kernel
theorem dX10_copy_75 : decode cX10_copy 75 = .ok (.iadd, 1) := by decide +kernel
theorem dX10_copy_76 : decode cX10_copy 76 = .ok (.iaload, 1) := by decide +kernel
theorem dX10_copy_77 : decode cX10_copy 77 = .ok (.aload_n 0, 1) := by decide +kernel
theorem dX10_copy_78 : decode cX10_copy 78 = .ok (.getfield 7, 3) := by decide +kernel
theorem dX10_copy_81 : decode cX10_copy 81 = .ok (.iload_n 3, 1) := by decide +kernel
theorem dX10_copy_82 : decode cX10_copy 82 = .ok (.iaload, 1) := by decide +kernel
theorem dX10_copy_83 : decode cX10_copy 83 = .ok (.bipush 16, 2) := by decide +kernel
theorem dX10_copy_85 : decode cX10_copy 85 = .ok (.idiv, 1) := by decide +kernel
theorem dX10_copy_86 : decode cX10_copy 86 = .ok (.iconst 2, 1) := by decide +kernel
theorem dX10_copy_87 : decode cX10_copy 87 = .ok (.iand, 1) := by decide +kernel
theorem dX10_copy_88 : decode cX10_copy 88 = .ok (.ifCond .le 7, 3) := by decide +kernel
theorem dX10_copy_91 : decode cX10_copy 91 = .ok (.iconst 1, 1) := by decide +kernel
theorem dX10_copy_92 : decode cX10_copy 92 = .ok (.goto 4, 3) := by decide +kernel
theorem dX10_copy_95 : decode cX10_copy 95 = .ok (.iconst 0, 1) := by decide +kernel
theorem dX10_copy_96 : decode cX10_copy 96 = .ok (.iload_n 1, 1) := by decide +kernel
theorem dX10_copy_97 : decode cX10_copy 97 = .ok (.ldc 39, 2) := by decide +kernel
theorem dX10_copy_99 : decode cX10_copy 99 = .ok (.invokestatic 57, 3) := by decide +kernel
theorem dX10_copy_102 : decode cX10_copy 102 = .ok (.goto 4, 3) := by decide +kernel
theorem dX10_copy_105 : decode cX10_copy 105 = .ok (.iconst 0, 1) := by decide +kernel
theorem dX10_copy_106 : decode cX10_copy 106 = .ok (.istore 5, 2) := by decide +kernel
theorem dX10_copy_108 : decode cX10_copy 108 = .ok (.iload 4, 2) := by decide +kernel
theorem dX10_copy_110 : decode cX10_copy 110 = .ok (.iconst 4, 1) := by decide +kernel
theorem dX10_copy_111 : decode cX10_copy 111 = .ok (.if_icmp .ne 40, 3) := by decide +kernel
theorem dX10_copy_114 : decode cX10_copy 114 = .ok (.aload_n 0, 1) := by decide +kernel
theorem dX10_copy_115 : decode cX10_copy 115 = .ok (.getfield 7, 3) := by decide +kernel
theorem dX10_copy_118 : decode cX10_copy 118 = .ok (.iload_n 3, 1) := by decide +kernel
theorem dX10_copy_119 : decode cX10_copy 119 = .ok (.iconst 3, 1) := by decide +kernel
theorem dX10_copy_120 : decode cX10_copy 120 = .ok (.iadd, 1) := by decide +kernel
theorem dX10_copy_121 : decode cX10_copy 121 = .ok (.iaload, 1) := by decide +kernel
theorem dX10_copy_122 : decode cX10_copy 122 = .ok (.aload_n 0, 1) := by decide +kernel
theorem dX10_copy_123 : decode cX10_copy 123 = .ok (.getfield 7, 3) := by decide +kernel
theorem dX10_copy_126 : decode cX10_copy 126 = .ok (.iload_n 3, 1) := by decide +kernel
theorem dX10_copy_127 : decode cX10_copy 127 = .ok (.iaload, 1) := by decide +kernel
theorem dX10_copy_128 : decode cX10_copy 128 = .ok (.bipush 16, 2) := by decide +kernel
theorem dX10_copy_130 : decode cX10_copy 130 = .ok (.idiv, 1) := by decide +kernel
theorem dX10_copy_131 : decode cX10_copy 131 = .ok (.iconst 1, 1) := by decide +kernel
theorem dX10_copy_132 : decode cX10_copy 132 = .ok (.iand, 1) := by decide +kernel
theorem dX10_copy_133 : decode cX10_copy 133 = .ok (.ifCond .le 7, 3) := by decide +kernel
theorem dX10_copy_136 : decode cX10_copy 136 = .ok (.iconst 1, 1) := by decide +kernel
theorem dX10_copy_137 : decode cX10_copy 137 = .ok (.goto 4, 3) := by decide +kernel
theorem dX10_copy_140 : decode cX10_copy 140 = .ok (.iconst 0, 1) := by decide +kernel
theorem dX10_copy_141 : decode cX10_copy 141 = .ok (.iload_n 2, 1) := by decide +kernel
theorem dX10_copy_142 : decode cX10_copy 142 = .ok (.sipush 16384, 3) := by decide +kernel
theorem dX10_copy_145 : decode cX10_copy 145 = .ok (.invokestatic 57, 3) := by decide +kernel
theorem dX10_copy_148 : decode cX10_copy 148 = .ok (.goto 4, 3) := by decide +kernel
theorem dX10_copy_151 : decode cX10_copy 151 = .ok (.iconst 0, 1) := by decide +kernel
theorem dX10_copy_152 : decode cX10_copy 152 = .ok (.istore 6, 2) := by decide +kernel
theorem dX10_copy_154 : decode cX10_copy 154 = .ok (.iload 4, 2) := by decide +kernel
theorem dX10_copy_156 : decode cX10_copy 156 = .ok (.iconst 1, 1) := by decide +kernel
theorem dX10_copy_157 : decode cX10_copy 157 = .ok (.if_icmp .ne 16, 3) := by decide +kernel
theorem dX10_copy_160 : decode cX10_copy 160 = .ok (.aload_n 0, 1) := by decide +kernel
theorem dX10_copy_161 : decode cX10_copy 161 = .ok (.aload_n 0, 1) := by decide +kernel
theorem dX10_copy_162 : decode cX10_copy 162 = .ok (.getfield 7, 3) := by decide +kernel
theorem dX10_copy_165 : decode cX10_copy 165 = .ok (.iload_n 3, 1) := by decide +kernel
theorem dX10_copy_166 : decode cX10_copy 166 = .ok (.iaload, 1) := by decide +kernel
theorem dX10_copy_167 : decode cX10_copy 167 = .ok (.invokevirtual 51, 3) := by decide +kernel
theorem dX10_copy_170 : decode cX10_copy 170 = .ok (.goto 54, 3) := by decide +kernel
theorem dX10_copy_173 : decode cX10_copy 173 = .ok (.iload 4, 2) := by decide +kernel
theorem dX10_copy_175 : decode cX10_copy 175 = .ok (.bipush 6, 2) := by decide +kernel
theorem dX10_copy_177 : decode cX10_copy 177 = .ok (.if_icmp .ne 13, 3) := by decide +kernel
theorem dX10_copy_180 : decode cX10_copy 180 = .ok (.aload_n 0, 1) := by decide +kernel
theorem dX10_copy_181 : decode cX10_copy 181 = .ok (.iload_n 3, 1) := by decide +kernel
theorem dX10_copy_182 : decode cX10_copy 182 = .ok (.iload_n 1, 1) := by decide +kernel
theorem dX10_copy_183 : decode cX10_copy 183 = .ok (.iload_n 2, 1) := by decide +kernel
theorem dX10_copy_184 : decode cX10_copy 184 = .ok (.invokevirtual 77, 3) := by decide +kernel
theorem dX10_copy_187 : decode cX10_copy 187 = .ok (.goto 37, 3) := by decide +kernel
theorem dX10_copy_190 : decode cX10_copy 190 = .ok (.iload 5, 2) := by decide +kernel
theorem dX10_copy_192 : decode cX10_copy 192 = .ok (.ifCond .eq 8, 3) := by decide +kernel
theorem dX10_copy_195 : decode cX10_copy 195 = .ok (.iload 6, 2) := by decide +kernel
theorem dX10_copy_197 : decode cX10_copy 197 = .ok (.ifCond .ne 10, 3) := by decide +kernel
theorem dX10_copy_200 : decode cX10_copy 200 = .ok (.aload_n 0, 1) := by decide +kernel
theorem dX10_copy_201 : decode cX10_copy 201 = .ok (.invokevirtual 61, 3) := by decide +kernel
theorem dX10_copy_204 : decode cX10_copy 204 = .ok (.goto 20, 3) := by decide +kernel
theorem dX10_copy_207 : decode cX10_copy 207 = .ok (.aload_n 0, 1) := by decide +kernel
theorem dX10_copy_208 : decode cX10_copy 208 = .ok (.iload_n 3, 1) := by decide +kernel
theorem dX10_copy_209 : decode cX10_copy 209 = .ok (.aload_n 0, 1) := by decide +kernel
theorem dX10_copy_210 : decode cX10_copy 210 = .ok (.getfield 7, 3) := by decide +kernel
theorem dX10_copy_213 : decode cX10_copy 213 = .ok (.iload_n 3, 1) := by decide +kernel
theorem dX10_copy_214 : decode cX10_copy 214 = .ok (.iconst 1, 1) := by decide +kernel
theorem dX10_copy_215 : decode cX10_copy 215 = .ok (.iadd, 1) := by decide +kernel
theorem dX10_copy_216 : decode cX10_copy 216 = .ok (.iaload, 1) := by decide +kernel
theorem dX10_copy_217 : decode cX10_copy 217 = .ok (.iload 5, 2) := by decide +kernel
theorem dX10_copy_219 : decode cX10_copy 219 = .ok (.iload 6, 2) := by decide +kernel
theorem dX10_copy_221 : decode cX10_copy 221 = .ok (.invokevirtual 81, 3) := by decide +kernel
theorem dX10_copy_224 : decode cX10_copy 224 = .ok (.iload_n 3, 1) := by decide +kernel
theorem dX10_copy_225 : decode cX10_copy 225 = .ok (.aload_n 0, 1) := by decide +kernel
theorem dX10_copy_226 : decode cX10_copy 226 = .ok (.iload_n 3, 1) := by decide +kernel
theorem dX10_copy_227 : decode cX10_copy 227 = .ok (.invokevirtual 73, 3) := by decide +kernel
theorem dX10_copy_230 : decode cX10_copy 230 = .ok (.iadd, 1) := by decide +kernel
theorem dX10_copy_231 : decode cX10_copy 231 = .ok (.istore_n 3, 1) := by decide +kernel
theorem dX10_copy_232 : decode cX10_copy 232 = .ok (.goto (-184), 3) := by decide +kernel
theorem dX10_copy_235 : decode cX10_copy 235 = .ok (.aload_n 0, 1) := by decide +kernel
theorem dX10_copy_236 : decode cX10_copy 236 = .ok (.invokevirtual 85, 3) := by decide +kernel
theorem dX10_copy_239 : decode cX10_copy 239 = .ok (.ireturn, 1) := by decide +kernel
theorem dX10_lines_0 : decode cX10_lines 0 = .ok (.iload_n 0, 1) := by decide +kernel
theorem dX10_lines_1 : decode cX10_lines 1 = .ok (.ifCond .eq 9, 3) := by decide +kernel
theorem dX10_lines_4 : decode cX10_lines 4 = .ok (.sipush 16384, 3) := by decide +kernel
theorem dX10_lines_7 : decode cX10_lines 7 = .ok (.goto 5, 3) := by decide +kernel
theorem dX10_lines_10 : decode cX10_lines 10 = .ok (.ldc 39, 2) := by decide +kernel
theorem dX10_lines_12 : decode cX10_lines 12 = .ok (.ireturn, 1) := by decide +kernel
theorem dX10_shifted_0 : decode cX10_shifted 0 = .ok (.iload_n 0, 1) := by decide +kernel
theorem dX10_shifted_1 : decode cX10_shifted 1 = .ok (.iload_n 2, 1) := by decide +kernel
theorem dX10_shifted_2 : decode cX10_shifted 2 = .ok (.if_icmp .ge 5, 3) := by decide +kernel
theorem dX10_shifted_5 : decode cX10_shifted 5 = .ok (.iload_n 0, 1) := by decide +kernel
theorem dX10_shifted_6 : decode cX10_shifted 6 = .ok (.ireturn, 1) := by decide +kernel
theorem dX10_shifted_7 : decode cX10_shifted 7 = .ok (.iload_n 3, 1) := by decide +kernel
theorem dX10_shifted_8 : decode cX10_shifted 8 = .ok (.ifCond .ge 12, 3) := by decide +kernel
theorem dX10_shifted_11 : decode cX10_shifted 11 = .ok (.iload_n 0, 1) := by decide +kernel
theorem dX10_shifted_12 : decode cX10_shifted 12 = .ok (.iload_n 2, 1) := by decide +kernel
theorem dX10_shifted_13 : decode cX10_shifted 13 = .ok (.iload_n 3, 1) := by decide +kernel
theorem dX10_shifted_14 : decode cX10_shifted 14 = .ok (.isub, 1) := by decide +kernel
theorem dX10_shifted_15 : decode cX10_shifted 15 = .ok (.if_icmp .ge 5, 3) := by decide +kernel
theorem dX10_shifted_18 : decode cX10_shifted 18 = .ok (.iconst 0, 1) := by decide +kernel
theorem dX10_shifted_19 : decode cX10_shifted 19 = .ok (.ireturn, 1) := by decide +kernel
theorem dX10_shifted_20 : decode cX10_shifted 20 = .ok (.iload_n 0, 1) := by decide +kernel
theorem dX10_shifted_21 : decode cX10_shifted 21 = .ok (.iload_n 3, 1) := by decide +kernel
theorem dX10_shifted_22 : decode cX10_shifted 22 = .ok (.iadd, 1) := by decide +kernel
theorem dX10_shifted_23 : decode cX10_shifted 23 = .ok (.iload_n 1, 1) := by decide +kernel
theorem dX10_shifted_24 : decode cX10_shifted 24 = .ok (.invokestatic 89, 3) := by decide +kernel
theorem dX10_shifted_27 : decode cX10_shifted 27 = .ok (.if_icmp .le 7, 3) := by decide +kernel
theorem dX10_shifted_30 : decode cX10_shifted 30 = .ok (.iconst 0, 1) := by decide +kernel
theorem dX10_shifted_31 : decode cX10_shifted 31 = .ok (.goto 6, 3) := by decide +kernel
theorem dX10_shifted_34 : decode cX10_shifted 34 = .ok (.iload_n 0, 1) := by decide +kernel
theorem dX10_shifted_35 : decode cX10_shifted 35 = .ok (.iload_n 3, 1) := by decide +kernel
theorem dX10_shifted_36 : decode cX10_shifted 36 = .ok (.iadd, 1) := by decide +kernel
theorem dX10_shifted_37 : decode cX10_shifted 37 = .ok (.ireturn, 1) := by decide +kernel
theorem dX10_firstLeft_0 : decode cX10_firstLeft 0 = .ok (.iload_n 0, 1) := by decide +kernel
theorem dX10_firstLeft_1 : decode cX10_firstLeft 1 = .ok (.iload_n 2, 1) := by decide +kernel
theorem dX10_firstLeft_2 : decode cX10_firstLeft 2 = .ok (.iload_n 3, 1) := by decide +kernel
theorem dX10_firstLeft_3 : decode cX10_firstLeft 3 = .ok (.iload 4, 2) := by decide +kernel
theorem dX10_firstLeft_5 : decode cX10_firstLeft 5 = .ok (.invokestatic 93, 3) := by decide +kernel
theorem dX10_firstLeft_8 : decode cX10_firstLeft 8 = .ok (.istore 5, 2) := by decide +kernel
theorem dX10_firstLeft_10 : decode cX10_firstLeft 10 = .ok (.iload 5, 2) := by decide +kernel
theorem dX10_firstLeft_12 : decode cX10_firstLeft 12 = .ok (.ifCond .gt 8, 3) := by decide +kernel
theorem dX10_firstLeft_15 : decode cX10_firstLeft 15 = .ok (.iload 4, 2) := by decide +kernel
theorem dX10_firstLeft_17 : decode cX10_firstLeft 17 = .ok (.ifCond .le 6, 3) := by decide +kernel
theorem dX10_firstLeft_20 : decode cX10_firstLeft 20 = .ok (.iload 5, 2) := by decide +kernel
theorem dX10_firstLeft_22 : decode cX10_firstLeft 22 = .ok (.ireturn, 1) := by decide +kernel
theorem dX10_firstLeft_23 : decode cX10_firstLeft 23 = .ok (.iload_n 3, 1) := by decide +kernel
theorem dX10_firstLeft_24 : decode cX10_firstLeft 24 = .ok (.iload 4, 2) := by decide +kernel
theorem dX10_firstLeft_26 : decode cX10_firstLeft 26 = .ok (.isub, 1) := by decide +kernel
theorem dX10_firstLeft_27 : decode cX10_firstLeft 27 = .ok (.iload_n 1, 1) := by decide +kernel
theorem dX10_firstLeft_28 : decode cX10_firstLeft 28 = .ok (.if_icmp .gt 7, 3) := by decide +kernel
theorem dX10_firstLeft_31 : decode cX10_firstLeft 31 = .ok (.iload_n 3, 1) := by decide +kernel
theorem dX10_firstLeft_32 : decode cX10_firstLeft 32 = .ok (.goto 4, 3) := by decide +kernel
theorem dX10_firstLeft_35 : decode cX10_firstLeft 35 = .ok (.iconst 0, 1) := by decide +kernel
theorem dX10_firstLeft_36 : decode cX10_firstLeft 36 = .ok (.ireturn, 1) := by decide +kernel
theorem dX10_lastLeft_0 : decode cX10_lastLeft 0 = .ok (.iload_n 1, 1) := by decide +kernel
theorem dX10_lastLeft_1 : decode cX10_lastLeft 1 = .ok (.iload_n 2, 1) := by decide +kernel
theorem dX10_lastLeft_2 : decode cX10_lastLeft 2 = .ok (.iload_n 3, 1) := by decide +kernel
theorem dX10_lastLeft_3 : decode cX10_lastLeft 3 = .ok (.iload 4, 2) := by decide +kernel
theorem dX10_lastLeft_5 : decode cX10_lastLeft 5 = .ok (.invokestatic 93, 3) := by decide +kernel
theorem dX10_lastLeft_8 : decode cX10_lastLeft 8 = .ok (.istore 5, 2) := by decide +kernel
theorem dX10_lastLeft_10 : decode cX10_lastLeft 10 = .ok (.iload 5, 2) := by decide +kernel
theorem dX10_lastLeft_12 : decode cX10_lastLeft 12 = .ok (.ifCond .le 6, 3) := by decide +kernel
theorem dX10_lastLeft_15 : decode cX10_lastLeft 15 = .ok (.iload 5, 2) := by decide +kernel
theorem dX10_lastLeft_17 : decode cX10_lastLeft 17 = .ok (.ireturn, 1) := by decide +kernel
theorem dX10_lastLeft_18 : decode cX10_lastLeft 18 = .ok (.iload 4, 2) := by decide +kernel
theorem dX10_lastLeft_20 : decode cX10_lastLeft 20 = .ok (.ifCond .le 8, 3) := by decide +kernel
theorem dX10_lastLeft_23 : decode cX10_lastLeft 23 = .ok (.iload_n 2, 1) := by decide +kernel
theorem dX10_lastLeft_24 : decode cX10_lastLeft 24 = .ok (.invokestatic 89, 3) := by decide +kernel
theorem dX10_lastLeft_27 : decode cX10_lastLeft 27 = .ok (.ireturn, 1) := by decide +kernel
theorem dX10_lastLeft_28 : decode cX10_lastLeft 28 = .ok (.iload_n 3, 1) := by decide +kernel
theorem dX10_lastLeft_29 : decode cX10_lastLeft 29 = .ok (.iload_n 0, 1) := by decide +kernel
theorem dX10_lastLeft_30 : decode cX10_lastLeft 30 = .ok (.if_icmp .le 9, 3) := by decide +kernel
theorem dX10_lastLeft_33 : decode cX10_lastLeft 33 = .ok (.iload_n 3, 1) := by decide +kernel
theorem dX10_lastLeft_34 : decode cX10_lastLeft 34 = .ok (.iconst 1, 1) := by decide +kernel
theorem dX10_lastLeft_35 : decode cX10_lastLeft 35 = .ok (.isub, 1) := by decide +kernel
theorem dX10_lastLeft_36 : decode cX10_lastLeft 36 = .ok (.goto 4, 3) := by decide +kernel
theorem dX10_lastLeft_39 : decode cX10_lastLeft 39 = .ok (.iconst 0, 1) := by decide +kernel
theorem dX10_lastLeft_40 : decode cX10_lastLeft 40 = .ok (.ireturn, 1) := by decide +kernel
theorem dX10_shiftRange_0 : decode cX10_shiftRange 0 = .ok (.iload_n 2, 1) := by decide +kernel
theorem dX10_shiftRange_1 : decode cX10_shiftRange 1 = .ok (.ifCond .eq 14, 3) := by decide +kernel
theorem dX10_shiftRange_4 : decode cX10_shiftRange 4 = .ok (.aload_n 0, 1) := by decide +kernel
theorem dX10_shiftRange_5 : decode cX10_shiftRange 5 = .ok (.getfield 7, 3) := by decide +kernel
theorem dX10_shiftRange_8 : decode cX10_shiftRange 8 = .ok (.iload_n 1, 1) := by decide +kernel
theorem dX10_shiftRange_9 : decode cX10_shiftRange 9 = .ok (.iconst 3, 1) := by decide +kernel
theorem dX10_shiftRange_10 : decode cX10_shiftRange 10 = .ok (.iadd, 1) := by decide +kernel
theorem dX10_shiftRange_11 : decode cX10_shiftRange 11 = .ok (.iaload, 1) := by decide +kernel
theorem dX10_shiftRange_12 : decode cX10_shiftRange 12 = .ok (.goto 11, 3) := by decide +kernel
theorem dX10_shiftRange_15 : decode cX10_shiftRange 15 = .ok (.aload_n 0, 1) := by decide +kernel
theorem dX10_shiftRange_16 : decode cX10_shiftRange 16 = .ok (.getfield 7, 3) := by decide +kernel
theorem dX10_shiftRange_19 : decode cX10_shiftRange 19 = .ok (.iload_n 1, 1) := by decide +kernel
theorem dX10_shiftRange_20 : decode cX10_shiftRange 20 = .ok (.iconst 2, 1) := by decide +kernel
theorem dX10_shiftRange_21 : decode cX10_shiftRange 21 = .ok (.iadd, 1) := by decide +kernel
theorem dX10_shiftRange_22 : decode cX10_shiftRange 22 = .ok (.iaload, 1) := by decide +kernel
theorem dX10_shiftRange_23 : decode cX10_shiftRange 23 = .ok (.istore 5, 2) := by decide +kernel
theorem dX10_shiftRange_25 : decode cX10_shiftRange 25 = .ok (.iload_n 2, 1) := by decide +kernel
theorem dX10_shiftRange_26 : decode cX10_shiftRange 26 = .ok (.ifCond .eq 14, 3) := by decide +kernel
theorem dX10_shiftRange_29 : decode cX10_shiftRange 29 = .ok (.aload_n 0, 1) := by decide +kernel
theorem dX10_shiftRange_30 : decode cX10_shiftRange 30 = .ok (.getfield 7, 3) := by decide +kernel
theorem dX10_shiftRange_33 : decode cX10_shiftRange 33 = .ok (.iload_n 1, 1) := by decide +kernel
theorem dX10_shiftRange_34 : decode cX10_shiftRange 34 = .ok (.iconst 5, 1) := by decide +kernel
theorem dX10_shiftRange_35 : decode cX10_shiftRange 35 = .ok (.iadd, 1) := by decide +kernel
theorem dX10_shiftRange_36 : decode cX10_shiftRange 36 = .ok (.iaload, 1) := by decide +kernel
theorem dX10_shiftRange_37 : decode cX10_shiftRange 37 = .ok (.goto 11, 3) := by decide +kernel
theorem dX10_shiftRange_40 : decode cX10_shiftRange 40 = .ok (.aload_n 0, 1) := by decide +kernel
theorem dX10_shiftRange_41 : decode cX10_shiftRange 41 = .ok (.getfield 7, 3) := by decide +kernel
theorem dX10_shiftRange_44 : decode cX10_shiftRange 44 = .ok (.iload_n 1, 1) := by decide +kernel
theorem dX10_shiftRange_45 : decode cX10_shiftRange 45 = .ok (.iconst 4, 1) := by decide +kernel
theorem dX10_shiftRange_46 : decode cX10_shiftRange 46 = .ok (.iadd, 1) := by decide +kernel
theorem dX10_shiftRange_47 : decode cX10_shiftRange 47 = .ok (.iaload, 1) := by decide +kernel
theorem dX10_shiftRange_48 : decode cX10_shiftRange 48 = .ok (.istore 6, 2) := by decide +kernel
theorem dX10_shiftRange_50 : decode cX10_shiftRange 50 = .ok (.iload 5, 2) := by decide +kernel
theorem dX10_shiftRange_52 : decode cX10_shiftRange 52 = .ok (.iconst 1, 1) := by decide +kernel
theorem dX10_shiftRange_53 : decode cX10_shiftRange 53 = .ok (.if_icmp .ne 16, 3) := by decide +kernel
theorem dX10_shiftRange_56 : decode cX10_shiftRange 56 = .ok (.iload 6, 2) := by decide +kernel
theorem dX10_shiftRange_58 : decode cX10_shiftRange 58 = .ok (.iload_n 2, 1) := by decide +kernel
theorem dX10_shiftRange_59 : decode cX10_shiftRange 59 = .ok (.invokestatic 89, 3) := by decide +kernel
theorem dX10_shiftRange_62 : decode cX10_shiftRange 62 = .ok (.if_icmp .ne 7, 3) := by decide +kernel
theorem dX10_shiftRange_65 : decode cX10_shiftRange 65 = .ok (.iconst 1, 1) := by decide +kernel
theorem dX10_shiftRange_66 : decode cX10_shiftRange 66 = .ok (.goto 4, 3) := by decide +kernel
theorem dX10_shiftRange_69 : decode cX10_shiftRange 69 = .ok (.iconst 0, 1) := by decide +kernel
theorem dX10_shiftRange_70 : decode cX10_shiftRange 70 = .ok (.istore 7, 2) := by decide +kernel
theorem dX10_shiftRange_72 : decode cX10_shiftRange 72 = .ok (.iload 7, 2) := by decide +kernel
theorem dX10_shiftRange_74 : decode cX10_shiftRange 74 = .ok (.ifCond .eq 8, 3) := by decide +kernel
theorem dX10_shiftRange_77 : decode cX10_shiftRange 77 = .ok (.iload 5, 2) := by decide +kernel
theorem dX10_shiftRange_79 : decode cX10_shiftRange 79 = .ok (.goto 14, 3) := by decide +kernel
theorem dX10_shiftRange_82 : decode cX10_shiftRange 82 = .ok (.iload 5, 2) := by decide +kernel
theorem dX10_shiftRange_84 : decode cX10_shiftRange 84 = .ok (.iload 6, 2) := by decide +kernel
theorem dX10_shiftRange_86 : decode cX10_shiftRange 86 = .ok (.iload_n 2, 1) := by decide +kernel
theorem dX10_shiftRange_87 : decode cX10_shiftRange 87 = .ok (.iload_n 3, 1) := by decide +kernel
theorem dX10_shiftRange_88 : decode cX10_shiftRange 88 = .ok (.iload 4, 2) := by decide +kernel
theorem dX10_shiftRange_90 : decode cX10_shiftRange 90 = .ok (.invokestatic 96, 3) := by decide +kernel
theorem dX10_shiftRange_93 : decode cX10_shiftRange 93 = .ok (.istore 8, 2) := by decide +kernel
theorem dX10_shiftRange_95 : decode cX10_shiftRange 95 = .ok (.iload 7, 2) := by decide +kernel
theorem dX10_shiftRange_97 : decode cX10_shiftRange 97 = .ok (.ifCond .eq 8, 3) := by decide +kernel
theorem dX10_shiftRange_100 : decode cX10_shiftRange 100 = .ok (.iload 6, 2) := by decide +kernel
theorem dX10_shiftRange_102 : decode cX10_shiftRange 102 = .ok (.goto 14, 3) := by decide +kernel
theorem dX10_shiftRange_105 : decode cX10_shiftRange 105 = .ok (.iload 5, 2) := by decide +kernel
theorem dX10_shiftRange_107 : decode cX10_shiftRange 107 = .ok (.iload 6, 2) := by decide +kernel
theorem dX10_shiftRange_109 : decode cX10_shiftRange 109 = .ok (.iload_n 2, 1) := by decide +kernel
theorem dX10_shiftRange_110 : decode cX10_shiftRange 110 = .ok (.iload_n 3, 1) := by decide +kernel
theorem dX10_shiftRange_111 : decode cX10_shiftRange 111 = .ok (.iload 4, 2) := by decide +kernel
theorem dX10_shiftRange_113 : decode cX10_shiftRange 113 = .ok (.invokestatic 100, 3) := by decide +kernel
theorem dX10_shiftRange_116 : decode cX10_shiftRange 116 = .ok (.istore 9, 2) := by decide +kernel
theorem dX10_shiftRange_118 : decode cX10_shiftRange 118 = .ok (.iload 8, 2) := by decide +kernel
theorem dX10_shiftRange_120 : decode cX10_shiftRange 120 = .ok (.ifCond .eq 8, 3) := by decide +kernel
theorem dX10_shiftRange_123 : decode cX10_shiftRange 123 = .ok (.iload 9, 2) := by decide +kernel
theorem dX10_shiftRange_125 : decode cX10_shiftRange 125 = .ok (.ifCond .ne 10, 3) := by decide +kernel
theorem dX10_shiftRange_128 : decode cX10_shiftRange 128 = .ok (.aload_n 0, 1) := by decide +kernel
theorem dX10_shiftRange_129 : decode cX10_shiftRange 129 = .ok (.invokevirtual 61, 3) := by decide +kernel
theorem dX10_shiftRange_132 : decode cX10_shiftRange 132 = .ok (.goto 94, 3) := by decide +kernel
theorem dX10_shiftRange_135 : decode cX10_shiftRange 135 = .ok (.iload_n 2, 1) := by decide +kernel
theorem dX10_shiftRange_136 : decode cX10_shiftRange 136 = .ok (.ifCond .eq 48, 3) := by decide +kernel
theorem dX10_shiftRange_139 : decode cX10_shiftRange 139 = .ok (.aload_n 0, 1) := by decide +kernel
theorem dX10_shiftRange_140 : decode cX10_shiftRange 140 = .ok (.iload_n 1, 1) := by decide +kernel
theorem dX10_shiftRange_141 : decode cX10_shiftRange 141 = .ok (.aload_n 0, 1) := by decide +kernel
theorem dX10_shiftRange_142 : decode cX10_shiftRange 142 = .ok (.getfield 7, 3) := by decide +kernel
theorem dX10_shiftRange_145 : decode cX10_shiftRange 145 = .ok (.iload_n 1, 1) := by decide +kernel
theorem dX10_shiftRange_146 : decode cX10_shiftRange 146 = .ok (.iaload, 1) := by decide +kernel
theorem dX10_shiftRange_147 : decode cX10_shiftRange 147 = .ok (.bipush 16, 2) := by decide +kernel
theorem dX10_shiftRange_149 : decode cX10_shiftRange 149 = .ok (.idiv, 1) := by decide +kernel
theorem dX10_shiftRange_150 : decode cX10_shiftRange 150 = .ok (.aload_n 0, 1) := by decide +kernel
theorem dX10_shiftRange_151 : decode cX10_shiftRange 151 = .ok (.getfield 7, 3) := by decide +kernel
theorem dX10_shiftRange_154 : decode cX10_shiftRange 154 = .ok (.iload_n 1, 1) := by decide +kernel
theorem dX10_shiftRange_155 : decode cX10_shiftRange 155 = .ok (.iconst 1, 1) := by decide +kernel
theorem dX10_shiftRange_156 : decode cX10_shiftRange 156 = .ok (.iadd, 1) := by decide +kernel
theorem dX10_shiftRange_157 : decode cX10_shiftRange 157 = .ok (.iaload, 1) := by decide +kernel
theorem dX10_shiftRange_158 : decode cX10_shiftRange 158 = .ok (.aload_n 0, 1) := by decide +kernel
theorem dX10_shiftRange_159 : decode cX10_shiftRange 159 = .ok (.getfield 7, 3) := by decide +kernel
theorem dX10_shiftRange_162 : decode cX10_shiftRange 162 = .ok (.iload_n 1, 1) := by decide +kernel
theorem dX10_shiftRange_163 : decode cX10_shiftRange 163 = .ok (.iconst 2, 1) := by decide +kernel
theorem dX10_shiftRange_164 : decode cX10_shiftRange 164 = .ok (.iadd, 1) := by decide +kernel
theorem dX10_shiftRange_165 : decode cX10_shiftRange 165 = .ok (.iaload, 1) := by decide +kernel
theorem dX10_shiftRange_166 : decode cX10_shiftRange 166 = .ok (.iload 8, 2) := by decide +kernel
theorem dX10_shiftRange_168 : decode cX10_shiftRange 168 = .ok (.aload_n 0, 1) := by decide +kernel
theorem dX10_shiftRange_169 : decode cX10_shiftRange 169 = .ok (.getfield 7, 3) := by decide +kernel
theorem dX10_shiftRange_172 : decode cX10_shiftRange 172 = .ok (.iload_n 1, 1) := by decide +kernel
theorem dX10_shiftRange_173 : decode cX10_shiftRange 173 = .ok (.iconst 4, 1) := by decide +kernel
theorem dX10_shiftRange_174 : decode cX10_shiftRange 174 = .ok (.iadd, 1) := by decide +kernel
theorem dX10_shiftRange_175 : decode cX10_shiftRange 175 = .ok (.iaload, 1) := by decide +kernel
theorem dX10_shiftRange_176 : decode cX10_shiftRange 176 = .ok (.iload 9, 2) := by decide +kernel
theorem dX10_shiftRange_178 : decode cX10_shiftRange 178 = .ok (.invokevirtual 64, 3) := by decide +kernel
theorem dX10_shiftRange_181 : decode cX10_shiftRange 181 = .ok (.goto 45, 3) := by decide +kernel
theorem dX10_shiftRange_184 : decode cX10_shiftRange 184 = .ok (.aload_n 0, 1) := by decide +kernel
theorem dX10_shiftRange_185 : decode cX10_shiftRange 185 = .ok (.iload_n 1, 1) := by decide +kernel
theorem dX10_shiftRange_186 : decode cX10_shiftRange 186 = .ok (.aload_n 0, 1) := by decide +kernel
theorem dX10_shiftRange_187 : decode cX10_shiftRange 187 = .ok (.getfield 7, 3) := by decide +kernel
theorem dX10_shiftRange_190 : decode cX10_shiftRange 190 = .ok (.iload_n 1, 1) := by decide +kernel
theorem dX10_shiftRange_191 : decode cX10_shiftRange 191 = .ok (.iaload, 1) := by decide +kernel
theorem dX10_shiftRange_192 : decode cX10_shiftRange 192 = .ok (.bipush 16, 2) := by decide +kernel
theorem dX10_shiftRange_194 : decode cX10_shiftRange 194 = .ok (.idiv, 1) := by decide +kernel
theorem dX10_shiftRange_195 : decode cX10_shiftRange 195 = .ok (.aload_n 0, 1) := by decide +kernel
theorem dX10_shiftRange_196 : decode cX10_shiftRange 196 = .ok (.getfield 7, 3) := by decide +kernel
theorem dX10_shiftRange_199 : decode cX10_shiftRange 199 = .ok (.iload_n 1, 1) := by decide +kernel
theorem dX10_shiftRange_200 : decode cX10_shiftRange 200 = .ok (.iconst 1, 1) := by decide +kernel
theorem dX10_shiftRange_201 : decode cX10_shiftRange 201 = .ok (.iadd, 1) := by decide +kernel
theorem dX10_shiftRange_202 : decode cX10_shiftRange 202 = .ok (.iaload, 1) := by decide +kernel
theorem dX10_shiftRange_203 : decode cX10_shiftRange 203 = .ok (.iload 8, 2) := by decide +kernel
theorem dX10_shiftRange_205 : decode cX10_shiftRange 205 = .ok (.aload_n 0, 1) := by decide +kernel
theorem dX10_shiftRange_206 : decode cX10_shiftRange 206 = .ok (.getfield 7, 3) := by decide +kernel
theorem dX10_shiftRange_209 : decode cX10_shiftRange 209 = .ok (.iload_n 1, 1) := by decide +kernel
theorem dX10_shiftRange_210 : decode cX10_shiftRange 210 = .ok (.iconst 3, 1) := by decide +kernel
theorem dX10_shiftRange_211 : decode cX10_shiftRange 211 = .ok (.iadd, 1) := by decide +kernel
theorem dX10_shiftRange_212 : decode cX10_shiftRange 212 = .ok (.iaload, 1) := by decide +kernel
theorem dX10_shiftRange_213 : decode cX10_shiftRange 213 = .ok (.iload 9, 2) := by decide +kernel
theorem dX10_shiftRange_215 : decode cX10_shiftRange 215 = .ok (.aload_n 0, 1) := by decide +kernel
theorem dX10_shiftRange_216 : decode cX10_shiftRange 216 = .ok (.getfield 7, 3) := by decide +kernel
theorem dX10_shiftRange_219 : decode cX10_shiftRange 219 = .ok (.iload_n 1, 1) := by decide +kernel
theorem dX10_shiftRange_220 : decode cX10_shiftRange 220 = .ok (.iconst 5, 1) := by decide +kernel
theorem dX10_shiftRange_221 : decode cX10_shiftRange 221 = .ok (.iadd, 1) := by decide +kernel
theorem dX10_shiftRange_222 : decode cX10_shiftRange 222 = .ok (.iaload, 1) := by decide +kernel
theorem dX10_shiftRange_223 : decode cX10_shiftRange 223 = .ok (.invokevirtual 64, 3) := by decide +kernel
theorem dX10_shiftRange_226 : decode cX10_shiftRange 226 = .ok (.return_, 1) := by decide +kernel
theorem dX10_shift_0 : decode cX10_shift 0 = .ok (.aload_n 0, 1) := by decide +kernel
theorem dX10_shift_1 : decode cX10_shift 1 = .ok (.invokevirtual 70, 3) := by decide +kernel
theorem dX10_shift_4 : decode cX10_shift 4 = .ok (.iconst 0, 1) := by decide +kernel
theorem dX10_shift_5 : decode cX10_shift 5 = .ok (.istore 6, 2) := by decide +kernel
theorem dX10_shift_7 : decode cX10_shift 7 = .ok (.iload 6, 2) := by decide +kernel
theorem dX10_shift_9 : decode cX10_shift 9 = .ok (.aload_n 0, 1) := by decide +kernel
theorem dX10_shift_10 : decode cX10_shift 10 = .ok (.getfield 32, 3) := by decide +kernel
theorem dX10_shift_13 : decode cX10_shift 13 = .ok (.if_icmp .ge 232, 3) := by decide +kernel
theorem dX10_shift_16 : decode cX10_shift 16 = .ok (.aload_n 0, 1) := by decide +kernel
theorem dX10_shift_17 : decode cX10_shift 17 = .ok (.iload 6, 2) := by decide +kernel
theorem dX10_shift_19 : decode cX10_shift 19 = .ok (.invokevirtual 73, 3) := by decide +kernel
theorem dX10_shift_22 : decode cX10_shift 22 = .ok (.istore 7, 2) := by decide +kernel
theorem dX10_shift_24 : decode cX10_shift 24 = .ok (.iload 7, 2) := by decide +kernel
theorem dX10_shift_26 : decode cX10_shift 26 = .ok (.iconst 1, 1) := by decide +kernel
theorem dX10_shift_27 : decode cX10_shift 27 = .ok (.if_icmp .le 36, 3) := by decide +kernel
theorem dX10_shift_30 : decode cX10_shift 30 = .ok (.aload_n 0, 1) := by decide +kernel
theorem dX10_shift_31 : decode cX10_shift 31 = .ok (.getfield 7, 3) := by decide +kernel
theorem dX10_shift_34 : decode cX10_shift 34 = .ok (.iload 6, 2) := by decide +kernel
theorem dX10_shift_36 : decode cX10_shift 36 = .ok (.iconst 1, 1) := by decide +kernel
theorem dX10_shift_37 : decode cX10_shift 37 = .ok (.iadd, 1) := by decide +kernel
theorem dX10_shift_38 : decode cX10_shift 38 = .ok (.iaload, 1) := by decide +kernel
theorem dX10_shift_39 : decode cX10_shift 39 = .ok (.ifCond .ge 7, 3) := by decide +kernel
theorem dX10_shift_42 : decode cX10_shift 42 = .ok (.iload_n 1, 1) := by decide +kernel
theorem dX10_shift_43 : decode cX10_shift 43 = .ok (.goto 12, 3) := by decide +kernel
theorem dX10_shift_46 : decode cX10_shift 46 = .ok (.aload_n 0, 1) := by decide +kernel
theorem dX10_shift_47 : decode cX10_shift 47 = .ok (.getfield 7, 3) := by decide +kernel
theorem dX10_shift_50 : decode cX10_shift 50 = .ok (.iload 6, 2) := by decide +kernel
theorem dX10_shift_52 : decode cX10_shift 52 = .ok (.iconst 1, 1) := by decide +kernel
theorem dX10_shift_53 : decode cX10_shift 53 = .ok (.iadd, 1) := by decide +kernel
theorem dX10_shift_54 : decode cX10_shift 54 = .ok (.iaload, 1) := by decide +kernel
theorem dX10_shift_55 : decode cX10_shift 55 = .ok (.iload_n 2, 1) := by decide +kernel
theorem dX10_shift_56 : decode cX10_shift 56 = .ok (.if_icmp .ne 7, 3) := by decide +kernel
theorem dX10_shift_59 : decode cX10_shift 59 = .ok (.iconst 1, 1) := by decide +kernel
theorem dX10_shift_60 : decode cX10_shift 60 = .ok (.goto 4, 3) := by decide +kernel
theorem dX10_shift_63 : decode cX10_shift 63 = .ok (.iconst 0, 1) := by decide +kernel
theorem dX10_shift_64 : decode cX10_shift 64 = .ok (.istore 8, 2) := by decide +kernel
theorem dX10_shift_66 : decode cX10_shift 66 = .ok (.iload 8, 2) := by decide +kernel
theorem dX10_shift_68 : decode cX10_shift 68 = .ok (.ifCond .ne 36, 3) := by decide +kernel
theorem dX10_shift_71 : decode cX10_shift 71 = .ok (.iconst 0, 1) := by decide +kernel
theorem dX10_shift_72 : decode cX10_shift 72 = .ok (.istore 9, 2) := by decide +kernel
theorem dX10_shift_74 : decode cX10_shift 74 = .ok (.iload 9, 2) := by decide +kernel
theorem dX10_shift_76 : decode cX10_shift 76 = .ok (.iload 7, 2) := by decide +kernel
theorem dX10_shift_78 : decode cX10_shift 78 = .ok (.if_icmp .ge 23, 3) := by decide +kernel
theorem dX10_shift_81 : decode cX10_shift 81 = .ok (.aload_n 0, 1) := by decide +kernel
theorem dX10_shift_82 : decode cX10_shift 82 = .ok (.aload_n 0, 1) := by decide +kernel
theorem dX10_shift_83 : decode cX10_shift 83 = .ok (.getfield 7, 3) := by decide +kernel
theorem dX10_shift_86 : decode cX10_shift 86 = .ok (.iload 6, 2) := by decide +kernel
theorem dX10_shift_88 : decode cX10_shift 88 = .ok (.iload 9, 2) := by decide +kernel
theorem dX10_shift_90 : decode cX10_shift 90 = .ok (.iadd, 1) := by decide +kernel
theorem dX10_shift_91 : decode cX10_shift 91 = .ok (.iaload, 1) := by decide +kernel
theorem dX10_shift_92 : decode cX10_shift 92 = .ok (.invokevirtual 51, 3) := by decide +kernel
theorem dX10_shift_95 : decode cX10_shift 95 = .ok (.iinc 9 1, 3) := by decide +kernel
theorem dX10_shift_98 : decode cX10_shift 98 = .ok (.goto (-24), 3) := by decide +kernel
theorem dX10_shift_101 : decode cX10_shift 101 = .ok (.goto 130, 3) := by decide +kernel
theorem dX10_shift_104 : decode cX10_shift 104 = .ok (.iload 7, 2) := by decide +kernel
theorem dX10_shift_106 : decode cX10_shift 106 = .ok (.bipush 6, 2) := by decide +kernel
theorem dX10_shift_108 : decode cX10_shift 108 = .ok (.if_icmp .ne 17, 3) := by decide +kernel
theorem dX10_shift_111 : decode cX10_shift 111 = .ok (.aload_n 0, 1) := by decide +kernel
theorem dX10_shift_112 : decode cX10_shift 112 = .ok (.iload 6, 2) := by decide +kernel
theorem dX10_shift_114 : decode cX10_shift 114 = .ok (.iload_n 3, 1) := by decide +kernel
theorem dX10_shift_115 : decode cX10_shift 115 = .ok (.iload 4, 2) := by decide +kernel
theorem dX10_shift_117 : decode cX10_shift 117 = .ok (.iload 5, 2) := by decide +kernel
theorem dX10_shift_119 : decode cX10_shift 119 = .ok (.invokevirtual 103, 3) := by decide +kernel
theorem dX10_shift_122 : decode cX10_shift 122 = .ok (.goto 109, 3) := by decide +kernel
theorem dX10_shift_125 : decode cX10_shift 125 = .ok (.iload_n 3, 1) := by decide +kernel
theorem dX10_shift_126 : decode cX10_shift 126 = .ok (.ifCond .eq 15, 3) := by decide +kernel
theorem dX10_shift_129 : decode cX10_shift 129 = .ok (.aload_n 0, 1) := by decide +kernel
theorem dX10_shift_130 : decode cX10_shift 130 = .ok (.getfield 7, 3) := by decide +kernel
theorem dX10_shift_133 : decode cX10_shift 133 = .ok (.iload 6, 2) := by decide +kernel
theorem dX10_shift_135 : decode cX10_shift 135 = .ok (.iconst 2, 1) := by decide +kernel
theorem dX10_shift_136 : decode cX10_shift 136 = .ok (.iadd, 1) := by decide +kernel
theorem dX10_shift_137 : decode cX10_shift 137 = .ok (.iaload, 1) := by decide +kernel
theorem dX10_shift_138 : decode cX10_shift 138 = .ok (.goto 20, 3) := by decide +kernel
theorem dX10_shift_141 : decode cX10_shift 141 = .ok (.aload_n 0, 1) := by decide +kernel
theorem dX10_shift_142 : decode cX10_shift 142 = .ok (.getfield 7, 3) := by decide +kernel
theorem dX10_shift_145 : decode cX10_shift 145 = .ok (.iload 6, 2) := by decide +kernel
theorem dX10_shift_147 : decode cX10_shift 147 = .ok (.iconst 2, 1) := by decide +kernel
theorem dX10_shift_148 : decode cX10_shift 148 = .ok (.iadd, 1) := by decide +kernel
theorem dX10_shift_149 : decode cX10_shift 149 = .ok (.iaload, 1) := by decide +kernel
theorem dX10_shift_150 : decode cX10_shift 150 = .ok (.iconst 0, 1) := by decide +kernel
theorem dX10_shift_151 : decode cX10_shift 151 = .ok (.iload 4, 2) := by decide +kernel
theorem dX10_shift_153 : decode cX10_shift 153 = .ok (.iload 5, 2) := by decide +kernel
theorem dX10_shift_155 : decode cX10_shift 155 = .ok (.invokestatic 93, 3) := by decide +kernel
theorem dX10_shift_158 : decode cX10_shift 158 = .ok (.istore 9, 2) := by decide +kernel
theorem dX10_shift_160 : decode cX10_shift 160 = .ok (.iload_n 3, 1) := by decide +kernel
theorem dX10_shift_161 : decode cX10_shift 161 = .ok (.ifCond .eq 23, 3) := by decide +kernel
theorem dX10_shift_164 : decode cX10_shift 164 = .ok (.aload_n 0, 1) := by decide +kernel
theorem dX10_shift_165 : decode cX10_shift 165 = .ok (.getfield 7, 3) := by decide +kernel
theorem dX10_shift_168 : decode cX10_shift 168 = .ok (.iload 6, 2) := by decide +kernel
theorem dX10_shift_170 : decode cX10_shift 170 = .ok (.iconst 3, 1) := by decide +kernel
theorem dX10_shift_171 : decode cX10_shift 171 = .ok (.iadd, 1) := by decide +kernel
theorem dX10_shift_172 : decode cX10_shift 172 = .ok (.iaload, 1) := by decide +kernel
theorem dX10_shift_173 : decode cX10_shift 173 = .ok (.iconst 1, 1) := by decide +kernel
theorem dX10_shift_174 : decode cX10_shift 174 = .ok (.iload 4, 2) := by decide +kernel
theorem dX10_shift_176 : decode cX10_shift 176 = .ok (.iload 5, 2) := by decide +kernel
theorem dX10_shift_178 : decode cX10_shift 178 = .ok (.invokestatic 93, 3) := by decide +kernel
theorem dX10_shift_181 : decode cX10_shift 181 = .ok (.goto 12, 3) := by decide +kernel
theorem dX10_shift_184 : decode cX10_shift 184 = .ok (.aload_n 0, 1) := by decide +kernel
theorem dX10_shift_185 : decode cX10_shift 185 = .ok (.getfield 7, 3) := by decide +kernel
theorem dX10_shift_188 : decode cX10_shift 188 = .ok (.iload 6, 2) := by decide +kernel
theorem dX10_shift_190 : decode cX10_shift 190 = .ok (.iconst 3, 1) := by decide +kernel
theorem dX10_shift_191 : decode cX10_shift 191 = .ok (.iadd, 1) := by decide +kernel
theorem dX10_shift_192 : decode cX10_shift 192 = .ok (.iaload, 1) := by decide +kernel
theorem dX10_shift_193 : decode cX10_shift 193 = .ok (.istore 10, 2) := by decide +kernel
theorem dX10_shift_195 : decode cX10_shift 195 = .ok (.iload 9, 2) := by decide +kernel
theorem dX10_shift_197 : decode cX10_shift 197 = .ok (.ifCond .eq 8, 3) := by decide +kernel
theorem dX10_shift_200 : decode cX10_shift 200 = .ok (.iload 10, 2) := by decide +kernel
theorem dX10_shift_202 : decode cX10_shift 202 = .ok (.ifCond .ne 10, 3) := by decide +kernel
theorem dX10_shift_205 : decode cX10_shift 205 = .ok (.aload_n 0, 1) := by decide +kernel
theorem dX10_shift_206 : decode cX10_shift 206 = .ok (.invokevirtual 61, 3) := by decide +kernel
theorem dX10_shift_209 : decode cX10_shift 209 = .ok (.goto 22, 3) := by decide +kernel
theorem dX10_shift_212 : decode cX10_shift 212 = .ok (.aload_n 0, 1) := by decide +kernel
theorem dX10_shift_213 : decode cX10_shift 213 = .ok (.iload 6, 2) := by decide +kernel
theorem dX10_shift_215 : decode cX10_shift 215 = .ok (.aload_n 0, 1) := by decide +kernel
theorem dX10_shift_216 : decode cX10_shift 216 = .ok (.getfield 7, 3) := by decide +kernel
theorem dX10_shift_219 : decode cX10_shift 219 = .ok (.iload 6, 2) := by decide +kernel
theorem dX10_shift_221 : decode cX10_shift 221 = .ok (.iconst 1, 1) := by decide +kernel
theorem dX10_shift_222 : decode cX10_shift 222 = .ok (.iadd, 1) := by decide +kernel
theorem dX10_shift_223 : decode cX10_shift 223 = .ok (.iaload, 1) := by decide +kernel
theorem dX10_shift_224 : decode cX10_shift 224 = .ok (.iload 9, 2) := by decide +kernel
theorem dX10_shift_226 : decode cX10_shift 226 = .ok (.iload 10, 2) := by decide +kernel
theorem dX10_shift_228 : decode cX10_shift 228 = .ok (.invokevirtual 81, 3) := by decide +kernel
theorem dX10_shift_231 : decode cX10_shift 231 = .ok (.iload 6, 2) := by decide +kernel
theorem dX10_shift_233 : decode cX10_shift 233 = .ok (.aload_n 0, 1) := by decide +kernel
theorem dX10_shift_234 : decode cX10_shift 234 = .ok (.iload 6, 2) := by decide +kernel
theorem dX10_shift_236 : decode cX10_shift 236 = .ok (.invokevirtual 73, 3) := by decide +kernel
theorem dX10_shift_239 : decode cX10_shift 239 = .ok (.iadd, 1) := by decide +kernel
theorem dX10_shift_240 : decode cX10_shift 240 = .ok (.istore 6, 2) := by decide +kernel
theorem dX10_shift_242 : decode cX10_shift 242 = .ok (.goto (-235), 3) := by decide +kernel
theorem dX10_shift_245 : decode cX10_shift 245 = .ok (.aload_n 0, 1) := by decide +kernel
theorem dX10_shift_246 : decode cX10_shift 246 = .ok (.invokevirtual 85, 3) := by decide +kernel
theorem dX10_shift_249 : decode cX10_shift 249 = .ok (.ireturn, 1) := by decide +kernel
theorem dX10_isLine_0 : decode cX10_isLine 0 = .ok (.iload_n 0, 1) := by decide +kernel
theorem dX10_isLine_1 : decode cX10_isLine 1 = .ok (.iconst 0, 1) := by decide +kernel
theorem dX10_isLine_2 : decode cX10_isLine 2 = .ok (.bipush 7, 2) := by decide +kernel
theorem dX10_isLine_4 : decode cX10_isLine 4 = .ok (.invokestatic 40, 3) := by decide +kernel
theorem dX10_isLine_7 : decode cX10_isLine 7 = .ok (.ifCond .eq 41, 3) := by decide +kernel
theorem dX10_isLine_10 : decode cX10_isLine 10 = .ok (.iload_n 1, 1) := by decide +kernel
theorem dX10_isLine_11 : decode cX10_isLine 11 = .ok (.iconst 0, 1) := by decide +kernel
theorem dX10_isLine_12 : decode cX10_isLine 12 = .ok (.bipush 7, 2) := by decide +kernel
theorem dX10_isLine_14 : decode cX10_isLine 14 = .ok (.invokestatic 40, 3) := by decide +kernel
theorem dX10_isLine_17 : decode cX10_isLine 17 = .ok (.ifCond .eq 31, 3) := by decide +kernel
theorem dX10_isLine_20 : decode cX10_isLine 20 = .ok (.iload_n 3, 1) := by decide +kernel
theorem dX10_isLine_21 : decode cX10_isLine 21 = .ok (.iconst 1, 1) := by decide +kernel
theorem dX10_isLine_22 : decode cX10_isLine 22 = .ok (.iload_n 2, 1) := by decide +kernel
theorem dX10_isLine_23 : decode cX10_isLine 23 = .ok (.invokestatic 89, 3) := by decide +kernel
theorem dX10_isLine_26 : decode cX10_isLine 26 = .ok (.invokestatic 40, 3) := by decide +kernel
theorem dX10_isLine_29 : decode cX10_isLine 29 = .ok (.ifCond .eq 19, 3) := by decide +kernel
theorem dX10_isLine_32 : decode cX10_isLine 32 = .ok (.iload 4, 2) := by decide +kernel
theorem dX10_isLine_34 : decode cX10_isLine 34 = .ok (.iconst 1, 1) := by decide +kernel
theorem dX10_isLine_35 : decode cX10_isLine 35 = .ok (.sipush 16384, 3) := by decide +kernel
theorem dX10_isLine_38 : decode cX10_isLine 38 = .ok (.invokestatic 40, 3) := by decide +kernel
theorem dX10_isLine_41 : decode cX10_isLine 41 = .ok (.ifCond .eq 7, 3) := by decide +kernel
theorem dX10_isLine_44 : decode cX10_isLine 44 = .ok (.iconst 1, 1) := by decide +kernel
theorem dX10_isLine_45 : decode cX10_isLine 45 = .ok (.goto 4, 3) := by decide +kernel
theorem dX10_isLine_48 : decode cX10_isLine 48 = .ok (.iconst 0, 1) := by decide +kernel
theorem dX10_isLine_49 : decode cX10_isLine 49 = .ok (.ireturn, 1) := by decide +kernel
theorem dX10_insert_0 : decode cX10_insert 0 = .ok (.aload_n 0, 1) := by decide +kernel
theorem dX10_insert_1 : decode cX10_insert 1 = .ok (.iload_n 1, 1) := by decide +kernel
theorem dX10_insert_2 : decode cX10_insert 2 = .ok (.iload_n 2, 1) := by decide +kernel
theorem dX10_insert_3 : decode cX10_insert 3 = .ok (.iload_n 3, 1) := by decide +kernel
theorem dX10_insert_4 : decode cX10_insert 4 = .ok (.iload 4, 2) := by decide +kernel
theorem dX10_insert_6 : decode cX10_insert 6 = .ok (.iload 5, 2) := by decide +kernel
theorem dX10_insert_8 : decode cX10_insert 8 = .ok (.invokestatic 107, 3) := by decide +kernel
theorem dX10_insert_11 : decode cX10_insert 11 = .ok (.ifCond .eq 7, 3) := by decide +kernel
theorem dX10_insert_14 : decode cX10_insert 14 = .ok (.iconst 0, 1) := by decide +kernel
theorem dX10_insert_15 : decode cX10_insert 15 = .ok (.goto 4, 3) := by decide +kernel
theorem dX10_insert_18 : decode cX10_insert 18 = .ok (.iconst 1, 1) := by decide +kernel
theorem dX10_insert_19 : decode cX10_insert 19 = .ok (.putfield 29, 3) := by decide +kernel
theorem dX10_insert_22 : decode cX10_insert 22 = .ok (.aload_n 0, 1) := by decide +kernel
theorem dX10_insert_23 : decode cX10_insert 23 = .ok (.getfield 29, 3) := by decide +kernel
theorem dX10_insert_26 : decode cX10_insert 26 = .ok (.ifCond .ne 17, 3) := by decide +kernel
theorem dX10_insert_29 : decode cX10_insert 29 = .ok (.aload_n 0, 1) := by decide +kernel
theorem dX10_insert_30 : decode cX10_insert 30 = .ok (.iload_n 1, 1) := by decide +kernel
theorem dX10_insert_31 : decode cX10_insert 31 = .ok (.iload_n 2, 1) := by decide +kernel
theorem dX10_insert_32 : decode cX10_insert 32 = .ok (.iload_n 3, 1) := by decide +kernel
theorem dX10_insert_33 : decode cX10_insert 33 = .ok (.iload 4, 2) := by decide +kernel
theorem dX10_insert_35 : decode cX10_insert 35 = .ok (.iload 5, 2) := by decide +kernel
theorem dX10_insert_37 : decode cX10_insert 37 = .ok (.invokevirtual 111, 3) := by decide +kernel
theorem dX10_insert_40 : decode cX10_insert 40 = .ok (.goto 4, 3) := by decide +kernel
theorem dX10_insert_43 : decode cX10_insert 43 = .ok (.iconst 0, 1) := by decide +kernel
theorem dX10_insert_44 : decode cX10_insert 44 = .ok (.ireturn, 1) := by decide +kernel
theorem dX10_delete_0 : decode cX10_delete 0 = .ok (.aload_n 0, 1) := by decide +kernel
theorem dX10_delete_1 : decode cX10_delete 1 = .ok (.iload_n 1, 1) := by decide +kernel
theorem dX10_delete_2 : decode cX10_delete 2 = .ok (.iload_n 2, 1) := by decide +kernel
theorem dX10_delete_3 : decode cX10_delete 3 = .ok (.iload_n 3, 1) := by decide +kernel
theorem dX10_delete_4 : decode cX10_delete 4 = .ok (.iload 4, 2) := by decide +kernel
theorem dX10_delete_6 : decode cX10_delete 6 = .ok (.iload 5, 2) := by decide +kernel
theorem dX10_delete_8 : decode cX10_delete 8 = .ok (.invokestatic 107, 3) := by decide +kernel
theorem dX10_delete_11 : decode cX10_delete 11 = .ok (.ifCond .eq 7, 3) := by decide +kernel
theorem dX10_delete_14 : decode cX10_delete 14 = .ok (.iconst 0, 1) := by decide +kernel
theorem dX10_delete_15 : decode cX10_delete 15 = .ok (.goto 4, 3) := by decide +kernel
theorem dX10_delete_18 : decode cX10_delete 18 = .ok (.iconst 1, 1) := by decide +kernel
theorem dX10_delete_19 : decode cX10_delete 19 = .ok (.putfield 29, 3) := by decide +kernel
theorem dX10_delete_22 : decode cX10_delete 22 = .ok (.aload_n 0, 1) := by decide +kernel
theorem dX10_delete_23 : decode cX10_delete 23 = .ok (.getfield 29, 3) := by decide +kernel
theorem dX10_delete_26 : decode cX10_delete 26 = .ok (.ifCond .ne 18, 3) := by decide +kernel
theorem dX10_delete_29 : decode cX10_delete 29 = .ok (.aload_n 0, 1) := by decide +kernel
theorem dX10_delete_30 : decode cX10_delete 30 = .ok (.iload_n 1, 1) := by decide +kernel
theorem dX10_delete_31 : decode cX10_delete 31 = .ok (.iload_n 2, 1) := by decide +kernel
theorem dX10_delete_32 : decode cX10_delete 32 = .ok (.iload_n 3, 1) := by decide +kernel
theorem dX10_delete_33 : decode cX10_delete 33 = .ok (.iload 4, 2) := by decide +kernel
theorem dX10_delete_35 : decode cX10_delete 35 = .ok (.iload 5, 2) := by decide +kernel
theorem dX10_delete_37 : decode cX10_delete 37 = .ok (.ineg, 1) := by decide +kernel
theorem dX10_delete_38 : decode cX10_delete 38 = .ok (.invokevirtual 111, 3) := by decide +kernel
theorem dX10_delete_41 : decode cX10_delete 41 = .ok (.goto 4, 3) := by decide +kernel
theorem dX10_delete_44 : decode cX10_delete 44 = .ok (.iconst 0, 1) := by decide +kernel
theorem dX10_delete_45 : decode cX10_delete 45 = .ok (.ireturn, 1) := by decide +kernel
theorem dX10_rectangle_0 : decode cX10_rectangle 0 = .ok (.aload_n 0, 1) := by decide +kernel
theorem dX10_rectangle_1 : decode cX10_rectangle 1 = .ok (.iconst 0, 1) := by decide +kernel
theorem dX10_rectangle_2 : decode cX10_rectangle 2 = .ok (.putfield 29, 3) := by decide +kernel
theorem dX10_rectangle_5 : decode cX10_rectangle 5 = .ok (.iload_n 1, 1) := by decide +kernel
theorem dX10_rectangle_6 : decode cX10_rectangle 6 = .ok (.iconst 0, 1) := by decide +kernel
theorem dX10_rectangle_7 : decode cX10_rectangle 7 = .ok (.bipush 7, 2) := by decide +kernel
theorem dX10_rectangle_9 : decode cX10_rectangle 9 = .ok (.invokestatic 40, 3) := by decide +kernel
theorem dX10_rectangle_12 : decode cX10_rectangle 12 = .ok (.ifCond .eq 33, 3) := by decide +kernel
theorem dX10_rectangle_15 : decode cX10_rectangle 15 = .ok (.iload_n 2, 1) := by decide +kernel
theorem dX10_rectangle_16 : decode cX10_rectangle 16 = .ok (.iload_n 3, 1) := by decide +kernel
theorem dX10_rectangle_17 : decode cX10_rectangle 17 = .ok (.invokestatic 44, 3) := by decide +kernel
theorem dX10_rectangle_20 : decode cX10_rectangle 20 = .ok (.ifCond .eq 25, 3) := by decide +kernel
theorem dX10_rectangle_23 : decode cX10_rectangle 23 = .ok (.iload 4, 2) := by decide +kernel
theorem dX10_rectangle_25 : decode cX10_rectangle 25 = .ok (.iload 5, 2) := by decide +kernel
theorem dX10_rectangle_27 : decode cX10_rectangle 27 = .ok (.invokestatic 44, 3) := by decide +kernel
theorem dX10_rectangle_30 : decode cX10_rectangle 30 = .ok (.ifCond .eq 15, 3) := by decide +kernel
theorem dX10_rectangle_33 : decode cX10_rectangle 33 = .ok (.iload 4, 2) := by decide +kernel
theorem dX10_rectangle_35 : decode cX10_rectangle 35 = .ok (.iload_n 2, 1) := by decide +kernel
theorem dX10_rectangle_36 : decode cX10_rectangle 36 = .ok (.if_icmp .lt 9, 3) := by decide +kernel
theorem dX10_rectangle_39 : decode cX10_rectangle 39 = .ok (.iload 5, 2) := by decide +kernel
theorem dX10_rectangle_41 : decode cX10_rectangle 41 = .ok (.iload_n 3, 1) := by decide +kernel
theorem dX10_rectangle_42 : decode cX10_rectangle 42 = .ok (.if_icmp .ge 5, 3) := by decide +kernel
theorem dX10_rectangle_45 : decode cX10_rectangle 45 = .ok (.iconst 0, 1) := by decide +kernel
theorem dX10_rectangle_46 : decode cX10_rectangle 46 = .ok (.ireturn, 1) := by decide +kernel
theorem dX10_rectangle_47 : decode cX10_rectangle 47 = .ok (.aload_n 0, 1) := by decide +kernel
theorem dX10_rectangle_48 : decode cX10_rectangle 48 = .ok (.iload_n 1, 1) := by decide +kernel
theorem dX10_rectangle_49 : decode cX10_rectangle 49 = .ok (.putfield 114, 3) := by decide +kernel
theorem dX10_rectangle_52 : decode cX10_rectangle 52 = .ok (.aload_n 0, 1) := by decide +kernel
theorem dX10_rectangle_53 : decode cX10_rectangle 53 = .ok (.iload_n 2, 1) := by decide +kernel
theorem dX10_rectangle_54 : decode cX10_rectangle 54 = .ok (.putfield 16, 3) := by decide +kernel
theorem dX10_rectangle_57 : decode cX10_rectangle 57 = .ok (.aload_n 0, 1) := by decide +kernel
theorem dX10_rectangle_58 : decode cX10_rectangle 58 = .ok (.iload_n 3, 1) := by decide +kernel
theorem dX10_rectangle_59 : decode cX10_rectangle 59 = .ok (.putfield 20, 3) := by decide +kernel
theorem dX10_rectangle_62 : decode cX10_rectangle 62 = .ok (.aload_n 0, 1) := by decide +kernel
theorem dX10_rectangle_63 : decode cX10_rectangle 63 = .ok (.iload 4, 2) := by decide +kernel
theorem dX10_rectangle_65 : decode cX10_rectangle 65 = .ok (.putfield 23, 3) := by decide +kernel
theorem dX10_rectangle_68 : decode cX10_rectangle 68 = .ok (.aload_n 0, 1) := by decide +kernel
theorem dX10_rectangle_69 : decode cX10_rectangle 69 = .ok (.iload 5, 2) := by decide +kernel
theorem dX10_rectangle_71 : decode cX10_rectangle 71 = .ok (.putfield 26, 3) := by decide +kernel
theorem dX10_rectangle_74 : decode cX10_rectangle 74 = .ok (.iconst 1, 1) := by decide +kernel
theorem dX10_rectangle_75 : decode cX10_rectangle 75 = .ok (.ireturn, 1) := by decide +kernel
theorem dX10_moveItem_0 : decode cX10_moveItem 0 = .ok (.aload_n 0, 1) := by decide +kernel
theorem dX10_moveItem_1 : decode cX10_moveItem 1 = .ok (.iload_n 1, 1) := by decide +kernel
theorem dX10_moveItem_2 : decode cX10_moveItem 2 = .ok (.invokevirtual 73, 3) := by decide +kernel
theorem dX10_moveItem_5 : decode cX10_moveItem 5 = .ok (.iconst 4, 1) := by decide +kernel
theorem dX10_moveItem_6 : decode cX10_moveItem 6 = .ok (.if_icmp .ne 7, 3) := by decide +kernel
theorem dX10_moveItem_9 : decode cX10_moveItem 9 = .ok (.iconst 1, 1) := by decide +kernel
theorem dX10_moveItem_10 : decode cX10_moveItem 10 = .ok (.goto 4, 3) := by decide +kernel
theorem dX10_moveItem_13 : decode cX10_moveItem 13 = .ok (.iconst 0, 1) := by decide +kernel
theorem dX10_moveItem_14 : decode cX10_moveItem 14 = .ok (.istore 7, 2) := by decide +kernel
theorem dX10_moveItem_16 : decode cX10_moveItem 16 = .ok (.aload_n 0, 1) := by decide +kernel
theorem dX10_moveItem_17 : decode cX10_moveItem 17 = .ok (.getfield 7, 3) := by decide +kernel
theorem dX10_moveItem_20 : decode cX10_moveItem 20 = .ok (.iload_n 1, 1) := by decide +kernel
theorem dX10_moveItem_21 : decode cX10_moveItem 21 = .ok (.iconst 1, 1) := by decide +kernel
theorem dX10_moveItem_22 : decode cX10_moveItem 22 = .ok (.iadd, 1) := by decide +kernel
theorem dX10_moveItem_23 : decode cX10_moveItem 23 = .ok (.iaload, 1) := by decide +kernel
theorem dX10_moveItem_24 : decode cX10_moveItem 24 = .ok (.ifCond .ge 7, 3) := by decide +kernel
theorem dX10_moveItem_27 : decode cX10_moveItem 27 = .ok (.iload_n 2, 1) := by decide +kernel
theorem dX10_moveItem_28 : decode cX10_moveItem 28 = .ok (.goto 11, 3) := by decide +kernel
theorem dX10_moveItem_31 : decode cX10_moveItem 31 = .ok (.aload_n 0, 1) := by decide +kernel
theorem dX10_moveItem_32 : decode cX10_moveItem 32 = .ok (.getfield 7, 3) := by decide +kernel
theorem dX10_moveItem_35 : decode cX10_moveItem 35 = .ok (.iload_n 1, 1) := by decide +kernel
theorem dX10_moveItem_36 : decode cX10_moveItem 36 = .ok (.iconst 1, 1) := by decide +kernel
theorem dX10_moveItem_37 : decode cX10_moveItem 37 = .ok (.iadd, 1) := by decide +kernel
theorem dX10_moveItem_38 : decode cX10_moveItem 38 = .ok (.iaload, 1) := by decide +kernel
theorem dX10_moveItem_39 : decode cX10_moveItem 39 = .ok (.istore 8, 2) := by decide +kernel
theorem dX10_moveItem_41 : decode cX10_moveItem 41 = .ok (.aload_n 0, 1) := by decide +kernel
theorem dX10_moveItem_42 : decode cX10_moveItem 42 = .ok (.getfield 7, 3) := by decide +kernel
theorem dX10_moveItem_45 : decode cX10_moveItem 45 = .ok (.iload_n 1, 1) := by decide +kernel
theorem dX10_moveItem_46 : decode cX10_moveItem 46 = .ok (.iconst 2, 1) := by decide +kernel
theorem dX10_moveItem_47 : decode cX10_moveItem 47 = .ok (.iadd, 1) := by decide +kernel
theorem dX10_moveItem_48 : decode cX10_moveItem 48 = .ok (.iaload, 1) := by decide +kernel
theorem dX10_moveItem_49 : decode cX10_moveItem 49 = .ok (.istore 9, 2) := by decide +kernel
theorem dX10_moveItem_51 : decode cX10_moveItem 51 = .ok (.aload_n 0, 1) := by decide +kernel
theorem dX10_moveItem_52 : decode cX10_moveItem 52 = .ok (.getfield 7, 3) := by decide +kernel
theorem dX10_moveItem_55 : decode cX10_moveItem 55 = .ok (.iload_n 1, 1) := by decide +kernel
theorem dX10_moveItem_56 : decode cX10_moveItem 56 = .ok (.iconst 3, 1) := by decide +kernel
theorem dX10_moveItem_57 : decode cX10_moveItem 57 = .ok (.iadd, 1) := by decide +kernel
theorem dX10_moveItem_58 : decode cX10_moveItem 58 = .ok (.iaload, 1) := by decide +kernel
theorem dX10_moveItem_59 : decode cX10_moveItem 59 = .ok (.istore 10, 2) := by decide +kernel
theorem dX10_moveItem_61 : decode cX10_moveItem 61 = .ok (.iload 7, 2) := by decide +kernel
theorem dX10_moveItem_63 : decode cX10_moveItem 63 = .ok (.ifCond .eq 8, 3) := by decide +kernel
theorem dX10_moveItem_66 : decode cX10_moveItem 66 = .ok (.iload 9, 2) := by decide +kernel
theorem dX10_moveItem_68 : decode cX10_moveItem 68 = .ok (.goto 11, 3) := by decide +kernel
theorem dX10_moveItem_71 : decode cX10_moveItem 71 = .ok (.aload_n 0, 1) := by decide +kernel
theorem dX10_moveItem_72 : decode cX10_moveItem 72 = .ok (.getfield 7, 3) := by decide +kernel
theorem dX10_moveItem_75 : decode cX10_moveItem 75 = .ok (.iload_n 1, 1) := by decide +kernel
theorem dX10_moveItem_76 : decode cX10_moveItem 76 = .ok (.iconst 4, 1) := by decide +kernel
theorem dX10_moveItem_77 : decode cX10_moveItem 77 = .ok (.iadd, 1) := by decide +kernel
theorem dX10_moveItem_78 : decode cX10_moveItem 78 = .ok (.iaload, 1) := by decide +kernel
theorem dX10_moveItem_79 : decode cX10_moveItem 79 = .ok (.istore 11, 2) := by decide +kernel
theorem dX10_moveItem_81 : decode cX10_moveItem 81 = .ok (.iload 7, 2) := by decide +kernel
theorem dX10_moveItem_83 : decode cX10_moveItem 83 = .ok (.ifCond .eq 8, 3) := by decide +kernel
theorem dX10_moveItem_86 : decode cX10_moveItem 86 = .ok (.iload 10, 2) := by decide +kernel
theorem dX10_moveItem_88 : decode cX10_moveItem 88 = .ok (.goto 11, 3) := by decide +kernel
theorem dX10_moveItem_91 : decode cX10_moveItem 91 = .ok (.aload_n 0, 1) := by decide +kernel
theorem dX10_moveItem_92 : decode cX10_moveItem 92 = .ok (.getfield 7, 3) := by decide +kernel
theorem dX10_moveItem_95 : decode cX10_moveItem 95 = .ok (.iload_n 1, 1) := by decide +kernel
theorem dX10_moveItem_96 : decode cX10_moveItem 96 = .ok (.iconst 5, 1) := by decide +kernel
theorem dX10_moveItem_97 : decode cX10_moveItem 97 = .ok (.iadd, 1) := by decide +kernel
theorem dX10_moveItem_98 : decode cX10_moveItem 98 = .ok (.iaload, 1) := by decide +kernel
theorem dX10_moveItem_99 : decode cX10_moveItem 99 = .ok (.istore 12, 2) := by decide +kernel
theorem dX10_moveItem_101 : decode cX10_moveItem 101 = .ok (.iload 5, 2) := by decide +kernel
theorem dX10_moveItem_103 : decode cX10_moveItem 103 = .ok (.aload_n 0, 1) := by decide +kernel
theorem dX10_moveItem_104 : decode cX10_moveItem 104 = .ok (.getfield 16, 3) := by decide +kernel
theorem dX10_moveItem_107 : decode cX10_moveItem 107 = .ok (.isub, 1) := by decide +kernel
theorem dX10_moveItem_108 : decode cX10_moveItem 108 = .ok (.istore 13, 2) := by decide +kernel
theorem dX10_moveItem_110 : decode cX10_moveItem 110 = .ok (.iload 6, 2) := by decide +kernel
theorem dX10_moveItem_112 : decode cX10_moveItem 112 = .ok (.aload_n 0, 1) := by decide +kernel
theorem dX10_moveItem_113 : decode cX10_moveItem 113 = .ok (.getfield 20, 3) := by decide +kernel
theorem dX10_moveItem_116 : decode cX10_moveItem 116 = .ok (.isub, 1) := by decide +kernel
theorem dX10_moveItem_117 : decode cX10_moveItem 117 = .ok (.istore 14, 2) := by decide +kernel
theorem dX10_moveItem_119 : decode cX10_moveItem 119 = .ok (.iload 8, 2) := by decide +kernel
theorem dX10_moveItem_121 : decode cX10_moveItem 121 = .ok (.aload_n 0, 1) := by decide +kernel
theorem dX10_moveItem_122 : decode cX10_moveItem 122 = .ok (.getfield 114, 3) := by decide +kernel
theorem dX10_moveItem_125 : decode cX10_moveItem 125 = .ok (.if_icmp .ne 43, 3) := by decide +kernel
theorem dX10_moveItem_128 : decode cX10_moveItem 128 = .ok (.iload 9, 2) := by decide +kernel
theorem dX10_moveItem_130 : decode cX10_moveItem 130 = .ok (.aload_n 0, 1) := by decide +kernel
theorem dX10_moveItem_131 : decode cX10_moveItem 131 = .ok (.getfield 16, 3) := by decide +kernel
theorem dX10_moveItem_134 : decode cX10_moveItem 134 = .ok (.if_icmp .lt 34, 3) := by decide +kernel
theorem dX10_moveItem_137 : decode cX10_moveItem 137 = .ok (.iload 11, 2) := by decide +kernel
theorem dX10_moveItem_139 : decode cX10_moveItem 139 = .ok (.aload_n 0, 1) := by decide +kernel
theorem dX10_moveItem_140 : decode cX10_moveItem 140 = .ok (.getfield 23, 3) := by decide +kernel
theorem dX10_moveItem_143 : decode cX10_moveItem 143 = .ok (.if_icmp .gt 25, 3) := by decide +kernel
theorem dX10_moveItem_146 : decode cX10_moveItem 146 = .ok (.iload 10, 2) := by decide +kernel
theorem dX10_moveItem_148 : decode cX10_moveItem 148 = .ok (.aload_n 0, 1) := by decide +kernel
theorem dX10_moveItem_149 : decode cX10_moveItem 149 = .ok (.getfield 20, 3) := by decide +kernel
theorem dX10_moveItem_152 : decode cX10_moveItem 152 = .ok (.if_icmp .lt 16, 3) := by decide +kernel
theorem dX10_moveItem_155 : decode cX10_moveItem 155 = .ok (.iload 12, 2) := by decide +kernel
theorem dX10_moveItem_157 : decode cX10_moveItem 157 = .ok (.aload_n 0, 1) := by decide +kernel
theorem dX10_moveItem_158 : decode cX10_moveItem 158 = .ok (.getfield 26, 3) := by decide +kernel
theorem dX10_moveItem_161 : decode cX10_moveItem 161 = .ok (.if_icmp .gt 7, 3) := by decide +kernel
theorem dX10_moveItem_164 : decode cX10_moveItem 164 = .ok (.iconst 1, 1) := by decide +kernel
theorem dX10_moveItem_165 : decode cX10_moveItem 165 = .ok (.goto 4, 3) := by decide +kernel
theorem dX10_moveItem_168 : decode cX10_moveItem 168 = .ok (.iconst 0, 1) := by decide +kernel
theorem dX10_moveItem_169 : decode cX10_moveItem 169 = .ok (.istore 15, 2) := by decide +kernel
theorem dX10_moveItem_171 : decode cX10_moveItem 171 = .ok (.iload 8, 2) := by decide +kernel
theorem dX10_moveItem_173 : decode cX10_moveItem 173 = .ok (.iload 4, 2) := by decide +kernel
theorem dX10_moveItem_175 : decode cX10_moveItem 175 = .ok (.if_icmp .ne 45, 3) := by decide +kernel
theorem dX10_moveItem_178 : decode cX10_moveItem 178 = .ok (.iload 9, 2) := by decide +kernel
theorem dX10_moveItem_180 : decode cX10_moveItem 180 = .ok (.iload 5, 2) := by decide +kernel
theorem dX10_moveItem_182 : decode cX10_moveItem 182 = .ok (.if_icmp .lt 38, 3) := by decide +kernel
theorem dX10_moveItem_185 : decode cX10_moveItem 185 = .ok (.iload 11, 2) := by decide +kernel
theorem dX10_moveItem_187 : decode cX10_moveItem 187 = .ok (.aload_n 0, 1) := by decide +kernel
theorem dX10_moveItem_188 : decode cX10_moveItem 188 = .ok (.getfield 23, 3) := by decide +kernel
theorem dX10_moveItem_191 : decode cX10_moveItem 191 = .ok (.iload 13, 2) := by decide +kernel
theorem dX10_moveItem_193 : decode cX10_moveItem 193 = .ok (.iadd, 1) := by decide +kernel
theorem dX10_moveItem_194 : decode cX10_moveItem 194 = .ok (.if_icmp .gt 26, 3) := by decide +kernel
theorem dX10_moveItem_197 : decode cX10_moveItem 197 = .ok (.iload 10, 2) := by decide +kernel
theorem dX10_moveItem_199 : decode cX10_moveItem 199 = .ok (.iload 6, 2) := by decide +kernel
theorem dX10_moveItem_201 : decode cX10_moveItem 201 = .ok (.if_icmp .lt 19, 3) := by decide +kernel
theorem dX10_moveItem_204 : decode cX10_moveItem 204 = .ok (.iload 12, 2) := by decide +kernel
theorem dX10_moveItem_206 : decode cX10_moveItem 206 = .ok (.aload_n 0, 1) := by decide +kernel
theorem dX10_moveItem_207 : decode cX10_moveItem 207 = .ok (.getfield 26, 3) := by decide +kernel
theorem dX10_moveItem_210 : decode cX10_moveItem 210 = .ok (.iload 14, 2) := by decide +kernel
theorem dX10_moveItem_212 : decode cX10_moveItem 212 = .ok (.iadd, 1) := by decide +kernel
theorem dX10_moveItem_213 : decode cX10_moveItem 213 = .ok (.if_icmp .gt 7, 3) := by decide +kernel
theorem dX10_moveItem_216 : decode cX10_moveItem 216 = .ok (.iconst 1, 1) := by decide +kernel
theorem dX10_moveItem_217 : decode cX10_moveItem 217 = .ok (.goto 4, 3) := by decide +kernel
theorem dX10_moveItem_220 : decode cX10_moveItem 220 = .ok (.iconst 0, 1) := by decide +kernel
theorem dX10_moveItem_221 : decode cX10_moveItem 221 = .ok (.istore 16, 2) := by decide +kernel
theorem dX10_moveItem_223 : decode cX10_moveItem 223 = .ok (.iload 15, 2) := by decide +kernel
theorem dX10_moveItem_225 : decode cX10_moveItem 225 = .ok (.ifCond .ne 13, 3) := by decide +kernel
theorem dX10_moveItem_228 : decode cX10_moveItem 228 = .ok (.iload 16, 2) := by decide +kernel
theorem dX10_moveItem_230 : decode cX10_moveItem 230 = .ok (.ifCond .eq 8, 3) := by decide +kernel
theorem dX10_moveItem_233 : decode cX10_moveItem 233 = .ok (.aload_n 0, 1) := by decide +kernel
theorem dX10_moveItem_234 : decode cX10_moveItem 234 = .ok (.invokevirtual 61, 3) := by decide +kernel
theorem dX10_moveItem_237 : decode cX10_moveItem 237 = .ok (.return_, 1) := by decide +kernel
theorem dX10_moveItem_238 : decode cX10_moveItem 238 = .ok (.iload 15, 2) := by decide +kernel
theorem dX10_moveItem_240 : decode cX10_moveItem 240 = .ok (.ifCond .eq 8, 3) := by decide +kernel
theorem dX10_moveItem_243 : decode cX10_moveItem 243 = .ok (.iload 4, 2) := by decide +kernel
theorem dX10_moveItem_245 : decode cX10_moveItem 245 = .ok (.goto 5, 3) := by decide +kernel
theorem dX10_moveItem_248 : decode cX10_moveItem 248 = .ok (.iload 8, 2) := by decide +kernel
theorem dX10_moveItem_250 : decode cX10_moveItem 250 = .ok (.istore 17, 2) := by decide +kernel
theorem dX10_moveItem_252 : decode cX10_moveItem 252 = .ok (.aload_n 0, 1) := by decide +kernel
theorem dX10_moveItem_253 : decode cX10_moveItem 253 = .ok (.getfield 7, 3) := by decide +kernel
theorem dX10_moveItem_256 : decode cX10_moveItem 256 = .ok (.iload_n 1, 1) := by decide +kernel
theorem dX10_moveItem_257 : decode cX10_moveItem 257 = .ok (.iconst 1, 1) := by decide +kernel
theorem dX10_moveItem_258 : decode cX10_moveItem 258 = .ok (.iadd, 1) := by decide +kernel
theorem dX10_moveItem_259 : decode cX10_moveItem 259 = .ok (.iaload, 1) := by decide +kernel
theorem dX10_moveItem_260 : decode cX10_moveItem 260 = .ok (.ifCond .ge 13, 3) := by decide +kernel
theorem dX10_moveItem_263 : decode cX10_moveItem 263 = .ok (.iload 17, 2) := by decide +kernel
theorem dX10_moveItem_265 : decode cX10_moveItem 265 = .ok (.iload_n 3, 1) := by decide +kernel
theorem dX10_moveItem_266 : decode cX10_moveItem 266 = .ok (.if_icmp .ne 7, 3) := by decide +kernel
theorem dX10_moveItem_269 : decode cX10_moveItem 269 = .ok (.iconst (-1), 1) := by decide +kernel
theorem dX10_moveItem_270 : decode cX10_moveItem 270 = .ok (.goto 5, 3) := by decide +kernel
theorem dX10_moveItem_273 : decode cX10_moveItem 273 = .ok (.iload 17, 2) := by decide +kernel
theorem dX10_moveItem_275 : decode cX10_moveItem 275 = .ok (.istore 18, 2) := by decide +kernel
theorem dX10_moveItem_277 : decode cX10_moveItem 277 = .ok (.iload 15, 2) := by decide +kernel
theorem dX10_moveItem_279 : decode cX10_moveItem 279 = .ok (.ifCond .ne 9, 3) := by decide +kernel
theorem dX10_moveItem_282 : decode cX10_moveItem 282 = .ok (.iconst 0, 1) := by decide +kernel
theorem dX10_moveItem_283 : decode cX10_moveItem 283 = .ok (.istore 13, 2) := by decide +kernel
theorem dX10_moveItem_285 : decode cX10_moveItem 285 = .ok (.iconst 0, 1) := by decide +kernel
theorem dX10_moveItem_286 : decode cX10_moveItem 286 = .ok (.istore 14, 2) := by decide +kernel
theorem dX10_moveItem_288 : decode cX10_moveItem 288 = .ok (.iload 7, 2) := by decide +kernel
theorem dX10_moveItem_290 : decode cX10_moveItem 290 = .ok (.ifCond .eq 23, 3) := by decide +kernel
theorem dX10_moveItem_293 : decode cX10_moveItem 293 = .ok (.aload_n 0, 1) := by decide +kernel
theorem dX10_moveItem_294 : decode cX10_moveItem 294 = .ok (.iload_n 1, 1) := by decide +kernel
theorem dX10_moveItem_295 : decode cX10_moveItem 295 = .ok (.iload 18, 2) := by decide +kernel
theorem dX10_moveItem_297 : decode cX10_moveItem 297 = .ok (.iload 9, 2) := by decide +kernel
theorem dX10_moveItem_299 : decode cX10_moveItem 299 = .ok (.iload 13, 2) := by decide +kernel
theorem dX10_moveItem_301 : decode cX10_moveItem 301 = .ok (.iadd, 1) := by decide +kernel
theorem dX10_moveItem_302 : decode cX10_moveItem 302 = .ok (.iload 10, 2) := by decide +kernel
theorem dX10_moveItem_304 : decode cX10_moveItem 304 = .ok (.iload 14, 2) := by decide +kernel
theorem dX10_moveItem_306 : decode cX10_moveItem 306 = .ok (.iadd, 1) := by decide +kernel
theorem dX10_moveItem_307 : decode cX10_moveItem 307 = .ok (.invokevirtual 81, 3) := by decide +kernel
theorem dX10_moveItem_310 : decode cX10_moveItem 310 = .ok (.goto 39, 3) := by decide +kernel
theorem dX10_moveItem_313 : decode cX10_moveItem 313 = .ok (.aload_n 0, 1) := by decide +kernel
theorem dX10_moveItem_314 : decode cX10_moveItem 314 = .ok (.iload_n 1, 1) := by decide +kernel
theorem dX10_moveItem_315 : decode cX10_moveItem 315 = .ok (.aload_n 0, 1) := by decide +kernel
theorem dX10_moveItem_316 : decode cX10_moveItem 316 = .ok (.getfield 7, 3) := by decide +kernel
theorem dX10_moveItem_319 : decode cX10_moveItem 319 = .ok (.iload_n 1, 1) := by decide +kernel
theorem dX10_moveItem_320 : decode cX10_moveItem 320 = .ok (.iaload, 1) := by decide +kernel
theorem dX10_moveItem_321 : decode cX10_moveItem 321 = .ok (.bipush 16, 2) := by decide +kernel
theorem dX10_moveItem_323 : decode cX10_moveItem 323 = .ok (.idiv, 1) := by decide +kernel
theorem dX10_moveItem_324 : decode cX10_moveItem 324 = .ok (.iload 18, 2) := by decide +kernel
theorem dX10_moveItem_326 : decode cX10_moveItem 326 = .ok (.iload 9, 2) := by decide +kernel
theorem dX10_moveItem_328 : decode cX10_moveItem 328 = .ok (.iload 13, 2) := by decide +kernel
theorem dX10_moveItem_330 : decode cX10_moveItem 330 = .ok (.iadd, 1) := by decide +kernel
theorem dX10_moveItem_331 : decode cX10_moveItem 331 = .ok (.iload 10, 2) := by decide +kernel
theorem dX10_moveItem_333 : decode cX10_moveItem 333 = .ok (.iload 14, 2) := by decide +kernel
theorem dX10_moveItem_335 : decode cX10_moveItem 335 = .ok (.iadd, 1) := by decide +kernel
theorem dX10_moveItem_336 : decode cX10_moveItem 336 = .ok (.iload 11, 2) := by decide +kernel
theorem dX10_moveItem_338 : decode cX10_moveItem 338 = .ok (.iload 13, 2) := by decide +kernel
theorem dX10_moveItem_340 : decode cX10_moveItem 340 = .ok (.iadd, 1) := by decide +kernel
theorem dX10_moveItem_341 : decode cX10_moveItem 341 = .ok (.iload 12, 2) := by decide +kernel
theorem dX10_moveItem_343 : decode cX10_moveItem 343 = .ok (.iload 14, 2) := by decide +kernel
theorem dX10_moveItem_345 : decode cX10_moveItem 345 = .ok (.iadd, 1) := by decide +kernel
theorem dX10_moveItem_346 : decode cX10_moveItem 346 = .ok (.invokevirtual 64, 3) := by decide +kernel
theorem dX10_moveItem_349 : decode cX10_moveItem 349 = .ok (.return_, 1) := by decide +kernel
theorem dX10_move_0 : decode cX10_move 0 = .ok (.iload_n 1, 1) := by decide +kernel
theorem dX10_move_1 : decode cX10_move 1 = .ok (.iconst 0, 1) := by decide +kernel
theorem dX10_move_2 : decode cX10_move 2 = .ok (.bipush 7, 2) := by decide +kernel
theorem dX10_move_4 : decode cX10_move 4 = .ok (.invokestatic 40, 3) := by decide +kernel
theorem dX10_move_7 : decode cX10_move 7 = .ok (.ifCond .eq 72, 3) := by decide +kernel
theorem dX10_move_10 : decode cX10_move 10 = .ok (.iload_n 2, 1) := by decide +kernel
theorem dX10_move_11 : decode cX10_move 11 = .ok (.iconst 0, 1) := by decide +kernel
theorem dX10_move_12 : decode cX10_move 12 = .ok (.bipush 7, 2) := by decide +kernel
theorem dX10_move_14 : decode cX10_move 14 = .ok (.invokestatic 40, 3) := by decide +kernel
theorem dX10_move_17 : decode cX10_move 17 = .ok (.ifCond .eq 62, 3) := by decide +kernel
theorem dX10_move_20 : decode cX10_move 20 = .ok (.iload_n 3, 1) := by decide +kernel
theorem dX10_move_21 : decode cX10_move 21 = .ok (.iconst 0, 1) := by decide +kernel
theorem dX10_move_22 : decode cX10_move 22 = .ok (.bipush 7, 2) := by decide +kernel
theorem dX10_move_24 : decode cX10_move 24 = .ok (.invokestatic 40, 3) := by decide +kernel
theorem dX10_move_27 : decode cX10_move 27 = .ok (.ifCond .eq 52, 3) := by decide +kernel
theorem dX10_move_30 : decode cX10_move 30 = .ok (.iload 4, 2) := by decide +kernel
theorem dX10_move_32 : decode cX10_move 32 = .ok (.iload 5, 2) := by decide +kernel
theorem dX10_move_34 : decode cX10_move 34 = .ok (.invokestatic 44, 3) := by decide +kernel
theorem dX10_move_37 : decode cX10_move 37 = .ok (.ifCond .eq 42, 3) := by decide +kernel
theorem dX10_move_40 : decode cX10_move 40 = .ok (.iload 4, 2) := by decide +kernel
theorem dX10_move_42 : decode cX10_move 42 = .ok (.aload_n 0, 1) := by decide +kernel
theorem dX10_move_43 : decode cX10_move 43 = .ok (.getfield 23, 3) := by decide +kernel
theorem dX10_move_46 : decode cX10_move 46 = .ok (.iadd, 1) := by decide +kernel
theorem dX10_move_47 : decode cX10_move 47 = .ok (.aload_n 0, 1) := by decide +kernel
theorem dX10_move_48 : decode cX10_move 48 = .ok (.getfield 16, 3) := by decide +kernel
theorem dX10_move_51 : decode cX10_move 51 = .ok (.isub, 1) := by decide +kernel
theorem dX10_move_52 : decode cX10_move 52 = .ok (.ldc 39, 2) := by decide +kernel
theorem dX10_move_54 : decode cX10_move 54 = .ok (.if_icmp .gt 25, 3) := by decide +kernel
theorem dX10_move_57 : decode cX10_move 57 = .ok (.iload 5, 2) := by decide +kernel
theorem dX10_move_59 : decode cX10_move 59 = .ok (.aload_n 0, 1) := by decide +kernel
theorem dX10_move_60 : decode cX10_move 60 = .ok (.getfield 26, 3) := by decide +kernel
theorem dX10_move_63 : decode cX10_move 63 = .ok (.iadd, 1) := by decide +kernel
theorem dX10_move_64 : decode cX10_move 64 = .ok (.aload_n 0, 1) := by decide +kernel
theorem dX10_move_65 : decode cX10_move 65 = .ok (.getfield 20, 3) := by decide +kernel
theorem dX10_move_68 : decode cX10_move 68 = .ok (.isub, 1) := by decide +kernel
theorem dX10_move_69 : decode cX10_move 69 = .ok (.sipush 16384, 3) := by decide +kernel
theorem dX10_move_72 : decode cX10_move 72 = .ok (.if_icmp .gt 7, 3) := by decide +kernel
theorem dX10_move_75 : decode cX10_move 75 = .ok (.iconst 1, 1) := by decide +kernel
theorem dX10_move_76 : decode cX10_move 76 = .ok (.goto 4, 3) := by decide +kernel
theorem dX10_move_79 : decode cX10_move 79 = .ok (.iconst 0, 1) := by decide +kernel
theorem dX10_move_80 : decode cX10_move 80 = .ok (.istore 6, 2) := by decide +kernel
theorem dX10_move_82 : decode cX10_move 82 = .ok (.aload_n 0, 1) := by decide +kernel
theorem dX10_move_83 : decode cX10_move 83 = .ok (.iload 6, 2) := by decide +kernel
theorem dX10_move_85 : decode cX10_move 85 = .ok (.ifCond .eq 7, 3) := by decide +kernel
theorem dX10_move_88 : decode cX10_move 88 = .ok (.iconst 0, 1) := by decide +kernel
theorem dX10_move_89 : decode cX10_move 89 = .ok (.goto 4, 3) := by decide +kernel
theorem dX10_move_92 : decode cX10_move 92 = .ok (.iconst 1, 1) := by decide +kernel
theorem dX10_move_93 : decode cX10_move 93 = .ok (.putfield 29, 3) := by decide +kernel
theorem dX10_move_96 : decode cX10_move 96 = .ok (.aload_n 0, 1) := by decide +kernel
theorem dX10_move_97 : decode cX10_move 97 = .ok (.getfield 29, 3) := by decide +kernel
theorem dX10_move_100 : decode cX10_move 100 = .ok (.ifCond .eq 5, 3) := by decide +kernel
theorem dX10_move_103 : decode cX10_move 103 = .ok (.iconst 0, 1) := by decide +kernel
theorem dX10_move_104 : decode cX10_move 104 = .ok (.ireturn, 1) := by decide +kernel
theorem dX10_move_105 : decode cX10_move 105 = .ok (.aload_n 0, 1) := by decide +kernel
theorem dX10_move_106 : decode cX10_move 106 = .ok (.invokevirtual 70, 3) := by decide +kernel
theorem dX10_move_109 : decode cX10_move 109 = .ok (.iconst 0, 1) := by decide +kernel
theorem dX10_move_110 : decode cX10_move 110 = .ok (.istore 7, 2) := by decide +kernel
theorem dX10_move_112 : decode cX10_move 112 = .ok (.iload 7, 2) := by decide +kernel
theorem dX10_move_114 : decode cX10_move 114 = .ok (.aload_n 0, 1) := by decide +kernel
theorem dX10_move_115 : decode cX10_move 115 = .ok (.getfield 32, 3) := by decide +kernel
theorem dX10_move_118 : decode cX10_move 118 = .ok (.if_icmp .ge 54, 3) := by decide +kernel
theorem dX10_move_121 : decode cX10_move 121 = .ok (.aload_n 0, 1) := by decide +kernel
theorem dX10_move_122 : decode cX10_move 122 = .ok (.iload 7, 2) := by decide +kernel
theorem dX10_move_124 : decode cX10_move 124 = .ok (.invokevirtual 73, 3) := by decide +kernel
theorem dX10_move_127 : decode cX10_move 127 = .ok (.iconst 1, 1) := by decide +kernel
theorem dX10_move_128 : decode cX10_move 128 = .ok (.if_icmp .ne 17, 3) := by decide +kernel
theorem dX10_move_131 : decode cX10_move 131 = .ok (.aload_n 0, 1) := by decide +kernel
theorem dX10_move_132 : decode cX10_move 132 = .ok (.aload_n 0, 1) := by decide +kernel
theorem dX10_move_133 : decode cX10_move 133 = .ok (.getfield 7, 3) := by decide +kernel
theorem dX10_move_136 : decode cX10_move 136 = .ok (.iload 7, 2) := by decide +kernel
theorem dX10_move_138 : decode cX10_move 138 = .ok (.iaload, 1) := by decide +kernel
theorem dX10_move_139 : decode cX10_move 139 = .ok (.invokevirtual 51, 3) := by decide +kernel
theorem dX10_move_142 : decode cX10_move 142 = .ok (.goto 16, 3) := by decide +kernel
theorem dX10_move_145 : decode cX10_move 145 = .ok (.aload_n 0, 1) := by decide +kernel
theorem dX10_move_146 : decode cX10_move 146 = .ok (.iload 7, 2) := by decide +kernel
theorem dX10_move_148 : decode cX10_move 148 = .ok (.iload_n 1, 1) := by decide +kernel
theorem dX10_move_149 : decode cX10_move 149 = .ok (.iload_n 2, 1) := by decide +kernel
theorem dX10_move_150 : decode cX10_move 150 = .ok (.iload_n 3, 1) := by decide +kernel
theorem dX10_move_151 : decode cX10_move 151 = .ok (.iload 4, 2) := by decide +kernel
theorem dX10_move_153 : decode cX10_move 153 = .ok (.iload 5, 2) := by decide +kernel
theorem dX10_move_155 : decode cX10_move 155 = .ok (.invokevirtual 117, 3) := by decide +kernel
theorem dX10_move_158 : decode cX10_move 158 = .ok (.iload 7, 2) := by decide +kernel
theorem dX10_move_160 : decode cX10_move 160 = .ok (.aload_n 0, 1) := by decide +kernel
theorem dX10_move_161 : decode cX10_move 161 = .ok (.iload 7, 2) := by decide +kernel
theorem dX10_move_163 : decode cX10_move 163 = .ok (.invokevirtual 73, 3) := by decide +kernel
theorem dX10_move_166 : decode cX10_move 166 = .ok (.iadd, 1) := by decide +kernel
theorem dX10_move_167 : decode cX10_move 167 = .ok (.istore 7, 2) := by decide +kernel
theorem dX10_move_169 : decode cX10_move 169 = .ok (.goto (-57), 3) := by decide +kernel
theorem dX10_move_172 : decode cX10_move 172 = .ok (.aload_n 0, 1) := by decide +kernel
theorem dX10_move_173 : decode cX10_move 173 = .ok (.invokevirtual 85, 3) := by decide +kernel
theorem dX10_move_176 : decode cX10_move 176 = .ok (.ireturn, 1) := by decide +kernel
end
section
/-! words of my own for the walk: the links between nest mates, a contract's start and end, calls -/
def nest (U : State) : Prop :=
  va_Nw (.methodLinkNest RX9 28 yX7_init RX9) U ∧ va_Nw (.methodLinkNest RX2 23 yX9_has RX9) U ∧ va_Nw (.methodLinkNest RX2 3 yX1_init RX9) U ∧
  va_Nw (.methodLinkNest RX3 1 yX1_init RX9) U ∧ va_Nw (.methodLinkNest RX6 3 yX1_init RX9) U ∧ va_Nw (.methodLinkNest RX8 26 yX9_isLine RX9) U ∧
  va_Nw (.methodLinkNest RX8 42 yX9_areAllLines RX9) U ∧ va_Nw (.declares ⟨"ReferenceMover$Change", "keeps", "(LReferenceMover$Reference;)Z"⟩) U ∧
  va_Nw (.declares ⟨"ReferenceMover$LineChange", "keepsLines", "(LReferenceMover$Span;)Z"⟩) U
theorem nest.warm {s U : State} (hW : s.WarmedH U.vm) (h : nest s) : nest U := by
  obtain ⟨h1, h2, h3, h4, h5, h6, h7, h8, h9⟩ := h
  exact ⟨va_Nw.warmM hW h1, va_Nw.warmM hW h2, va_Nw.warmM hW h3, va_Nw.warmM hW h4, va_Nw.warmM hW h5, va_Nw.warmM hW h6, va_Nw.warmM hW h7, va_Nw.warmD hW h8, va_Nw.warmD hW h9⟩
theorem nest.same {s U : State} (e : s.vm = U.vm) (h : nest s) : nest U := by
  obtain ⟨h1, h2, h3, h4, h5, h6, h7, h8, h9⟩ := h
  exact ⟨va_Nw.same rfl e h1, va_Nw.same rfl e h2, va_Nw.same rfl e h3, va_Nw.same rfl e h4, va_Nw.same rfl e h5, va_Nw.same rfl e h6, va_Nw.same rfl e h7, va_Nw.same rfl e h8, va_Nw.same rfl e h9⟩
/-- what a contract takes of the state: the world ws, its tables, the links -/
def Pw (D : va_G) (tys : List (ClassId × FieldType)) (ws : va_W) (sz : Nat) (U : State) : Prop :=
  U.heap.size = sz ∧ va_P D vwCl ws U.heap ∧ va_K D vwCl tys U ∧ va_D (fun _ => True) ws ∧ nest U
theorem Pw_blind {av : List Value} {D : va_G} {tys : List (ClassId × FieldType)} {ws : va_W} {sz : Nat} : FrameBlind (va_Pc av (Pw D tys ws sz)) := by
  intro a U g mk q
  obtain ⟨q0, q1, qP, qK, qD, qN⟩ := q
  exact ⟨q0, q1, qP, va_K.moved (u := U) (U := U.calling g mk a) (Vm.Alike.refl U.vm) qK, qD, nest.same (s := U) (U := U.calling g mk a) rfl qN⟩
theorem Pw_at {av : List Value} {D : va_G} {tys : List (ClassId × FieldType)} {ws : va_W} {A : Nat → Prop} {s U : State} {H : Heap} (hK : va_K D vwCl tys s) (hP : va_P D vwCl ws H) (hD : va_D A ws) (hN : nest s) (hU : U.heap = H) (hW : s.WarmedH U.vm) : va_Pc av (Pw D tys ws H.size) av.toArray U :=
  ⟨rfl, by rw [hU], by rw [hU]; exact hP, va_K.moved hW.alike hK, hD.weaken (fun _ _ _ _ => trivial), hN.warm hW⟩
/-- the world behind a method -/
def Bq (D : va_G) (A : Nat → Prop) (ws : va_W) (t : State) : Prop := va_P D vwCl ws t.heap ∧ va_D A ws
def isB (x : Int32) : Prop := x = 0 ∨ x = 1
theorem isB.nar {x : Int32} (h : isB x) : narrow .boolean (.int x) = .int x := by rcases h with rfl | rfl <;> rfl
theorem isB.fit {x : Int32} (h : isB x) : fits .boolean (.int x) = true := by rcases h with rfl | rfl <;> rfl
theorem in_of {k : Int32} {n : Nat} (h0 : 0 ≤ k) (h : k < Int32.ofNat n) (hn : n < 2 ^ 31) : vp_in k n := by
  rw [vp_in_iff]
  have h1 := Int32.le_iff_toInt_le.mp h0
  have h2 := Int32.lt_iff_toInt_lt.mp h
  rw [show (Int32.ofNat n).toInt = (n : Int) from nI_toInt hn] at h2
  exact ⟨h1, h2⟩
theorem fm_of {α β : Type} {f : α → Option β} {is : List α} {l : List β} (h : is.map f = l.map some) : is.filterMap f = l := by
  have h1 : is.filterMap f = (is.map f).filterMap id := by rw [List.filterMap_map]; rfl
  rw [h1, h, List.filterMap_map]
  exact List.filterMap_some
section WK
variable {p : Program} {l : Launch} {e : Env} {R : Room} {s : State} {m : MethodId} {args : Array Value} {below : List Frame} {meth : Method} {c : Code} {H : Heap} {locs : List Loc} {cells slots : Nat} {Q : State → Prop}
variable {pc : Nat} {ls : Array Slot} {rest st0 : List Value} {a : Array Value} {A : Nat → Prop} {H0 : Heap} {mc ms : Nat} {D : va_G} {ws wc wr ws2 : va_W}
/-- a call that reads -/
theorem rd_i {r1 : Int32} (hr : va_Run p l e R s m args below meth c H locs cells slots 0 0 (F0 m pc ls st0) rest (vp_Si (fun r => r = r1) a) (fun _ => False))
    (kk : W p l e R s m args below meth c H locs cells slots Q (F0 m (pc + 3) ls (.int r1 :: rest))) : W p l e R s m args below meth c H locs cells slots Q (F0 m pc ls st0) :=
  vp_callSi (va_Run.run hr) (fun r e => by rw [e]; exact kk)
/-- a call that changes its cells wc to w1 x, x any such; the rest wr stays; ws2 is what then holds -/
theorem wk_v {β : Type} {w1 : β → va_W} {ok : β → Prop} {ws2 : β → va_W} (hr : va_Run p l e R s m args below meth c H locs cells slots mc ms (F0 m pc ls st0) rest (va_Qv (fun w => ∃ x : β, ok x ∧ w = w1 x) (Bq D (va_A wc H.size)) (va_A wc H.size) a) (va_A wc H.size))
    (hP : va_P D vwCl ws H) (hD : va_D A ws) (hS : va_S A H0 H locs) (hA : ∀ q, H0.size ≤ q → A q) (isC isR perm : List Nat) (hC : isC.map (fun i => ws[i]?) = wc.map some) (hR : isR.map (fun i => ws[i]?) = wr.map some) (hn : va_nd isR = true) (hdis : ∀ i ∈ isR, i ∉ isC)
    (hp : ∀ x, perm.map (fun i => (wr ++ w1 x)[i]?) = (ws2 x).map some) (hpn : va_nd perm = true)
    (kk : ∀ (x : β), ok x → ∀ (H1 : Heap) (locs1 : List Loc), va_P D vwCl (ws2 x) H1 → va_D A (ws2 x) → va_S A H0 H1 locs1 → W p l e R s m args below meth c H1 locs1 (cells + mc) (slots + ms) Q (F0 m (pc + 3) ls rest)) : W p l e R s m args below meth c H locs cells slots Q (F0 m pc ls st0) := by
  have hFc := va_free (wc := wc) hD hS hA isC hC
  refine va_callv hr hS (fun q _ h => hFc q h) hFc (fun w t H1 locs1 ht hvm hw hB hz1 hk1 hS1 => ?_)
  obtain ⟨x, hx, rfl⟩ := hw
  obtain ⟨hP1, hD1⟩ := hB
  rw [ht] at hP1
  obtain ⟨hP2, hD2⟩ := va_join (wr := wr) (w1 := w1 x) hP hD isC isR hC hR hn hdis hk1 hFc hP1 hD1
  exact kk x hx H1 locs1 (hP2.sub perm (fm_of (hp x))) (hD2.sub perm hpn (hp x)) hS1
theorem wk_i {β : Type} {r1 : β → Int32} {ok : β → Prop} {w1 ws2 : β → va_W} (hr : va_Run p l e R s m args below meth c H locs cells slots mc ms (F0 m pc ls st0) rest (va_Qi (fun r w => ∃ x : β, ok x ∧ r = r1 x ∧ w = w1 x) (Bq D (va_A wc H.size)) (va_A wc H.size) a) (va_A wc H.size))
    (hP : va_P D vwCl ws H) (hD : va_D A ws) (hS : va_S A H0 H locs) (hA : ∀ q, H0.size ≤ q → A q) (isC isR perm : List Nat) (hC : isC.map (fun i => ws[i]?) = wc.map some) (hR : isR.map (fun i => ws[i]?) = wr.map some) (hn : va_nd isR = true) (hdis : ∀ i ∈ isR, i ∉ isC)
    (hp : ∀ x, perm.map (fun i => (wr ++ w1 x)[i]?) = (ws2 x).map some) (hpn : va_nd perm = true)
    (kk : ∀ (x : β), ok x → ∀ (H1 : Heap) (locs1 : List Loc), va_P D vwCl (ws2 x) H1 → va_D A (ws2 x) → va_S A H0 H1 locs1 → W p l e R s m args below meth c H1 locs1 (cells + mc) (slots + ms) Q (F0 m (pc + 3) ls (.int (r1 x) :: rest))) : W p l e R s m args below meth c H locs cells slots Q (F0 m pc ls st0) := by
  have hFc := va_free (wc := wc) hD hS hA isC hC
  refine va_calli hr hS (fun q _ h => hFc q h) hFc (fun r w t H1 locs1 ht hvm hw hB hz1 hk1 hS1 => ?_)
  obtain ⟨x, hx, rfl, rfl⟩ := hw
  obtain ⟨hP1, hD1⟩ := hB
  rw [ht] at hP1
  obtain ⟨hP2, hD2⟩ := va_join (wr := wr) (w1 := w1 x) hP hD isC isR hC hR hn hdis hk1 hFc hP1 hD1
  exact kk x hx H1 locs1 (hP2.sub perm (fm_of (hp x))) (hD2.sub perm hpn (hp x)) hS1
end WK
/-- a contract's start: what every walk opens with -/
theorem mo_A {ws : va_W} {sz : Nat} : ∀ q : Nat, sz ≤ q → va_A ws sz q := fun _ h => Or.inr h
theorem hStart {p : Program} {l : Launch} {e : Env} {R : Room} {s : State} {m : MethodId} {args : Array Value} {below : List Frame} {meth : Method} {c : Code} {H : Heap} {locs : List Loc} {cells slots : Nat} {Q : State → Prop} {g : JFrame} (h : H = s.heap) (hl : locs = []) (k : W p l e R s m args below meth c H locs cells slots Q g) : W p l e R s m args below meth c s.heap [] cells slots Q g := by
  subst h; subst hl; exact k
end
section
def fX9_isSheet (x : Int32) : Int32 := if x < 0 then 0 else (if 7 < x then 0 else 1)
theorem zb_X9_isSheet (x : Int32) : isB (fX9_isSheet x) := by
  unfold fX9_isSheet
  (try dsimp only)
  repeat' split
  all_goals first | exact Or.inl rfl | exact Or.inr rfl
abbrev rmX9_isSheet : Room := { frames := 0, cells := 0, slots := 0, locals := 0 }
abbrev qX9_isSheet (D : va_G) (sz : Nat) (x : Int32) : Array Value → State → Outcome → State → Prop := vp_Si (fun r => r = (fX9_isSheet x))
set_option maxHeartbeats 4000000 in
set_option maxRecDepth 100000 in
theorem kX9_isSheet (l : Launch) (D : va_G) (sz : Nat) (x : Int32) : Met l yX9_isSheet wsX9_isSheet rmX9_isSheet (va_Pc [.int x] (Pw D [] [] sz)) (qX9_isSheet D sz x) 0 0 (fun _ => False) := by
  refine Met.ofW (cc := cX9_isSheet) (maxL := 1) (ret := (some .boolean)) (by decide) rfl ?_
  intro p e s m args below meth c s₁ B hml hv
  obtain ⟨rfl, hsz, hP, hK, hD0, hN⟩ := hv
  have hx := B.exec
  have hb := B.bytes
  have hr := B.returns
  have hts := atoms_spec (ws := wsX9_isSheet) B.pre
  have hown : s.vm.findClass RX9 = some m.cls := findClass_of_methodNamed B.named
  have hlocks := B.notSynchronized
  subst hsz
  obtain ⟨Q, hQe⟩ : ∃ Q, Q = MQ below (qX9_isSheet D s.heap.size x) ([.int x] : List Value).toArray s 0 0 (fun _ => False) := ⟨_, rfl⟩
  rw [← hQe]
  have hD := hD0
  have hP : va_P D vwCl [] s.heap := hP
  have hl := lv_entry ([.int x]) (n := 1) (Nat.le_of_ble_eq_true rfl)
  rw [lg_entry_eq]
  generalize (lg_sl ([.int x]) ++ List.replicate (1 - (lg_sl ([.int x])).length) Slot.unset).toArray = ls at hl ⊢
  have hl : lv_has ls 1 [(0, .int x)] := hl
  refine lv_iload_n hx hb dX9_isSheet_0 rfl (lv_at hl 0 rfl) ?_
  refine lv_if_lt (tgt := 14) hx hb dX9_isSheet_1 (by decide) (fun c1 => ?_) (fun c1 => ?_)
  · refine lv_iconst (v := 0) hx hb dX9_isSheet_14 (by decide) ?_
    have hF : (fX9_isSheet x) = 0 := by exact (if_pos c1)
    subst hQe
    exact W.zret (v := 0) hx hb hr rfl (fun t ht hW => ⟨_, rfl, hF.symm, ht⟩) (fun q h => absurd h List.not_mem_nil) dX9_isSheet_15
  · refine lv_iload_n hx hb dX9_isSheet_4 rfl (lv_at hl 0 rfl) ?_
    refine lv_bipush (v := 7) hx hb dX9_isSheet_5 (by decide) ?_
    refine lv_icmp_gt (tgt := 14) hx hb dX9_isSheet_7 (by decide) (fun c7 => ?_) (fun c7 => ?_)
    · refine lv_iconst (v := 0) hx hb dX9_isSheet_14 (by decide) ?_
      have hF : (fX9_isSheet x) = 0 := by exact ((if_neg c1).trans (if_pos c7))
      subst hQe
      exact W.zret (v := 0) hx hb hr rfl (fun t ht hW => ⟨_, rfl, hF.symm, ht⟩) (fun q h => absurd h List.not_mem_nil) dX9_isSheet_15
    · refine lv_iconst (v := 1) hx hb dX9_isSheet_10 (by decide) ?_
      refine lv_goto (tgt := 15) hx hb dX9_isSheet_11 (by decide) ?_
      have hF : (fX9_isSheet x) = 1 := by exact ((if_neg c1).trans (if_neg c7))
      subst hQe
      exact W.zret (v := 1) hx hb hr rfl (fun t ht hW => ⟨_, rfl, hF.symm, ht⟩) (fun q h => absurd h List.not_mem_nil) dX9_isSheet_15

def fX9_isSheetOrNone (x : Int32) : Int32 := if x = (-1) then 1 else (if (fX9_isSheet x) = 0 then 0 else 1)
theorem zb_X9_isSheetOrNone (x : Int32) : isB (fX9_isSheetOrNone x) := by
  unfold fX9_isSheetOrNone
  (try dsimp only)
  repeat' split
  all_goals first | exact Or.inl rfl | exact Or.inr rfl
abbrev rmX9_isSheetOrNone : Room := { frames := 1, cells := 0, slots := 0, locals := 20 }
abbrev qX9_isSheetOrNone (D : va_G) (sz : Nat) (x : Int32) : Array Value → State → Outcome → State → Prop := vp_Si (fun r => r = (fX9_isSheetOrNone x))
set_option maxHeartbeats 4000000 in
set_option maxRecDepth 100000 in
theorem kX9_isSheetOrNone (l : Launch) (D : va_G) (sz : Nat) (x : Int32) : Met l yX9_isSheetOrNone wsX9_isSheetOrNone rmX9_isSheetOrNone (va_Pc [.int x] (Pw D [] [] sz)) (qX9_isSheetOrNone D sz x) 0 0 (fun _ => False) := by
  refine Met.ofW (cc := cX9_isSheetOrNone) (maxL := 1) (ret := (some .boolean)) (by decide) rfl ?_
  intro p e s m args below meth c s₁ B hml hv
  obtain ⟨rfl, hsz, hP, hK, hD0, hN⟩ := hv
  have hx := B.exec
  have hb := B.bytes
  have hr := B.returns
  have hts := atoms_spec (ws := wsX9_isSheetOrNone) B.pre
  have hown : s.vm.findClass RX9 = some m.cls := findClass_of_methodNamed B.named
  have hlocks := B.notSynchronized
  subst hsz
  obtain ⟨Q, hQe⟩ : ∃ Q, Q = MQ below (qX9_isSheetOrNone D s.heap.size x) ([.int x] : List Value).toArray s 0 0 (fun _ => False) := ⟨_, rfl⟩
  rw [← hQe]
  have hD := hD0
  have hP : va_P D vwCl [] s.heap := hP
  have hl := lv_entry ([.int x]) (n := 1) (Nat.le_of_ble_eq_true rfl)
  rw [lg_entry_eq]
  generalize (lg_sl ([.int x]) ++ List.replicate (1 - (lg_sl ([.int x])).length) Slot.unset).toArray = ls at hl ⊢
  have hl : lv_has ls 1 [(0, .int x)] := hl
  refine lv_iload_n hx hb dX9_isSheetOrNone_0 rfl (lv_at hl 0 rfl) ?_
  refine lv_iconst (v := (-1)) hx hb dX9_isSheetOrNone_1 (by decide) ?_
  refine lv_icmp_eq (tgt := 12) hx hb dX9_isSheetOrNone_2 (by decide) (fun c2 => ?_) (fun c2 => ?_)
  · refine lv_iconst (v := 1) hx hb dX9_isSheetOrNone_12 (by decide) ?_
    refine lv_goto (tgt := 17) hx hb dX9_isSheetOrNone_13 (by decide) ?_
    have hF : (fX9_isSheetOrNone x) = 1 := by exact (if_pos c2)
    subst hQe
    exact W.zret (v := 1) hx hb hr rfl (fun t ht hW => ⟨_, rfl, hF.symm, ht⟩) (fun q h => absurd h List.not_mem_nil) dX9_isSheetOrNone_17
  · refine lv_iload_n hx hb dX9_isSheetOrNone_5 rfl (lv_at hl 0 rfl) ?_
    have hPc := hP.sub (ws' := []) [] rfl
    have hDc := hD.sub (ws' := []) [] (by decide) rfl
    have hKc := hK.sub (tys' := []) [] rfl
    refine rd_i (va_runS (As := [.int x]) (rest := []) ⟨hx, hb, hml, hown, hts⟩ (kX9_isSheet l D s.heap.size x ) (va_cwS 1 hts gX9_isSheetOrNone_X9_isSheet rfl rfl rfl (by decide +kernel) ⟨Nat.le_of_ble_eq_true rfl, Nat.le_of_ble_eq_true rfl⟩) ⟨Pw_blind, fun U hU hW => Pw_at hKc hPc hDc hN hU hW⟩ rfl rfl hl.1 rfl (lv_room (Nat.le_of_ble_eq_true rfl)) dX9_isSheetOrNone_6 ⟨Nat.le_of_ble_eq_true rfl, Nat.le_of_ble_eq_true rfl⟩) ?_
    refine lv_if_eq (tgt := 16) hx hb dX9_isSheetOrNone_9 (by decide) (fun c9 => ?_) (fun c9 => ?_)
    · refine lv_iconst (v := 0) hx hb dX9_isSheetOrNone_16 (by decide) ?_
      have hF : (fX9_isSheetOrNone x) = 0 := by exact ((if_neg c2).trans (if_pos c9))
      subst hQe
      exact W.zret (v := 0) hx hb hr rfl (fun t ht hW => ⟨_, rfl, hF.symm, ht⟩) (fun q h => absurd h List.not_mem_nil) dX9_isSheetOrNone_17
    · refine lv_iconst (v := 1) hx hb dX9_isSheetOrNone_12 (by decide) ?_
      refine lv_goto (tgt := 17) hx hb dX9_isSheetOrNone_13 (by decide) ?_
      have hF : (fX9_isSheetOrNone x) = 1 := by exact ((if_neg c2).trans (if_neg c9))
      subst hQe
      exact W.zret (v := 1) hx hb hr rfl (fun t ht hW => ⟨_, rfl, hF.symm, ht⟩) (fun q h => absurd h List.not_mem_nil) dX9_isSheetOrNone_17

def fX9_isLine (x : Int32) (y : Int32) : Int32 := if x < 1 then 0 else (if y < x then 0 else 1)
theorem zb_X9_isLine (x : Int32) (y : Int32) : isB (fX9_isLine x y) := by
  unfold fX9_isLine
  (try dsimp only)
  repeat' split
  all_goals first | exact Or.inl rfl | exact Or.inr rfl
abbrev rmX9_isLine : Room := { frames := 0, cells := 0, slots := 0, locals := 0 }
abbrev qX9_isLine (D : va_G) (sz : Nat) (x : Int32) (y : Int32) : Array Value → State → Outcome → State → Prop := vp_Si (fun r => r = (fX9_isLine x y))
set_option maxHeartbeats 4000000 in
set_option maxRecDepth 100000 in
theorem kX9_isLine (l : Launch) (D : va_G) (sz : Nat) (x : Int32) (y : Int32) : Met l yX9_isLine wsX9_isLine rmX9_isLine (va_Pc [.int x, .int y] (Pw D [] [] sz)) (qX9_isLine D sz x y) 0 0 (fun _ => False) := by
  refine Met.ofW (cc := cX9_isLine) (maxL := 2) (ret := (some .boolean)) (by decide) rfl ?_
  intro p e s m args below meth c s₁ B hml hv
  obtain ⟨rfl, hsz, hP, hK, hD0, hN⟩ := hv
  have hx := B.exec
  have hb := B.bytes
  have hr := B.returns
  have hts := atoms_spec (ws := wsX9_isLine) B.pre
  have hown : s.vm.findClass RX9 = some m.cls := findClass_of_methodNamed B.named
  have hlocks := B.notSynchronized
  subst hsz
  obtain ⟨Q, hQe⟩ : ∃ Q, Q = MQ below (qX9_isLine D s.heap.size x y) ([.int x, .int y] : List Value).toArray s 0 0 (fun _ => False) := ⟨_, rfl⟩
  rw [← hQe]
  have hD := hD0
  have hP : va_P D vwCl [] s.heap := hP
  have hl := lv_entry ([.int x, .int y]) (n := 2) (Nat.le_of_ble_eq_true rfl)
  rw [lg_entry_eq]
  generalize (lg_sl ([.int x, .int y]) ++ List.replicate (2 - (lg_sl ([.int x, .int y])).length) Slot.unset).toArray = ls at hl ⊢
  have hl : lv_has ls 2 [(0, .int x), (1, .int y)] := hl
  refine lv_iload_n hx hb dX9_isLine_0 rfl (lv_at hl 0 rfl) ?_
  refine lv_iconst (v := 1) hx hb dX9_isLine_1 (by decide) ?_
  refine lv_icmp_lt (tgt := 14) hx hb dX9_isLine_2 (by decide) (fun c2 => ?_) (fun c2 => ?_)
  · refine lv_iconst (v := 0) hx hb dX9_isLine_14 (by decide) ?_
    have hF : (fX9_isLine x y) = 0 := by exact (if_pos c2)
    subst hQe
    exact W.zret (v := 0) hx hb hr rfl (fun t ht hW => ⟨_, rfl, hF.symm, ht⟩) (fun q h => absurd h List.not_mem_nil) dX9_isLine_15
  · refine lv_iload_n hx hb dX9_isLine_5 rfl (lv_at hl 0 rfl) ?_
    refine lv_iload_n hx hb dX9_isLine_6 rfl (lv_at hl 1 rfl) ?_
    refine lv_icmp_gt (tgt := 14) hx hb dX9_isLine_7 (by decide) (fun c7 => ?_) (fun c7 => ?_)
    · refine lv_iconst (v := 0) hx hb dX9_isLine_14 (by decide) ?_
      have hF : (fX9_isLine x y) = 0 := by exact ((if_neg c2).trans (if_pos c7))
      subst hQe
      exact W.zret (v := 0) hx hb hr rfl (fun t ht hW => ⟨_, rfl, hF.symm, ht⟩) (fun q h => absurd h List.not_mem_nil) dX9_isLine_15
    · refine lv_iconst (v := 1) hx hb dX9_isLine_10 (by decide) ?_
      refine lv_goto (tgt := 15) hx hb dX9_isLine_11 (by decide) ?_
      have hF : (fX9_isLine x y) = 1 := by exact ((if_neg c2).trans (if_neg c7))
      subst hQe
      exact W.zret (v := 1) hx hb hr rfl (fun t ht hW => ⟨_, rfl, hF.symm, ht⟩) (fun q h => absurd h List.not_mem_nil) dX9_isLine_15

def fX9_areLines (x : Int32) (y : Int32) (z : Int32) : Int32 := if x < 1 then 0 else (if y < x then 0 else (if z < y then 0 else 1))
theorem zb_X9_areLines (x : Int32) (y : Int32) (z : Int32) : isB (fX9_areLines x y z) := by
  unfold fX9_areLines
  (try dsimp only)
  repeat' split
  all_goals first | exact Or.inl rfl | exact Or.inr rfl
abbrev rmX9_areLines : Room := { frames := 0, cells := 0, slots := 0, locals := 0 }
abbrev qX9_areLines (D : va_G) (sz : Nat) (x : Int32) (y : Int32) (z : Int32) : Array Value → State → Outcome → State → Prop := vp_Si (fun r => r = (fX9_areLines x y z))
set_option maxHeartbeats 4000000 in
set_option maxRecDepth 100000 in
theorem kX9_areLines (l : Launch) (D : va_G) (sz : Nat) (x : Int32) (y : Int32) (z : Int32) : Met l yX9_areLines wsX9_areLines rmX9_areLines (va_Pc [.int x, .int y, .int z] (Pw D [] [] sz)) (qX9_areLines D sz x y z) 0 0 (fun _ => False) := by
  refine Met.ofW (cc := cX9_areLines) (maxL := 3) (ret := (some .boolean)) (by decide) rfl ?_
  intro p e s m args below meth c s₁ B hml hv
  obtain ⟨rfl, hsz, hP, hK, hD0, hN⟩ := hv
  have hx := B.exec
  have hb := B.bytes
  have hr := B.returns
  have hts := atoms_spec (ws := wsX9_areLines) B.pre
  have hown : s.vm.findClass RX9 = some m.cls := findClass_of_methodNamed B.named
  have hlocks := B.notSynchronized
  subst hsz
  obtain ⟨Q, hQe⟩ : ∃ Q, Q = MQ below (qX9_areLines D s.heap.size x y z) ([.int x, .int y, .int z] : List Value).toArray s 0 0 (fun _ => False) := ⟨_, rfl⟩
  rw [← hQe]
  have hD := hD0
  have hP : va_P D vwCl [] s.heap := hP
  have hl := lv_entry ([.int x, .int y, .int z]) (n := 3) (Nat.le_of_ble_eq_true rfl)
  rw [lg_entry_eq]
  generalize (lg_sl ([.int x, .int y, .int z]) ++ List.replicate (3 - (lg_sl ([.int x, .int y, .int z])).length) Slot.unset).toArray = ls at hl ⊢
  have hl : lv_has ls 3 [(0, .int x), (1, .int y), (2, .int z)] := hl
  refine lv_iload_n hx hb dX9_areLines_0 rfl (lv_at hl 0 rfl) ?_
  refine lv_iconst (v := 1) hx hb dX9_areLines_1 (by decide) ?_
  refine lv_icmp_lt (tgt := 19) hx hb dX9_areLines_2 (by decide) (fun c2 => ?_) (fun c2 => ?_)
  · refine lv_iconst (v := 0) hx hb dX9_areLines_19 (by decide) ?_
    have hF : (fX9_areLines x y z) = 0 := by exact (if_pos c2)
    subst hQe
    exact W.zret (v := 0) hx hb hr rfl (fun t ht hW => ⟨_, rfl, hF.symm, ht⟩) (fun q h => absurd h List.not_mem_nil) dX9_areLines_20
  · refine lv_iload_n hx hb dX9_areLines_5 rfl (lv_at hl 0 rfl) ?_
    refine lv_iload_n hx hb dX9_areLines_6 rfl (lv_at hl 1 rfl) ?_
    refine lv_icmp_gt (tgt := 19) hx hb dX9_areLines_7 (by decide) (fun c7 => ?_) (fun c7 => ?_)
    · refine lv_iconst (v := 0) hx hb dX9_areLines_19 (by decide) ?_
      have hF : (fX9_areLines x y z) = 0 := by exact ((if_neg c2).trans (if_pos c7))
      subst hQe
      exact W.zret (v := 0) hx hb hr rfl (fun t ht hW => ⟨_, rfl, hF.symm, ht⟩) (fun q h => absurd h List.not_mem_nil) dX9_areLines_20
    · refine lv_iload_n hx hb dX9_areLines_10 rfl (lv_at hl 1 rfl) ?_
      refine lv_iload_n hx hb dX9_areLines_11 rfl (lv_at hl 2 rfl) ?_
      refine lv_icmp_gt (tgt := 19) hx hb dX9_areLines_12 (by decide) (fun c12 => ?_) (fun c12 => ?_)
      · refine lv_iconst (v := 0) hx hb dX9_areLines_19 (by decide) ?_
        have hF : (fX9_areLines x y z) = 0 := by exact ((if_neg c2).trans ((if_neg c7).trans (if_pos c12)))
        subst hQe
        exact W.zret (v := 0) hx hb hr rfl (fun t ht hW => ⟨_, rfl, hF.symm, ht⟩) (fun q h => absurd h List.not_mem_nil) dX9_areLines_20
      · refine lv_iconst (v := 1) hx hb dX9_areLines_15 (by decide) ?_
        refine lv_goto (tgt := 20) hx hb dX9_areLines_16 (by decide) ?_
        have hF : (fX9_areLines x y z) = 1 := by exact ((if_neg c2).trans ((if_neg c7).trans (if_neg c12)))
        subst hQe
        exact W.zret (v := 1) hx hb hr rfl (fun t ht hW => ⟨_, rfl, hF.symm, ht⟩) (fun q h => absurd h List.not_mem_nil) dX9_areLines_20

def fX9_areAllLines (x : Int32) (y : Int32) (z : Int32) : Int32 := if x = 1 then (if y = z then 1 else 0) else 0
theorem zb_X9_areAllLines (x : Int32) (y : Int32) (z : Int32) : isB (fX9_areAllLines x y z) := by
  unfold fX9_areAllLines
  (try dsimp only)
  repeat' split
  all_goals first | exact Or.inl rfl | exact Or.inr rfl
abbrev rmX9_areAllLines : Room := { frames := 0, cells := 0, slots := 0, locals := 0 }
abbrev qX9_areAllLines (D : va_G) (sz : Nat) (x : Int32) (y : Int32) (z : Int32) : Array Value → State → Outcome → State → Prop := vp_Si (fun r => r = (fX9_areAllLines x y z))
set_option maxHeartbeats 4000000 in
set_option maxRecDepth 100000 in
theorem kX9_areAllLines (l : Launch) (D : va_G) (sz : Nat) (x : Int32) (y : Int32) (z : Int32) : Met l yX9_areAllLines wsX9_areAllLines rmX9_areAllLines (va_Pc [.int x, .int y, .int z] (Pw D [] [] sz)) (qX9_areAllLines D sz x y z) 0 0 (fun _ => False) := by
  refine Met.ofW (cc := cX9_areAllLines) (maxL := 3) (ret := (some .boolean)) (by decide) rfl ?_
  intro p e s m args below meth c s₁ B hml hv
  obtain ⟨rfl, hsz, hP, hK, hD0, hN⟩ := hv
  have hx := B.exec
  have hb := B.bytes
  have hr := B.returns
  have hts := atoms_spec (ws := wsX9_areAllLines) B.pre
  have hown : s.vm.findClass RX9 = some m.cls := findClass_of_methodNamed B.named
  have hlocks := B.notSynchronized
  subst hsz
  obtain ⟨Q, hQe⟩ : ∃ Q, Q = MQ below (qX9_areAllLines D s.heap.size x y z) ([.int x, .int y, .int z] : List Value).toArray s 0 0 (fun _ => False) := ⟨_, rfl⟩
  rw [← hQe]
  have hD := hD0
  have hP : va_P D vwCl [] s.heap := hP
  have hl := lv_entry ([.int x, .int y, .int z]) (n := 3) (Nat.le_of_ble_eq_true rfl)
  rw [lg_entry_eq]
  generalize (lg_sl ([.int x, .int y, .int z]) ++ List.replicate (3 - (lg_sl ([.int x, .int y, .int z])).length) Slot.unset).toArray = ls at hl ⊢
  have hl : lv_has ls 3 [(0, .int x), (1, .int y), (2, .int z)] := hl
  refine lv_iload_n hx hb dX9_areAllLines_0 rfl (lv_at hl 0 rfl) ?_
  refine lv_iconst (v := 1) hx hb dX9_areAllLines_1 (by decide) ?_
  refine lv_icmp_ne (tgt := 14) hx hb dX9_areAllLines_2 (by decide) (fun c2 => ?_) (fun c2 => ?_)
  · refine lv_iconst (v := 0) hx hb dX9_areAllLines_14 (by decide) ?_
    have hF : (fX9_areAllLines x y z) = 0 := by exact (if_neg c2)
    subst hQe
    exact W.zret (v := 0) hx hb hr rfl (fun t ht hW => ⟨_, rfl, hF.symm, ht⟩) (fun q h => absurd h List.not_mem_nil) dX9_areAllLines_15
  · refine lv_iload_n hx hb dX9_areAllLines_5 rfl (lv_at hl 1 rfl) ?_
    refine lv_iload_n hx hb dX9_areAllLines_6 rfl (lv_at hl 2 rfl) ?_
    refine lv_icmp_ne (tgt := 14) hx hb dX9_areAllLines_7 (by decide) (fun c7 => ?_) (fun c7 => ?_)
    · refine lv_iconst (v := 0) hx hb dX9_areAllLines_14 (by decide) ?_
      have hF : (fX9_areAllLines x y z) = 0 := by exact ((if_pos c2).trans (if_neg c7))
      subst hQe
      exact W.zret (v := 0) hx hb hr rfl (fun t ht hW => ⟨_, rfl, hF.symm, ht⟩) (fun q h => absurd h List.not_mem_nil) dX9_areAllLines_15
    · refine lv_iconst (v := 1) hx hb dX9_areAllLines_10 (by decide) ?_
      refine lv_goto (tgt := 15) hx hb dX9_areAllLines_11 (by decide) ?_
      have hF : (fX9_areAllLines x y z) = 1 := by exact ((if_pos c2).trans (if_pos c7))
      subst hQe
      exact W.zret (v := 1) hx hb hr rfl (fun t ht hW => ⟨_, rfl, hF.symm, ht⟩) (fun q h => absurd h List.not_mem_nil) dX9_areAllLines_15

def fX9_has (x : Int32) (y : Int32) : Int32 := if (x &&& y) = 0 then 0 else 1
theorem zb_X9_has (x : Int32) (y : Int32) : isB (fX9_has x y) := by
  unfold fX9_has
  (try dsimp only)
  repeat' split
  all_goals first | exact Or.inl rfl | exact Or.inr rfl
abbrev rmX9_has : Room := { frames := 0, cells := 0, slots := 0, locals := 0 }
abbrev qX9_has (D : va_G) (sz : Nat) (x : Int32) (y : Int32) : Array Value → State → Outcome → State → Prop := vp_Si (fun r => r = (fX9_has x y))
set_option maxHeartbeats 4000000 in
set_option maxRecDepth 100000 in
theorem kX9_has (l : Launch) (D : va_G) (sz : Nat) (x : Int32) (y : Int32) : Met l yX9_has wsX9_has rmX9_has (va_Pc [.int x, .int y] (Pw D [] [] sz)) (qX9_has D sz x y) 0 0 (fun _ => False) := by
  refine Met.ofW (cc := cX9_has) (maxL := 2) (ret := (some .boolean)) (by decide) rfl ?_
  intro p e s m args below meth c s₁ B hml hv
  obtain ⟨rfl, hsz, hP, hK, hD0, hN⟩ := hv
  have hx := B.exec
  have hb := B.bytes
  have hr := B.returns
  have hts := atoms_spec (ws := wsX9_has) B.pre
  have hown : s.vm.findClass RX9 = some m.cls := findClass_of_methodNamed B.named
  have hlocks := B.notSynchronized
  subst hsz
  obtain ⟨Q, hQe⟩ : ∃ Q, Q = MQ below (qX9_has D s.heap.size x y) ([.int x, .int y] : List Value).toArray s 0 0 (fun _ => False) := ⟨_, rfl⟩
  rw [← hQe]
  have hD := hD0
  have hP : va_P D vwCl [] s.heap := hP
  have hl := lv_entry ([.int x, .int y]) (n := 2) (Nat.le_of_ble_eq_true rfl)
  rw [lg_entry_eq]
  generalize (lg_sl ([.int x, .int y]) ++ List.replicate (2 - (lg_sl ([.int x, .int y])).length) Slot.unset).toArray = ls at hl ⊢
  have hl : lv_has ls 2 [(0, .int x), (1, .int y)] := hl
  refine lv_iload_n hx hb dX9_has_0 rfl (lv_at hl 0 rfl) ?_
  refine lv_iload_n hx hb dX9_has_1 rfl (lv_at hl 1 rfl) ?_
  refine lv_iand hx hb dX9_has_2 ?_
  refine lv_if_eq (tgt := 10) hx hb dX9_has_3 (by decide) (fun c3 => ?_) (fun c3 => ?_)
  · refine lv_iconst (v := 0) hx hb dX9_has_10 (by decide) ?_
    have hF : (fX9_has x y) = 0 := by exact (if_pos c3)
    subst hQe
    exact W.zret (v := 0) hx hb hr rfl (fun t ht hW => ⟨_, rfl, hF.symm, ht⟩) (fun q h => absurd h List.not_mem_nil) dX9_has_11
  · refine lv_iconst (v := 1) hx hb dX9_has_6 (by decide) ?_
    refine lv_goto (tgt := 11) hx hb dX9_has_7 (by decide) ?_
    have hF : (fX9_has x y) = 1 := by exact (if_neg c3)
    subst hQe
    exact W.zret (v := 1) hx hb hr rfl (fun t ht hW => ⟨_, rfl, hF.symm, ht⟩) (fun q h => absurd h List.not_mem_nil) dX9_has_11

def fX9_isOfKind (x : Int32) (y : Int32) : Int32 := if x < 0 then 0 else (if (x - x / 16 * 16) = y then 1 else 0)
theorem zb_X9_isOfKind (x : Int32) (y : Int32) : isB (fX9_isOfKind x y) := by
  unfold fX9_isOfKind
  (try dsimp only)
  repeat' split
  all_goals first | exact Or.inl rfl | exact Or.inr rfl
abbrev rmX9_isOfKind : Room := { frames := 0, cells := 0, slots := 0, locals := 0 }
abbrev qX9_isOfKind (D : va_G) (sz : Nat) (x : Int32) (y : Int32) : Array Value → State → Outcome → State → Prop := vp_Si (fun r => r = (fX9_isOfKind x y))
set_option maxHeartbeats 4000000 in
set_option maxRecDepth 100000 in
theorem kX9_isOfKind (l : Launch) (D : va_G) (sz : Nat) (x : Int32) (y : Int32) : Met l yX9_isOfKind wsX9_isOfKind rmX9_isOfKind (va_Pc [.int x, .int y] (Pw D [] [] sz)) (qX9_isOfKind D sz x y) 0 0 (fun _ => False) := by
  refine Met.ofW (cc := cX9_isOfKind) (maxL := 2) (ret := (some .boolean)) (by decide) rfl ?_
  intro p e s m args below meth c s₁ B hml hv
  obtain ⟨rfl, hsz, hP, hK, hD0, hN⟩ := hv
  have hx := B.exec
  have hb := B.bytes
  have hr := B.returns
  have hts := atoms_spec (ws := wsX9_isOfKind) B.pre
  have hown : s.vm.findClass RX9 = some m.cls := findClass_of_methodNamed B.named
  have hlocks := B.notSynchronized
  subst hsz
  obtain ⟨Q, hQe⟩ : ∃ Q, Q = MQ below (qX9_isOfKind D s.heap.size x y) ([.int x, .int y] : List Value).toArray s 0 0 (fun _ => False) := ⟨_, rfl⟩
  rw [← hQe]
  have hD := hD0
  have hP : va_P D vwCl [] s.heap := hP
  have hl := lv_entry ([.int x, .int y]) (n := 2) (Nat.le_of_ble_eq_true rfl)
  rw [lg_entry_eq]
  generalize (lg_sl ([.int x, .int y]) ++ List.replicate (2 - (lg_sl ([.int x, .int y])).length) Slot.unset).toArray = ls at hl ⊢
  have hl : lv_has ls 2 [(0, .int x), (1, .int y)] := hl
  refine lv_iload_n hx hb dX9_isOfKind_0 rfl (lv_at hl 0 rfl) ?_
  refine lv_if_lt (tgt := 16) hx hb dX9_isOfKind_1 (by decide) (fun c1 => ?_) (fun c1 => ?_)
  · refine lv_iconst (v := 0) hx hb dX9_isOfKind_16 (by decide) ?_
    have hF : (fX9_isOfKind x y) = 0 := by exact (if_pos c1)
    subst hQe
    exact W.zret (v := 0) hx hb hr rfl (fun t ht hW => ⟨_, rfl, hF.symm, ht⟩) (fun q h => absurd h List.not_mem_nil) dX9_isOfKind_17
  · refine lv_iload_n hx hb dX9_isOfKind_4 rfl (lv_at hl 0 rfl) ?_
    refine lv_bipush (v := 16) hx hb dX9_isOfKind_5 (by decide) ?_
    refine lv_irem hx hb dX9_isOfKind_7 (by decide) ?_
    refine lv_iload_n hx hb dX9_isOfKind_8 rfl (lv_at hl 1 rfl) ?_
    refine lv_icmp_ne (tgt := 16) hx hb dX9_isOfKind_9 (by decide) (fun c9 => ?_) (fun c9 => ?_)
    · refine lv_iconst (v := 0) hx hb dX9_isOfKind_16 (by decide) ?_
      have hF : (fX9_isOfKind x y) = 0 := by exact ((if_neg c1).trans (if_neg c9))
      subst hQe
      exact W.zret (v := 0) hx hb hr rfl (fun t ht hW => ⟨_, rfl, hF.symm, ht⟩) (fun q h => absurd h List.not_mem_nil) dX9_isOfKind_17
    · refine lv_iconst (v := 1) hx hb dX9_isOfKind_12 (by decide) ?_
      refine lv_goto (tgt := 17) hx hb dX9_isOfKind_13 (by decide) ?_
      have hF : (fX9_isOfKind x y) = 1 := by exact ((if_neg c1).trans (if_pos c9))
      subst hQe
      exact W.zret (v := 1) hx hb hr rfl (fun t ht hW => ⟨_, rfl, hF.symm, ht⟩) (fun q h => absurd h List.not_mem_nil) dX9_isOfKind_17

def fX9_itemLength (x : Int32) : Int32 := if (fX9_isOfKind x 4) = 0 then (if (fX9_isOfKind x 5) = 0 then 1 else 6) else 4
abbrev rmX9_itemLength : Room := { frames := 1, cells := 0, slots := 0, locals := 21 }
abbrev qX9_itemLength (D : va_G) (sz : Nat) (x : Int32) : Array Value → State → Outcome → State → Prop := vp_Si (fun r => r = (fX9_itemLength x))
set_option maxHeartbeats 4000000 in
set_option maxRecDepth 100000 in
theorem kX9_itemLength (l : Launch) (D : va_G) (sz : Nat) (x : Int32) : Met l yX9_itemLength wsX9_itemLength rmX9_itemLength (va_Pc [.int x] (Pw D [] [] sz)) (qX9_itemLength D sz x) 0 0 (fun _ => False) := by
  refine Met.ofW (cc := cX9_itemLength) (maxL := 1) (ret := (some .int)) (by decide) rfl ?_
  intro p e s m args below meth c s₁ B hml hv
  obtain ⟨rfl, hsz, hP, hK, hD0, hN⟩ := hv
  have hx := B.exec
  have hb := B.bytes
  have hr := B.returns
  have hts := atoms_spec (ws := wsX9_itemLength) B.pre
  have hown : s.vm.findClass RX9 = some m.cls := findClass_of_methodNamed B.named
  have hlocks := B.notSynchronized
  subst hsz
  obtain ⟨Q, hQe⟩ : ∃ Q, Q = MQ below (qX9_itemLength D s.heap.size x) ([.int x] : List Value).toArray s 0 0 (fun _ => False) := ⟨_, rfl⟩
  rw [← hQe]
  have hD := hD0
  have hP : va_P D vwCl [] s.heap := hP
  have hl := lv_entry ([.int x]) (n := 1) (Nat.le_of_ble_eq_true rfl)
  rw [lg_entry_eq]
  generalize (lg_sl ([.int x]) ++ List.replicate (1 - (lg_sl ([.int x])).length) Slot.unset).toArray = ls at hl ⊢
  have hl : lv_has ls 1 [(0, .int x)] := hl
  refine lv_iload_n hx hb dX9_itemLength_0 rfl (lv_at hl 0 rfl) ?_
  refine lv_iconst (v := 4) hx hb dX9_itemLength_1 (by decide) ?_
  have hPc := hP.sub (ws' := []) [] rfl
  have hDc := hD.sub (ws' := []) [] (by decide) rfl
  have hKc := hK.sub (tys' := []) [] rfl
  refine rd_i (va_runS (As := [.int x, .int 4]) (rest := []) ⟨hx, hb, hml, hown, hts⟩ (kX9_isOfKind l D s.heap.size x 4 ) (va_cwS 2 hts gX9_itemLength_X9_isOfKind rfl rfl rfl (by decide +kernel) ⟨Nat.le_of_ble_eq_true rfl, Nat.le_of_ble_eq_true rfl⟩) ⟨Pw_blind, fun U hU hW => Pw_at hKc hPc hDc hN hU hW⟩ rfl rfl hl.1 rfl (lv_room (Nat.le_of_ble_eq_true rfl)) dX9_itemLength_2 ⟨Nat.le_of_ble_eq_true rfl, Nat.le_of_ble_eq_true rfl⟩) ?_
  refine lv_if_eq (tgt := 10) hx hb dX9_itemLength_5 (by decide) (fun c5 => ?_) (fun c5 => ?_)
  · refine lv_iload_n hx hb dX9_itemLength_10 rfl (lv_at hl 0 rfl) ?_
    refine lv_iconst (v := 5) hx hb dX9_itemLength_11 (by decide) ?_
    have hPc := hP.sub (ws' := []) [] rfl
    have hDc := hD.sub (ws' := []) [] (by decide) rfl
    have hKc := hK.sub (tys' := []) [] rfl
    refine rd_i (va_runS (As := [.int x, .int 5]) (rest := []) ⟨hx, hb, hml, hown, hts⟩ (kX9_isOfKind l D s.heap.size x 5 ) (va_cwS 2 hts gX9_itemLength_X9_isOfKind rfl rfl rfl (by decide +kernel) ⟨Nat.le_of_ble_eq_true rfl, Nat.le_of_ble_eq_true rfl⟩) ⟨Pw_blind, fun U hU hW => Pw_at hKc hPc hDc hN hU hW⟩ rfl rfl hl.1 rfl (lv_room (Nat.le_of_ble_eq_true rfl)) dX9_itemLength_12 ⟨Nat.le_of_ble_eq_true rfl, Nat.le_of_ble_eq_true rfl⟩) ?_
    refine lv_if_eq (tgt := 23) hx hb dX9_itemLength_15 (by decide) (fun c15 => ?_) (fun c15 => ?_)
    · refine lv_iconst (v := 1) hx hb dX9_itemLength_23 (by decide) ?_
      have hF : (fX9_itemLength x) = 1 := by exact ((if_pos c5).trans (if_pos c15))
      subst hQe
      exact W.iret (v := 1) hx hb hr (fun t ht hW => ⟨_, rfl, hF.symm, ht⟩) (fun q h => absurd h List.not_mem_nil) dX9_itemLength_24
    · refine lv_bipush (v := 6) hx hb dX9_itemLength_18 (by decide) ?_
      refine lv_goto (tgt := 24) hx hb dX9_itemLength_20 (by decide) ?_
      have hF : (fX9_itemLength x) = 6 := by exact ((if_pos c5).trans (if_neg c15))
      subst hQe
      exact W.iret (v := 6) hx hb hr (fun t ht hW => ⟨_, rfl, hF.symm, ht⟩) (fun q h => absurd h List.not_mem_nil) dX9_itemLength_24
  · refine lv_iconst (v := 4) hx hb dX9_itemLength_8 (by decide) ?_
    have hF : (fX9_itemLength x) = 4 := by exact (if_neg c5)
    subst hQe
    exact W.iret (v := 4) hx hb hr (fun t ht hW => ⟨_, rfl, hF.symm, ht⟩) (fun q h => absurd h List.not_mem_nil) dX9_itemLength_9

def fX8_setFirst (x : Int32) (z : Int32) : Int32 × Int32 := (x, z)
abbrev rmX8_setFirst : Room := { frames := 0, cells := 0, slots := 0, locals := 0 }
abbrev qX8_setFirst (D : va_G) (sz : Nat) (h0 : Nat) (ll : Int32) (fi : Int32) (la : Int32) (ff : Int32) (lf : Int32) (x : Int32) (z : Int32) : Array Value → State → Outcome → State → Prop := va_Qv (fun w => ∃ _u : Unit, True ∧ w = [(h0, .inr (6, [.int ll, .int (fX8_setFirst x z).1, .int la, .int (fX8_setFirst x z).2, .int lf]))]) (Bq D (va_A [(h0, .inr (6, [.int ll, .int fi, .int la, .int ff, .int lf]))] sz)) (va_A [(h0, .inr (6, [.int ll, .int fi, .int la, .int ff, .int lf]))] sz)
set_option maxHeartbeats 4000000 in
set_option maxRecDepth 100000 in
theorem kX8_setFirst (l : Launch) (D : va_G) (sz : Nat) (h0 : Nat) (ll : Int32) (fi : Int32) (la : Int32) (ff : Int32) (lf : Int32) (x : Int32) (z : Int32) (hz : isB z) : Met l yX8_setFirst wsX8_setFirst rmX8_setFirst (va_Pc [.ref h0, .int x, .int z] (Pw D [] [(h0, .inr (6, [.int ll, .int fi, .int la, .int ff, .int lf]))] sz)) (qX8_setFirst D sz h0 ll fi la ff lf x z) 0 0 (va_A [(h0, .inr (6, [.int ll, .int fi, .int la, .int ff, .int lf]))] sz) := by
  refine Met.ofW (cc := cX8_setFirst) (maxL := 3) (ret := none) (by decide) rfl ?_
  intro p e s m args below meth c s₁ B hml hv
  obtain ⟨rfl, hsz, hP, hK, hD0, hN⟩ := hv
  have hx := B.exec
  have hb := B.bytes
  have hr := B.returns
  have hts := atoms_spec (ws := wsX8_setFirst) B.pre
  have hown : s.vm.findClass RX8 = some m.cls := findClass_of_methodNamed B.named
  have hlocks := B.notSynchronized
  subst hsz
  obtain ⟨Q, hQe⟩ : ∃ Q, Q = MQ below (qX8_setFirst D s.heap.size h0 ll fi la ff lf x z) ([.ref h0, .int x, .int z] : List Value).toArray s 0 0 (va_A [(h0, .inr (6, [.int ll, .int fi, .int la, .int ff, .int lf]))] s.heap.size) := ⟨_, rfl⟩
  rw [← hQe]
  obtain ⟨A, hAe⟩ : ∃ A, A = va_A [(h0, .inr (6, [.int ll, .int fi, .int la, .int ff, .int lf]))] s.heap.size := ⟨_, rfl⟩
  have hD : va_D A [(h0, .inr (6, [.int ll, .int fi, .int la, .int ff, .int lf]))] := by rw [hAe]; exact hD0.self
  have hA : ∀ q : Nat, s.heap.size ≤ q → A q := by rw [hAe]; exact mo_A
  have hS : va_S A s.heap s.heap [] := va_S.rf
  obtain ⟨H, hHe⟩ : ∃ H, H = s.heap := ⟨_, rfl⟩
  obtain ⟨locs, hLe⟩ : ∃ L : List Loc, L = [] := ⟨_, rfl⟩
  have hP : va_P D vwCl [(h0, .inr (6, [.int ll, .int fi, .int la, .int ff, .int lf]))] H := by rw [hHe]; exact hP
  have hS : va_S A s.heap H locs := by rw [hHe, hLe]; exact hS
  have hl := lv_entry ([.ref h0, .int x, .int z]) (n := 3) (Nat.le_of_ble_eq_true rfl)
  rw [lg_entry_eq]
  generalize (lg_sl ([.ref h0, .int x, .int z]) ++ List.replicate (3 - (lg_sl ([.ref h0, .int x, .int z])).length) Slot.unset).toArray = ls at hl ⊢
  have hl : lv_has ls 3 [(0, .ref h0), (1, .int x), (2, .int z)] := hl
  refine hStart hHe hLe ?_
  clear hHe hLe
  have w_X8 : ∀ w ∈ wsX80, w ∈ wsX8_setFirst := by decide +kernel
  have f_13 := hts (.fieldLink RX8 13 "ReferenceMover$Span" "first" "I") (by decide +kernel)
  have f_16 := hts (.fieldLink RX8 16 "ReferenceMover$Span" "firstFixed" "Z") (by decide +kernel)
  refine lv_aload_n hx hb dX8_setFirst_0 rfl (lv_at hl 0 rfl) ?_
  refine lv_iload_n hx hb dX8_setFirst_1 rfl (lv_at hl 1 rfl) ?_
  refine va_put (D := D) (ci := 6) (v := .int x) (ty := .int) (C := RX8) (T := TX8) (N := 5) hx hb hts w_X8 tyX8 tyX8_ok nmX8 hown hK hP hD hS 0 rfl rfl 1 (by decide) f_13 (fun _ h9 => h9) rfl (by decide +kernel) rfl rfl (Nat.le_of_ble_eq_true rfl) dX8_setFirst_2 (fun H locs hP hD hS => ?_)
  have hP : va_P D vwCl [(h0, .inr (6, [.int ll, .int x, .int la, .int ff, .int lf]))] H := hP
  have hD : va_D A [(h0, .inr (6, [.int ll, .int x, .int la, .int ff, .int lf]))] := hD
  refine lv_aload_n hx hb dX8_setFirst_5 rfl (lv_at hl 0 rfl) ?_
  refine lv_iload_n hx hb dX8_setFirst_6 rfl (lv_at hl 2 rfl) ?_
  refine va_put (D := D) (ci := 6) (v := .int z) (ty := .boolean) (C := RX8) (T := TX8) (N := 5) hx hb hts w_X8 tyX8 tyX8_ok nmX8 hown hK hP hD hS 0 rfl rfl 3 (by decide) f_16 (fun _ h9 => h9) rfl (by decide +kernel) (isB.nar (by first | assumption | (subst_vars; repeat' split; all_goals first | exact Or.inl rfl | exact Or.inr rfl))) (isB.fit (by first | assumption | (subst_vars; repeat' split; all_goals first | exact Or.inl rfl | exact Or.inr rfl))) (Nat.le_of_ble_eq_true rfl) dX8_setFirst_7 (fun H locs hP hD hS => ?_)
  have hP : va_P D vwCl [(h0, .inr (6, [.int ll, .int x, .int la, .int z, .int lf]))] H := hP
  have hD : va_D A [(h0, .inr (6, [.int ll, .int x, .int la, .int z, .int lf]))] := hD
  have hF : (fX8_setFirst x z) = (x, z) := by exact rfl
  subst hAe
  subst hQe
  exact W.vret hx hb hr (fun t ht hW => ⟨⟨_, rfl, ⟨(), trivial, by rw [hF]⟩, by rw [ht]; exact hP, hD⟩, hS.F ht⟩) hS.2.2 dX8_setFirst_10

def fX8_setLast (x : Int32) (z : Int32) : Int32 × Int32 := (x, z)
abbrev rmX8_setLast : Room := { frames := 0, cells := 0, slots := 0, locals := 0 }
abbrev qX8_setLast (D : va_G) (sz : Nat) (h0 : Nat) (ll : Int32) (fi : Int32) (la : Int32) (ff : Int32) (lf : Int32) (x : Int32) (z : Int32) : Array Value → State → Outcome → State → Prop := va_Qv (fun w => ∃ _u : Unit, True ∧ w = [(h0, .inr (6, [.int ll, .int fi, .int (fX8_setLast x z).1, .int ff, .int (fX8_setLast x z).2]))]) (Bq D (va_A [(h0, .inr (6, [.int ll, .int fi, .int la, .int ff, .int lf]))] sz)) (va_A [(h0, .inr (6, [.int ll, .int fi, .int la, .int ff, .int lf]))] sz)
set_option maxHeartbeats 4000000 in
set_option maxRecDepth 100000 in
theorem kX8_setLast (l : Launch) (D : va_G) (sz : Nat) (h0 : Nat) (ll : Int32) (fi : Int32) (la : Int32) (ff : Int32) (lf : Int32) (x : Int32) (z : Int32) (hz : isB z) : Met l yX8_setLast wsX8_setLast rmX8_setLast (va_Pc [.ref h0, .int x, .int z] (Pw D [] [(h0, .inr (6, [.int ll, .int fi, .int la, .int ff, .int lf]))] sz)) (qX8_setLast D sz h0 ll fi la ff lf x z) 0 0 (va_A [(h0, .inr (6, [.int ll, .int fi, .int la, .int ff, .int lf]))] sz) := by
  refine Met.ofW (cc := cX8_setLast) (maxL := 3) (ret := none) (by decide) rfl ?_
  intro p e s m args below meth c s₁ B hml hv
  obtain ⟨rfl, hsz, hP, hK, hD0, hN⟩ := hv
  have hx := B.exec
  have hb := B.bytes
  have hr := B.returns
  have hts := atoms_spec (ws := wsX8_setLast) B.pre
  have hown : s.vm.findClass RX8 = some m.cls := findClass_of_methodNamed B.named
  have hlocks := B.notSynchronized
  subst hsz
  obtain ⟨Q, hQe⟩ : ∃ Q, Q = MQ below (qX8_setLast D s.heap.size h0 ll fi la ff lf x z) ([.ref h0, .int x, .int z] : List Value).toArray s 0 0 (va_A [(h0, .inr (6, [.int ll, .int fi, .int la, .int ff, .int lf]))] s.heap.size) := ⟨_, rfl⟩
  rw [← hQe]
  obtain ⟨A, hAe⟩ : ∃ A, A = va_A [(h0, .inr (6, [.int ll, .int fi, .int la, .int ff, .int lf]))] s.heap.size := ⟨_, rfl⟩
  have hD : va_D A [(h0, .inr (6, [.int ll, .int fi, .int la, .int ff, .int lf]))] := by rw [hAe]; exact hD0.self
  have hA : ∀ q : Nat, s.heap.size ≤ q → A q := by rw [hAe]; exact mo_A
  have hS : va_S A s.heap s.heap [] := va_S.rf
  obtain ⟨H, hHe⟩ : ∃ H, H = s.heap := ⟨_, rfl⟩
  obtain ⟨locs, hLe⟩ : ∃ L : List Loc, L = [] := ⟨_, rfl⟩
  have hP : va_P D vwCl [(h0, .inr (6, [.int ll, .int fi, .int la, .int ff, .int lf]))] H := by rw [hHe]; exact hP
  have hS : va_S A s.heap H locs := by rw [hHe, hLe]; exact hS
  have hl := lv_entry ([.ref h0, .int x, .int z]) (n := 3) (Nat.le_of_ble_eq_true rfl)
  rw [lg_entry_eq]
  generalize (lg_sl ([.ref h0, .int x, .int z]) ++ List.replicate (3 - (lg_sl ([.ref h0, .int x, .int z])).length) Slot.unset).toArray = ls at hl ⊢
  have hl : lv_has ls 3 [(0, .ref h0), (1, .int x), (2, .int z)] := hl
  refine hStart hHe hLe ?_
  clear hHe hLe
  have w_X8 : ∀ w ∈ wsX80, w ∈ wsX8_setLast := by decide +kernel
  have f_20 := hts (.fieldLink RX8 20 "ReferenceMover$Span" "last" "I") (by decide +kernel)
  have f_23 := hts (.fieldLink RX8 23 "ReferenceMover$Span" "lastFixed" "Z") (by decide +kernel)
  refine lv_aload_n hx hb dX8_setLast_0 rfl (lv_at hl 0 rfl) ?_
  refine lv_iload_n hx hb dX8_setLast_1 rfl (lv_at hl 1 rfl) ?_
  refine va_put (D := D) (ci := 6) (v := .int x) (ty := .int) (C := RX8) (T := TX8) (N := 5) hx hb hts w_X8 tyX8 tyX8_ok nmX8 hown hK hP hD hS 0 rfl rfl 2 (by decide) f_20 (fun _ h9 => h9) rfl (by decide +kernel) rfl rfl (Nat.le_of_ble_eq_true rfl) dX8_setLast_2 (fun H locs hP hD hS => ?_)
  have hP : va_P D vwCl [(h0, .inr (6, [.int ll, .int fi, .int x, .int ff, .int lf]))] H := hP
  have hD : va_D A [(h0, .inr (6, [.int ll, .int fi, .int x, .int ff, .int lf]))] := hD
  refine lv_aload_n hx hb dX8_setLast_5 rfl (lv_at hl 0 rfl) ?_
  refine lv_iload_n hx hb dX8_setLast_6 rfl (lv_at hl 2 rfl) ?_
  refine va_put (D := D) (ci := 6) (v := .int z) (ty := .boolean) (C := RX8) (T := TX8) (N := 5) hx hb hts w_X8 tyX8 tyX8_ok nmX8 hown hK hP hD hS 0 rfl rfl 4 (by decide) f_23 (fun _ h9 => h9) rfl (by decide +kernel) (isB.nar (by first | assumption | (subst_vars; repeat' split; all_goals first | exact Or.inl rfl | exact Or.inr rfl))) (isB.fit (by first | assumption | (subst_vars; repeat' split; all_goals first | exact Or.inl rfl | exact Or.inr rfl))) (Nat.le_of_ble_eq_true rfl) dX8_setLast_7 (fun H locs hP hD hS => ?_)
  have hP : va_P D vwCl [(h0, .inr (6, [.int ll, .int fi, .int x, .int ff, .int z]))] H := hP
  have hD : va_D A [(h0, .inr (6, [.int ll, .int fi, .int x, .int ff, .int z]))] := hD
  have hF : (fX8_setLast x z) = (x, z) := by exact rfl
  subst hAe
  subst hQe
  exact W.vret hx hb hr (fun t ht hW => ⟨⟨_, rfl, ⟨(), trivial, by rw [hF]⟩, by rw [ht]; exact hP, hD⟩, hS.F ht⟩) hS.2.2 dX8_setLast_10

def fX8_isWithin (fi : Int32) (la : Int32) (x : Int32) (y : Int32) : Int32 := if fi < x then 0 else (if y < la then 0 else 1)
theorem zb_X8_isWithin (fi : Int32) (la : Int32) (x : Int32) (y : Int32) : isB (fX8_isWithin fi la x y) := by
  unfold fX8_isWithin
  (try dsimp only)
  repeat' split
  all_goals first | exact Or.inl rfl | exact Or.inr rfl
abbrev rmX8_isWithin : Room := { frames := 0, cells := 0, slots := 0, locals := 0 }
abbrev qX8_isWithin (D : va_G) (sz : Nat) (h0 : Nat) (ll : Int32) (fi : Int32) (la : Int32) (ff : Int32) (lf : Int32) (x : Int32) (y : Int32) : Array Value → State → Outcome → State → Prop := vp_Si (fun r => r = (fX8_isWithin fi la x y))
set_option maxHeartbeats 4000000 in
set_option maxRecDepth 100000 in
theorem kX8_isWithin (l : Launch) (D : va_G) (sz : Nat) (h0 : Nat) (ll : Int32) (fi : Int32) (la : Int32) (ff : Int32) (lf : Int32) (x : Int32) (y : Int32) : Met l yX8_isWithin wsX8_isWithin rmX8_isWithin (va_Pc [.ref h0, .int x, .int y] (Pw D [] [(h0, .inr (6, [.int ll, .int fi, .int la, .int ff, .int lf]))] sz)) (qX8_isWithin D sz h0 ll fi la ff lf x y) 0 0 (fun _ => False) := by
  refine Met.ofW (cc := cX8_isWithin) (maxL := 3) (ret := (some .boolean)) (by decide) rfl ?_
  intro p e s m args below meth c s₁ B hml hv
  obtain ⟨rfl, hsz, hP, hK, hD0, hN⟩ := hv
  have hx := B.exec
  have hb := B.bytes
  have hr := B.returns
  have hts := atoms_spec (ws := wsX8_isWithin) B.pre
  have hown : s.vm.findClass RX8 = some m.cls := findClass_of_methodNamed B.named
  have hlocks := B.notSynchronized
  subst hsz
  obtain ⟨Q, hQe⟩ : ∃ Q, Q = MQ below (qX8_isWithin D s.heap.size h0 ll fi la ff lf x y) ([.ref h0, .int x, .int y] : List Value).toArray s 0 0 (fun _ => False) := ⟨_, rfl⟩
  rw [← hQe]
  have hD := hD0
  have hP : va_P D vwCl [(h0, .inr (6, [.int ll, .int fi, .int la, .int ff, .int lf]))] s.heap := hP
  have hl := lv_entry ([.ref h0, .int x, .int y]) (n := 3) (Nat.le_of_ble_eq_true rfl)
  rw [lg_entry_eq]
  generalize (lg_sl ([.ref h0, .int x, .int y]) ++ List.replicate (3 - (lg_sl ([.ref h0, .int x, .int y])).length) Slot.unset).toArray = ls at hl ⊢
  have hl : lv_has ls 3 [(0, .ref h0), (1, .int x), (2, .int y)] := hl
  have w_X8 : ∀ w ∈ wsX80, w ∈ wsX8_isWithin := by decide +kernel
  have f_13 := hts (.fieldLink RX8 13 "ReferenceMover$Span" "first" "I") (by decide +kernel)
  have f_20 := hts (.fieldLink RX8 20 "ReferenceMover$Span" "last" "I") (by decide +kernel)
  refine lv_aload_n hx hb dX8_isWithin_0 rfl (lv_at hl 0 rfl) ?_
  refine va_get (D := D) (ci := 6) (v := .int fi) (C := RX8) (T := TX8) (N := 5) hx hb hts w_X8 hown hK hP 0 rfl rfl 1 (by decide) f_13 (fun _ h9 => h9) rfl dX8_isWithin_1 ?_
  refine lv_iload_n hx hb dX8_isWithin_4 rfl (lv_at hl 1 rfl) ?_
  refine lv_icmp_lt (tgt := 20) hx hb dX8_isWithin_5 (by decide) (fun c5 => ?_) (fun c5 => ?_)
  · refine lv_iconst (v := 0) hx hb dX8_isWithin_20 (by decide) ?_
    have hF : (fX8_isWithin fi la x y) = 0 := by exact (if_pos c5)
    subst hQe
    exact W.zret (v := 0) hx hb hr rfl (fun t ht hW => ⟨_, rfl, hF.symm, ht⟩) (fun q h => absurd h List.not_mem_nil) dX8_isWithin_21
  · refine lv_aload_n hx hb dX8_isWithin_8 rfl (lv_at hl 0 rfl) ?_
    refine va_get (D := D) (ci := 6) (v := .int la) (C := RX8) (T := TX8) (N := 5) hx hb hts w_X8 hown hK hP 0 rfl rfl 2 (by decide) f_20 (fun _ h9 => h9) rfl dX8_isWithin_9 ?_
    refine lv_iload_n hx hb dX8_isWithin_12 rfl (lv_at hl 2 rfl) ?_
    refine lv_icmp_gt (tgt := 20) hx hb dX8_isWithin_13 (by decide) (fun c13 => ?_) (fun c13 => ?_)
    · refine lv_iconst (v := 0) hx hb dX8_isWithin_20 (by decide) ?_
      have hF : (fX8_isWithin fi la x y) = 0 := by exact ((if_neg c5).trans (if_pos c13))
      subst hQe
      exact W.zret (v := 0) hx hb hr rfl (fun t ht hW => ⟨_, rfl, hF.symm, ht⟩) (fun q h => absurd h List.not_mem_nil) dX8_isWithin_21
    · refine lv_iconst (v := 1) hx hb dX8_isWithin_16 (by decide) ?_
      refine lv_goto (tgt := 21) hx hb dX8_isWithin_17 (by decide) ?_
      have hF : (fX8_isWithin fi la x y) = 1 := by exact ((if_neg c5).trans (if_neg c13))
      subst hQe
      exact W.zret (v := 1) hx hb hr rfl (fun t ht hW => ⟨_, rfl, hF.symm, ht⟩) (fun q h => absurd h List.not_mem_nil) dX8_isWithin_21

def fX8_shift (fi : Int32) (la : Int32) (x : Int32) : Int32 × Int32 := ((fi + x), (la + x))
abbrev rmX8_shift : Room := { frames := 0, cells := 0, slots := 0, locals := 0 }
abbrev qX8_shift (D : va_G) (sz : Nat) (h0 : Nat) (ll : Int32) (fi : Int32) (la : Int32) (ff : Int32) (lf : Int32) (x : Int32) : Array Value → State → Outcome → State → Prop := va_Qv (fun w => ∃ _u : Unit, True ∧ w = [(h0, .inr (6, [.int ll, .int (fX8_shift fi la x).1, .int (fX8_shift fi la x).2, .int ff, .int lf]))]) (Bq D (va_A [(h0, .inr (6, [.int ll, .int fi, .int la, .int ff, .int lf]))] sz)) (va_A [(h0, .inr (6, [.int ll, .int fi, .int la, .int ff, .int lf]))] sz)
set_option maxHeartbeats 4000000 in
set_option maxRecDepth 100000 in
theorem kX8_shift (l : Launch) (D : va_G) (sz : Nat) (h0 : Nat) (ll : Int32) (fi : Int32) (la : Int32) (ff : Int32) (lf : Int32) (x : Int32) : Met l yX8_shift wsX8_shift rmX8_shift (va_Pc [.ref h0, .int x] (Pw D [] [(h0, .inr (6, [.int ll, .int fi, .int la, .int ff, .int lf]))] sz)) (qX8_shift D sz h0 ll fi la ff lf x) 0 0 (va_A [(h0, .inr (6, [.int ll, .int fi, .int la, .int ff, .int lf]))] sz) := by
  refine Met.ofW (cc := cX8_shift) (maxL := 2) (ret := none) (by decide) rfl ?_
  intro p e s m args below meth c s₁ B hml hv
  obtain ⟨rfl, hsz, hP, hK, hD0, hN⟩ := hv
  have hx := B.exec
  have hb := B.bytes
  have hr := B.returns
  have hts := atoms_spec (ws := wsX8_shift) B.pre
  have hown : s.vm.findClass RX8 = some m.cls := findClass_of_methodNamed B.named
  have hlocks := B.notSynchronized
  subst hsz
  obtain ⟨Q, hQe⟩ : ∃ Q, Q = MQ below (qX8_shift D s.heap.size h0 ll fi la ff lf x) ([.ref h0, .int x] : List Value).toArray s 0 0 (va_A [(h0, .inr (6, [.int ll, .int fi, .int la, .int ff, .int lf]))] s.heap.size) := ⟨_, rfl⟩
  rw [← hQe]
  obtain ⟨A, hAe⟩ : ∃ A, A = va_A [(h0, .inr (6, [.int ll, .int fi, .int la, .int ff, .int lf]))] s.heap.size := ⟨_, rfl⟩
  have hD : va_D A [(h0, .inr (6, [.int ll, .int fi, .int la, .int ff, .int lf]))] := by rw [hAe]; exact hD0.self
  have hA : ∀ q : Nat, s.heap.size ≤ q → A q := by rw [hAe]; exact mo_A
  have hS : va_S A s.heap s.heap [] := va_S.rf
  obtain ⟨H, hHe⟩ : ∃ H, H = s.heap := ⟨_, rfl⟩
  obtain ⟨locs, hLe⟩ : ∃ L : List Loc, L = [] := ⟨_, rfl⟩
  have hP : va_P D vwCl [(h0, .inr (6, [.int ll, .int fi, .int la, .int ff, .int lf]))] H := by rw [hHe]; exact hP
  have hS : va_S A s.heap H locs := by rw [hHe, hLe]; exact hS
  have hl := lv_entry ([.ref h0, .int x]) (n := 2) (Nat.le_of_ble_eq_true rfl)
  rw [lg_entry_eq]
  generalize (lg_sl ([.ref h0, .int x]) ++ List.replicate (2 - (lg_sl ([.ref h0, .int x])).length) Slot.unset).toArray = ls at hl ⊢
  have hl : lv_has ls 2 [(0, .ref h0), (1, .int x)] := hl
  refine hStart hHe hLe ?_
  clear hHe hLe
  have w_X8 : ∀ w ∈ wsX80, w ∈ wsX8_shift := by decide +kernel
  have f_13 := hts (.fieldLink RX8 13 "ReferenceMover$Span" "first" "I") (by decide +kernel)
  have f_20 := hts (.fieldLink RX8 20 "ReferenceMover$Span" "last" "I") (by decide +kernel)
  refine lv_aload_n hx hb dX8_shift_0 rfl (lv_at hl 0 rfl) ?_
  refine lv_dup hx hb dX8_shift_1 rfl ?_
  refine va_get (D := D) (ci := 6) (v := .int fi) (C := RX8) (T := TX8) (N := 5) hx hb hts w_X8 hown hK hP 0 rfl rfl 1 (by decide) f_13 (fun _ h9 => h9) rfl dX8_shift_2 ?_
  refine lv_iload_n hx hb dX8_shift_5 rfl (lv_at hl 1 rfl) ?_
  refine lv_iadd hx hb dX8_shift_6 ?_
  refine va_put (D := D) (ci := 6) (v := .int (fi + x)) (ty := .int) (C := RX8) (T := TX8) (N := 5) hx hb hts w_X8 tyX8 tyX8_ok nmX8 hown hK hP hD hS 0 rfl rfl 1 (by decide) f_13 (fun _ h9 => h9) rfl (by decide +kernel) rfl rfl (Nat.le_of_ble_eq_true rfl) dX8_shift_7 (fun H locs hP hD hS => ?_)
  have hP : va_P D vwCl [(h0, .inr (6, [.int ll, .int (fi + x), .int la, .int ff, .int lf]))] H := hP
  have hD : va_D A [(h0, .inr (6, [.int ll, .int (fi + x), .int la, .int ff, .int lf]))] := hD
  refine lv_aload_n hx hb dX8_shift_10 rfl (lv_at hl 0 rfl) ?_
  refine lv_dup hx hb dX8_shift_11 rfl ?_
  refine va_get (D := D) (ci := 6) (v := .int la) (C := RX8) (T := TX8) (N := 5) hx hb hts w_X8 hown hK hP 0 rfl rfl 2 (by decide) f_20 (fun _ h9 => h9) rfl dX8_shift_12 ?_
  refine lv_iload_n hx hb dX8_shift_15 rfl (lv_at hl 1 rfl) ?_
  refine lv_iadd hx hb dX8_shift_16 ?_
  refine va_put (D := D) (ci := 6) (v := .int (la + x)) (ty := .int) (C := RX8) (T := TX8) (N := 5) hx hb hts w_X8 tyX8 tyX8_ok nmX8 hown hK hP hD hS 0 rfl rfl 2 (by decide) f_20 (fun _ h9 => h9) rfl (by decide +kernel) rfl rfl (Nat.le_of_ble_eq_true rfl) dX8_shift_17 (fun H locs hP hD hS => ?_)
  have hP : va_P D vwCl [(h0, .inr (6, [.int ll, .int (fi + x), .int (la + x), .int ff, .int lf]))] H := hP
  have hD : va_D A [(h0, .inr (6, [.int ll, .int (fi + x), .int (la + x), .int ff, .int lf]))] := hD
  have hF : (fX8_shift fi la x) = ((fi + x), (la + x)) := by exact rfl
  subst hAe
  subst hQe
  exact W.vret hx hb hr (fun t ht hW => ⟨⟨_, rfl, ⟨(), trivial, by rw [hF]⟩, by rw [ht]; exact hP, hD⟩, hS.F ht⟩) hS.2.2 dX8_shift_20

def fX8_exchange (fi : Int32) (la : Int32) (ff : Int32) (lf : Int32) : Int32 × Int32 × Int32 × Int32 := ((fX8_setFirst la lf).1, (fX8_setLast fi ff).1, (fX8_setFirst la lf).2, (fX8_setLast fi ff).2)
abbrev rmX8_exchange : Room := { frames := 1, cells := 0, slots := 0, locals := 22 }
abbrev qX8_exchange (D : va_G) (sz : Nat) (h0 : Nat) (ll : Int32) (fi : Int32) (la : Int32) (ff : Int32) (lf : Int32) : Array Value → State → Outcome → State → Prop := va_Qv (fun w => ∃ _u : Unit, True ∧ w = [(h0, .inr (6, [.int ll, .int (fX8_exchange fi la ff lf).1, .int (fX8_exchange fi la ff lf).2.1, .int (fX8_exchange fi la ff lf).2.2.1, .int (fX8_exchange fi la ff lf).2.2.2]))]) (Bq D (va_A [(h0, .inr (6, [.int ll, .int fi, .int la, .int ff, .int lf]))] sz)) (va_A [(h0, .inr (6, [.int ll, .int fi, .int la, .int ff, .int lf]))] sz)
set_option maxHeartbeats 4000000 in
set_option maxRecDepth 100000 in
theorem kX8_exchange (l : Launch) (D : va_G) (sz : Nat) (h0 : Nat) (ll : Int32) (fi : Int32) (la : Int32) (ff : Int32) (lf : Int32) (h4 : isB ff) (h5 : isB lf) : Met l yX8_exchange wsX8_exchange rmX8_exchange (va_Pc [.ref h0] (Pw D [] [(h0, .inr (6, [.int ll, .int fi, .int la, .int ff, .int lf]))] sz)) (qX8_exchange D sz h0 ll fi la ff lf) 0 0 (va_A [(h0, .inr (6, [.int ll, .int fi, .int la, .int ff, .int lf]))] sz) := by
  refine Met.ofW (cc := cX8_exchange) (maxL := 3) (ret := none) (by decide) rfl ?_
  intro p e s m args below meth c s₁ B hml hv
  obtain ⟨rfl, hsz, hP, hK, hD0, hN⟩ := hv
  have hx := B.exec
  have hb := B.bytes
  have hr := B.returns
  have hts := atoms_spec (ws := wsX8_exchange) B.pre
  have hown : s.vm.findClass RX8 = some m.cls := findClass_of_methodNamed B.named
  have hlocks := B.notSynchronized
  subst hsz
  obtain ⟨Q, hQe⟩ : ∃ Q, Q = MQ below (qX8_exchange D s.heap.size h0 ll fi la ff lf) ([.ref h0] : List Value).toArray s 0 0 (va_A [(h0, .inr (6, [.int ll, .int fi, .int la, .int ff, .int lf]))] s.heap.size) := ⟨_, rfl⟩
  rw [← hQe]
  obtain ⟨A, hAe⟩ : ∃ A, A = va_A [(h0, .inr (6, [.int ll, .int fi, .int la, .int ff, .int lf]))] s.heap.size := ⟨_, rfl⟩
  have hD : va_D A [(h0, .inr (6, [.int ll, .int fi, .int la, .int ff, .int lf]))] := by rw [hAe]; exact hD0.self
  have hA : ∀ q : Nat, s.heap.size ≤ q → A q := by rw [hAe]; exact mo_A
  have hS : va_S A s.heap s.heap [] := va_S.rf
  obtain ⟨H, hHe⟩ : ∃ H, H = s.heap := ⟨_, rfl⟩
  obtain ⟨locs, hLe⟩ : ∃ L : List Loc, L = [] := ⟨_, rfl⟩
  have hP : va_P D vwCl [(h0, .inr (6, [.int ll, .int fi, .int la, .int ff, .int lf]))] H := by rw [hHe]; exact hP
  have hS : va_S A s.heap H locs := by rw [hHe, hLe]; exact hS
  have hl := lv_entry ([.ref h0]) (n := 3) (Nat.le_of_ble_eq_true rfl)
  rw [lg_entry_eq]
  generalize (lg_sl ([.ref h0]) ++ List.replicate (3 - (lg_sl ([.ref h0])).length) Slot.unset).toArray = ls at hl ⊢
  have hl : lv_has ls 3 [(0, .ref h0)] := hl
  refine hStart hHe hLe ?_
  clear hHe hLe
  have w_X8 : ∀ w ∈ wsX80, w ∈ wsX8_exchange := by decide +kernel
  have f_13 := hts (.fieldLink RX8 13 "ReferenceMover$Span" "first" "I") (by decide +kernel)
  have f_16 := hts (.fieldLink RX8 16 "ReferenceMover$Span" "firstFixed" "Z") (by decide +kernel)
  have f_20 := hts (.fieldLink RX8 20 "ReferenceMover$Span" "last" "I") (by decide +kernel)
  have f_23 := hts (.fieldLink RX8 23 "ReferenceMover$Span" "lastFixed" "Z") (by decide +kernel)
  refine lv_aload_n hx hb dX8_exchange_0 rfl (lv_at hl 0 rfl) ?_
  refine va_get (D := D) (ci := 6) (v := .int fi) (C := RX8) (T := TX8) (N := 5) hx hb hts w_X8 hown hK hP 0 rfl rfl 1 (by decide) f_13 (fun _ h9 => h9) rfl dX8_exchange_1 ?_
  refine lv_istore_n (lv' := [(1, .int fi), (0, .ref h0)]) hx hb dX8_exchange_4 rfl hl (by decide) rfl (fun ls hl => ?_)
  refine lv_aload_n hx hb dX8_exchange_5 rfl (lv_at hl 1 rfl) ?_
  refine va_get (D := D) (ci := 6) (v := .int ff) (C := RX8) (T := TX8) (N := 5) hx hb hts w_X8 hown hK hP 0 rfl rfl 3 (by decide) f_16 (fun _ h9 => h9) rfl dX8_exchange_6 ?_
  refine lv_istore_n (lv' := [(2, .int ff), (1, .int fi), (0, .ref h0)]) hx hb dX8_exchange_9 rfl hl (by decide) rfl (fun ls hl => ?_)
  refine lv_aload_n hx hb dX8_exchange_10 rfl (lv_at hl 2 rfl) ?_
  refine lv_aload_n hx hb dX8_exchange_11 rfl (lv_at hl 2 rfl) ?_
  refine va_get (D := D) (ci := 6) (v := .int la) (C := RX8) (T := TX8) (N := 5) hx hb hts w_X8 hown hK hP 0 rfl rfl 2 (by decide) f_20 (fun _ h9 => h9) rfl dX8_exchange_12 ?_
  refine lv_aload_n hx hb dX8_exchange_15 rfl (lv_at hl 2 rfl) ?_
  refine va_get (D := D) (ci := 6) (v := .int lf) (C := RX8) (T := TX8) (N := 5) hx hb hts w_X8 hown hK hP 0 rfl rfl 4 (by decide) f_23 (fun _ h9 => h9) rfl dX8_exchange_16 ?_
  have hPc := hP.sub (ws' := [(h0, .inr (6, [.int ll, .int fi, .int la, .int ff, .int lf]))]) [0] rfl
  have hDc := hD.sub (ws' := [(h0, .inr (6, [.int ll, .int fi, .int la, .int ff, .int lf]))]) [0] (by decide) rfl
  have hKc := hK.sub (tys' := []) [] rfl
  refine wk_v (β := Unit) (ok := fun _ => True) (wc := [(h0, .inr (6, [.int ll, .int fi, .int la, .int ff, .int lf]))]) (wr := []) (w1 := fun _ => [(h0, .inr (6, [.int ll, .int (fX8_setFirst la lf).1, .int la, .int (fX8_setFirst la lf).2, .int lf]))]) (ws2 := fun _ => [(h0, .inr (6, [.int ll, .int (fX8_setFirst la lf).1, .int la, .int (fX8_setFirst la lf).2, .int lf]))]) (va_runV (As := [.int la, .int lf]) (rest := []) ⟨hx, hb, hml, hown, hts⟩ (kX8_setFirst l D H.size h0 ll fi la ff lf la lf (by first | assumption | (subst_vars; repeat' split; all_goals first | exact Or.inl rfl | exact Or.inr rfl))) (cwV 2 hts gX8_exchange_X8_setFirst rfl rfl rfl (by decide +kernel) ⟨Nat.le_of_ble_eq_true rfl, Nat.le_of_ble_eq_true rfl⟩) ⟨Pw_blind, (va_recv hKc hPc (ci := 6) (q0 := 0) rfl rfl), fun U hU hW => Pw_at hKc hPc hDc hN hU hW⟩ rfl rfl hl.1 rfl (lv_room (Nat.le_of_ble_eq_true rfl)) dX8_exchange_19 ⟨Nat.le_of_ble_eq_true rfl, Nat.le_of_ble_eq_true rfl⟩) hP hD hS hA [0] [] [0] rfl rfl (by decide) (by decide) (fun _ => rfl) (by decide) (fun _ _ H locs hP hD hS => ?_)
  have hP : va_P D vwCl [(h0, .inr (6, [.int ll, .int (fX8_setFirst la lf).1, .int la, .int (fX8_setFirst la lf).2, .int lf]))] H := hP
  have hD : va_D A [(h0, .inr (6, [.int ll, .int (fX8_setFirst la lf).1, .int la, .int (fX8_setFirst la lf).2, .int lf]))] := hD
  refine lv_aload_n hx hb dX8_exchange_22 rfl (lv_at hl 2 rfl) ?_
  refine lv_iload_n hx hb dX8_exchange_23 rfl (lv_at hl 1 rfl) ?_
  refine lv_iload_n hx hb dX8_exchange_24 rfl (lv_at hl 0 rfl) ?_
  have hPc := hP.sub (ws' := [(h0, .inr (6, [.int ll, .int (fX8_setFirst la lf).1, .int la, .int (fX8_setFirst la lf).2, .int lf]))]) [0] rfl
  have hDc := hD.sub (ws' := [(h0, .inr (6, [.int ll, .int (fX8_setFirst la lf).1, .int la, .int (fX8_setFirst la lf).2, .int lf]))]) [0] (by decide) rfl
  have hKc := hK.sub (tys' := []) [] rfl
  refine wk_v (β := Unit) (ok := fun _ => True) (wc := [(h0, .inr (6, [.int ll, .int (fX8_setFirst la lf).1, .int la, .int (fX8_setFirst la lf).2, .int lf]))]) (wr := []) (w1 := fun _ => [(h0, .inr (6, [.int ll, .int (fX8_setFirst la lf).1, .int (fX8_setLast fi ff).1, .int (fX8_setFirst la lf).2, .int (fX8_setLast fi ff).2]))]) (ws2 := fun _ => [(h0, .inr (6, [.int ll, .int (fX8_setFirst la lf).1, .int (fX8_setLast fi ff).1, .int (fX8_setFirst la lf).2, .int (fX8_setLast fi ff).2]))]) (va_runV (As := [.int fi, .int ff]) (rest := []) ⟨hx, hb, hml, hown, hts⟩ (kX8_setLast l D H.size h0 ll ((fX8_setFirst la lf).1) la ((fX8_setFirst la lf).2) lf fi ff (by first | assumption | (subst_vars; repeat' split; all_goals first | exact Or.inl rfl | exact Or.inr rfl))) (cwV 2 hts gX8_exchange_X8_setLast rfl rfl rfl (by decide +kernel) ⟨Nat.le_of_ble_eq_true rfl, Nat.le_of_ble_eq_true rfl⟩) ⟨Pw_blind, (va_recv hKc hPc (ci := 6) (q0 := 0) rfl rfl), fun U hU hW => Pw_at hKc hPc hDc hN hU hW⟩ rfl rfl hl.1 rfl (lv_room (Nat.le_of_ble_eq_true rfl)) dX8_exchange_25 ⟨Nat.le_of_ble_eq_true rfl, Nat.le_of_ble_eq_true rfl⟩) hP hD hS hA [0] [] [0] rfl rfl (by decide) (by decide) (fun _ => rfl) (by decide) (fun _ _ H locs hP hD hS => ?_)
  have hP : va_P D vwCl [(h0, .inr (6, [.int ll, .int (fX8_setFirst la lf).1, .int (fX8_setLast fi ff).1, .int (fX8_setFirst la lf).2, .int (fX8_setLast fi ff).2]))] H := hP
  have hD : va_D A [(h0, .inr (6, [.int ll, .int (fX8_setFirst la lf).1, .int (fX8_setLast fi ff).1, .int (fX8_setFirst la lf).2, .int (fX8_setLast fi ff).2]))] := hD
  have hF : (fX8_exchange fi la ff lf) = ((fX8_setFirst la lf).1, (fX8_setLast fi ff).1, (fX8_setFirst la lf).2, (fX8_setLast fi ff).2) := by exact rfl
  subst hAe
  subst hQe
  exact W.vret hx hb hr (fun t ht hW => ⟨⟨_, rfl, ⟨(), trivial, by rw [hF]⟩, by rw [ht]; exact hP, hD⟩, hS.F ht⟩) hS.2.2 dX8_exchange_28

def fX8_shiftLoose (ll : Int32) (fi : Int32) (la : Int32) (ff : Int32) (lf : Int32) (x : Int32) : Int32 × Int32 × Int32 × Int32 × Int32 := let v_1 : Int32 := (if ff = 0 then (fi + x) else fi); let v_2 : Int32 := (if lf = 0 then (la + x) else la); if (fX9_isLine v_1 ll) = 0 then (0, v_1, v_2, ff, lf) else (if (fX9_isLine v_2 ll) = 0 then (0, v_1, v_2, ff, lf) else (let v_3 : Int32 := (if v_1 ≤ v_2 then v_1 else (fX8_exchange v_1 v_2 ff lf).1); let v_4 : Int32 := (if v_1 ≤ v_2 then v_2 else (fX8_exchange v_1 v_2 ff lf).2.1); let v_5 : Int32 := (if v_1 ≤ v_2 then ff else (fX8_exchange v_1 v_2 ff lf).2.2.1); let v_6 : Int32 := (if v_1 ≤ v_2 then lf else (fX8_exchange v_1 v_2 ff lf).2.2.2); (1, v_3, v_4, v_5, v_6)))
theorem zb_X8_shiftLoose (ll : Int32) (fi : Int32) (la : Int32) (ff : Int32) (lf : Int32) (x : Int32) : isB (fX8_shiftLoose ll fi la ff lf x).1 := by
  unfold fX8_shiftLoose
  (try dsimp only)
  repeat' split
  all_goals first | exact Or.inl rfl | exact Or.inr rfl
abbrev rmX8_shiftLoose : Room := { frames := 2, cells := 0, slots := 0, locals := 44 }
abbrev qX8_shiftLoose (D : va_G) (sz : Nat) (h0 : Nat) (ll : Int32) (fi : Int32) (la : Int32) (ff : Int32) (lf : Int32) (x : Int32) : Array Value → State → Outcome → State → Prop := va_Qi (fun r w => ∃ _u : Unit, True ∧ r = (fX8_shiftLoose ll fi la ff lf x).1 ∧ w = [(h0, .inr (6, [.int ll, .int (fX8_shiftLoose ll fi la ff lf x).2.1, .int (fX8_shiftLoose ll fi la ff lf x).2.2.1, .int (fX8_shiftLoose ll fi la ff lf x).2.2.2.1, .int (fX8_shiftLoose ll fi la ff lf x).2.2.2.2]))]) (Bq D (va_A [(h0, .inr (6, [.int ll, .int fi, .int la, .int ff, .int lf]))] sz)) (va_A [(h0, .inr (6, [.int ll, .int fi, .int la, .int ff, .int lf]))] sz)
set_option maxHeartbeats 4000000 in
set_option maxRecDepth 100000 in
theorem kX8_shiftLoose (l : Launch) (D : va_G) (sz : Nat) (h0 : Nat) (ll : Int32) (fi : Int32) (la : Int32) (ff : Int32) (lf : Int32) (x : Int32) (h4 : isB ff) (h5 : isB lf) : Met l yX8_shiftLoose wsX8_shiftLoose rmX8_shiftLoose (va_Pc [.ref h0, .int x] (Pw D [] [(h0, .inr (6, [.int ll, .int fi, .int la, .int ff, .int lf]))] sz)) (qX8_shiftLoose D sz h0 ll fi la ff lf x) 0 0 (va_A [(h0, .inr (6, [.int ll, .int fi, .int la, .int ff, .int lf]))] sz) := by
  refine Met.ofW (cc := cX8_shiftLoose) (maxL := 2) (ret := (some .boolean)) (by decide) rfl ?_
  intro p e s m args below meth c s₁ B hml hv
  obtain ⟨rfl, hsz, hP, hK, hD0, hN⟩ := hv
  have hx := B.exec
  have hb := B.bytes
  have hr := B.returns
  have hts := atoms_spec (ws := wsX8_shiftLoose) B.pre
  have hown : s.vm.findClass RX8 = some m.cls := findClass_of_methodNamed B.named
  have hlocks := B.notSynchronized
  subst hsz
  obtain ⟨Q, hQe⟩ : ∃ Q, Q = MQ below (qX8_shiftLoose D s.heap.size h0 ll fi la ff lf x) ([.ref h0, .int x] : List Value).toArray s 0 0 (va_A [(h0, .inr (6, [.int ll, .int fi, .int la, .int ff, .int lf]))] s.heap.size) := ⟨_, rfl⟩
  rw [← hQe]
  obtain ⟨A, hAe⟩ : ∃ A, A = va_A [(h0, .inr (6, [.int ll, .int fi, .int la, .int ff, .int lf]))] s.heap.size := ⟨_, rfl⟩
  have hD : va_D A [(h0, .inr (6, [.int ll, .int fi, .int la, .int ff, .int lf]))] := by rw [hAe]; exact hD0.self
  have hA : ∀ q : Nat, s.heap.size ≤ q → A q := by rw [hAe]; exact mo_A
  have hS : va_S A s.heap s.heap [] := va_S.rf
  obtain ⟨H, hHe⟩ : ∃ H, H = s.heap := ⟨_, rfl⟩
  obtain ⟨locs, hLe⟩ : ∃ L : List Loc, L = [] := ⟨_, rfl⟩
  have hP : va_P D vwCl [(h0, .inr (6, [.int ll, .int fi, .int la, .int ff, .int lf]))] H := by rw [hHe]; exact hP
  have hS : va_S A s.heap H locs := by rw [hHe, hLe]; exact hS
  have hl := lv_entry ([.ref h0, .int x]) (n := 2) (Nat.le_of_ble_eq_true rfl)
  rw [lg_entry_eq]
  generalize (lg_sl ([.ref h0, .int x]) ++ List.replicate (2 - (lg_sl ([.ref h0, .int x])).length) Slot.unset).toArray = ls at hl ⊢
  have hl : lv_has ls 2 [(0, .ref h0), (1, .int x)] := hl
  refine hStart hHe hLe ?_
  clear hHe hLe
  have w_X8 : ∀ w ∈ wsX80, w ∈ wsX8_shiftLoose := by decide +kernel
  have f_16 := hts (.fieldLink RX8 16 "ReferenceMover$Span" "firstFixed" "Z") (by decide +kernel)
  have f_13 := hts (.fieldLink RX8 13 "ReferenceMover$Span" "first" "I") (by decide +kernel)
  have f_23 := hts (.fieldLink RX8 23 "ReferenceMover$Span" "lastFixed" "Z") (by decide +kernel)
  have f_20 := hts (.fieldLink RX8 20 "ReferenceMover$Span" "last" "I") (by decide +kernel)
  have f_7 := hts (.fieldLink RX8 7 "ReferenceMover$Span" "lastLine" "I") (by decide +kernel)
  have in_RX9 := hts (.initialized RX9) (by decide +kernel)
  have st_yX9_isLine := hts (.static yX9_isLine) (by decide +kernel)
  refine lv_aload_n hx hb dX8_shiftLoose_0 rfl (lv_at hl 0 rfl) ?_
  refine va_get (D := D) (ci := 6) (v := .int ff) (C := RX8) (T := TX8) (N := 5) hx hb hts w_X8 hown hK hP 0 rfl rfl 3 (by decide) f_16 (fun _ h9 => h9) rfl dX8_shiftLoose_1 ?_
  have K17_1 : ∀ (v_1 : Int32), v_1 = (if ff = 0 then (fi + x) else fi) → ∀ (H : Heap) (locs : List Loc), va_P D vwCl [(h0, .inr (6, [.int ll, .int v_1, .int la, .int ff, .int lf]))] H → va_D A [(h0, .inr (6, [.int ll, .int v_1, .int la, .int ff, .int lf]))] → va_S A s.heap H locs → ∀ ls : Array Slot, lv_has ls 2 [(0, .ref h0), (1, .int x)] → W p l e (headSpec wsX8_shiftLoose rmX8_shiftLoose).room s m ([.ref h0, .int x] : List Value).toArray below meth c H locs 0 0 Q (F0 m 17 ls []) := by
    intro v_1 ev_1 H locs hP hD hS ls hl
    refine lv_aload_n hx hb dX8_shiftLoose_17 rfl (lv_at hl 0 rfl) ?_
    refine va_get (D := D) (ci := 6) (v := .int lf) (C := RX8) (T := TX8) (N := 5) hx hb hts w_X8 hown hK hP 0 rfl rfl 4 (by decide) f_23 (fun _ h9 => h9) rfl dX8_shiftLoose_18 ?_
    have K34_2 : ∀ (v_2 : Int32), v_2 = (if lf = 0 then (la + x) else la) → ∀ (H : Heap) (locs : List Loc), va_P D vwCl [(h0, .inr (6, [.int ll, .int v_1, .int v_2, .int ff, .int lf]))] H → va_D A [(h0, .inr (6, [.int ll, .int v_1, .int v_2, .int ff, .int lf]))] → va_S A s.heap H locs → ∀ ls : Array Slot, lv_has ls 2 [(0, .ref h0)] → W p l e (headSpec wsX8_shiftLoose rmX8_shiftLoose).room s m ([.ref h0, .int x] : List Value).toArray below meth c H locs 0 0 Q (F0 m 34 ls []) := by
      intro v_2 ev_2 H locs hP hD hS ls hl
      refine lv_aload_n hx hb dX8_shiftLoose_34 rfl (lv_at hl 0 rfl) ?_
      refine va_get (D := D) (ci := 6) (v := .int v_1) (C := RX8) (T := TX8) (N := 5) hx hb hts w_X8 hown hK hP 0 rfl rfl 1 (by decide) f_13 (fun _ h9 => h9) rfl dX8_shiftLoose_35 ?_
      refine lv_aload_n hx hb dX8_shiftLoose_38 rfl (lv_at hl 0 rfl) ?_
      refine va_get (D := D) (ci := 6) (v := .int ll) (C := RX8) (T := TX8) (N := 5) hx hb hts w_X8 hown hK hP 0 rfl rfl 0 (by decide) f_7 (fun _ h9 => h9) rfl dX8_shiftLoose_39 ?_
      have hPc := hP.sub (ws' := []) [] rfl
      have hDc := hD.sub (ws' := []) [] (by decide) rfl
      have hKc := hK.sub (tys' := []) [] rfl
      refine rd_i (va_runSN (As := [.int v_1, .int ll]) (rest := []) ⟨hx, hb, hml, hown, hts⟩ (kX9_isLine l D H.size v_1 ll ) ⟨va_cnB 2 hts gX8_shiftLoose_X9_isLine_n26 rfl rfl rfl hN.2.2.2.2.2.1 in_RX9 (by decide +kernel) ⟨Nat.le_of_ble_eq_true rfl, Nat.le_of_ble_eq_true rfl⟩, st_yX9_isLine, trivial⟩ ⟨Pw_blind, fun U hU hW => Pw_at hKc hPc hDc hN hU hW⟩ rfl rfl hl.1 rfl (lv_room (Nat.le_of_ble_eq_true rfl)) dX8_shiftLoose_42 ⟨Nat.le_of_ble_eq_true rfl, Nat.le_of_ble_eq_true rfl⟩) ?_
      refine lv_if_eq (tgt := 62) hx hb dX8_shiftLoose_45 (by decide) (fun c45 => ?_) (fun c45 => ?_)
      · refine lv_iconst (v := 0) hx hb dX8_shiftLoose_62 (by decide) ?_
        have hF : (fX8_shiftLoose ll fi la ff lf x) = (0, v_1, v_2, ff, lf) := by subst ev_2; subst ev_1; exact (if_pos c45)
        subst hAe
        subst hQe
        exact W.zret (v := 0) hx hb hr rfl (fun t ht hW => ⟨⟨_, _, rfl, ⟨(), trivial, by rw [hF], by rw [hF]⟩, by rw [ht]; exact hP, hD⟩, hS.F ht⟩) hS.2.2 dX8_shiftLoose_63
      · refine lv_aload_n hx hb dX8_shiftLoose_48 rfl (lv_at hl 0 rfl) ?_
        refine va_get (D := D) (ci := 6) (v := .int v_2) (C := RX8) (T := TX8) (N := 5) hx hb hts w_X8 hown hK hP 0 rfl rfl 2 (by decide) f_20 (fun _ h9 => h9) rfl dX8_shiftLoose_49 ?_
        refine lv_aload_n hx hb dX8_shiftLoose_52 rfl (lv_at hl 0 rfl) ?_
        refine va_get (D := D) (ci := 6) (v := .int ll) (C := RX8) (T := TX8) (N := 5) hx hb hts w_X8 hown hK hP 0 rfl rfl 0 (by decide) f_7 (fun _ h9 => h9) rfl dX8_shiftLoose_53 ?_
        have hPc := hP.sub (ws' := []) [] rfl
        have hDc := hD.sub (ws' := []) [] (by decide) rfl
        have hKc := hK.sub (tys' := []) [] rfl
        refine rd_i (va_runSN (As := [.int v_2, .int ll]) (rest := []) ⟨hx, hb, hml, hown, hts⟩ (kX9_isLine l D H.size v_2 ll ) ⟨va_cnB 2 hts gX8_shiftLoose_X9_isLine_n26 rfl rfl rfl hN.2.2.2.2.2.1 in_RX9 (by decide +kernel) ⟨Nat.le_of_ble_eq_true rfl, Nat.le_of_ble_eq_true rfl⟩, st_yX9_isLine, trivial⟩ ⟨Pw_blind, fun U hU hW => Pw_at hKc hPc hDc hN hU hW⟩ rfl rfl hl.1 rfl (lv_room (Nat.le_of_ble_eq_true rfl)) dX8_shiftLoose_56 ⟨Nat.le_of_ble_eq_true rfl, Nat.le_of_ble_eq_true rfl⟩) ?_
        refine lv_if_ne (tgt := 64) hx hb dX8_shiftLoose_59 (by decide) (fun c59 => ?_) (fun c59 => ?_)
        · refine lv_aload_n hx hb dX8_shiftLoose_64 rfl (lv_at hl 0 rfl) ?_
          refine va_get (D := D) (ci := 6) (v := .int v_1) (C := RX8) (T := TX8) (N := 5) hx hb hts w_X8 hown hK hP 0 rfl rfl 1 (by decide) f_13 (fun _ h9 => h9) rfl dX8_shiftLoose_65 ?_
          refine lv_aload_n hx hb dX8_shiftLoose_68 rfl (lv_at hl 0 rfl) ?_
          refine va_get (D := D) (ci := 6) (v := .int v_2) (C := RX8) (T := TX8) (N := 5) hx hb hts w_X8 hown hK hP 0 rfl rfl 2 (by decide) f_20 (fun _ h9 => h9) rfl dX8_shiftLoose_69 ?_
          have K79_3 : ∀ (v_3 : Int32), v_3 = (if v_1 ≤ v_2 then v_1 else (fX8_exchange v_1 v_2 ff lf).1) → ∀ (v_4 : Int32), v_4 = (if v_1 ≤ v_2 then v_2 else (fX8_exchange v_1 v_2 ff lf).2.1) → ∀ (v_5 : Int32), v_5 = (if v_1 ≤ v_2 then ff else (fX8_exchange v_1 v_2 ff lf).2.2.1) → ∀ (v_6 : Int32), v_6 = (if v_1 ≤ v_2 then lf else (fX8_exchange v_1 v_2 ff lf).2.2.2) → ∀ (H : Heap) (locs : List Loc), va_P D vwCl [(h0, .inr (6, [.int ll, .int v_3, .int v_4, .int v_5, .int v_6]))] H → va_D A [(h0, .inr (6, [.int ll, .int v_3, .int v_4, .int v_5, .int v_6]))] → va_S A s.heap H locs → ∀ ls : Array Slot, lv_has ls 2 [] → W p l e (headSpec wsX8_shiftLoose rmX8_shiftLoose).room s m ([.ref h0, .int x] : List Value).toArray below meth c H locs 0 0 Q (F0 m 79 ls []) := by
            intro v_3 ev_3 v_4 ev_4 v_5 ev_5 v_6 ev_6 H locs hP hD hS ls hl
            refine lv_iconst (v := 1) hx hb dX8_shiftLoose_79 (by decide) ?_
            have hF : (fX8_shiftLoose ll fi la ff lf x) = (1, v_3, v_4, v_5, v_6) := by subst ev_6; subst ev_5; subst ev_4; subst ev_3; subst ev_2; subst ev_1; exact ((if_neg c45).trans (if_neg c59))
            subst hAe
            subst hQe
            exact W.zret (v := 1) hx hb hr rfl (fun t ht hW => ⟨⟨_, _, rfl, ⟨(), trivial, by rw [hF], by rw [hF]⟩, by rw [ht]; exact hP, hD⟩, hS.F ht⟩) hS.2.2 dX8_shiftLoose_80
          refine lv_icmp_le (tgt := 79) hx hb dX8_shiftLoose_72 (by decide) (fun c72 => ?_) (fun c72 => ?_)
          · exact K79_3 _ (if_pos c72).symm _ (if_pos c72).symm _ (if_pos c72).symm _ (if_pos c72).symm H locs hP hD hS ls (lv_sub hl [] rfl)
          · refine lv_aload_n hx hb dX8_shiftLoose_75 rfl (lv_at hl 0 rfl) ?_
            have hPc := hP.sub (ws' := [(h0, .inr (6, [.int ll, .int v_1, .int v_2, .int ff, .int lf]))]) [0] rfl
            have hDc := hD.sub (ws' := [(h0, .inr (6, [.int ll, .int v_1, .int v_2, .int ff, .int lf]))]) [0] (by decide) rfl
            have hKc := hK.sub (tys' := []) [] rfl
            refine wk_v (β := Unit) (ok := fun _ => True) (wc := [(h0, .inr (6, [.int ll, .int v_1, .int v_2, .int ff, .int lf]))]) (wr := []) (w1 := fun _ => [(h0, .inr (6, [.int ll, .int (fX8_exchange v_1 v_2 ff lf).1, .int (fX8_exchange v_1 v_2 ff lf).2.1, .int (fX8_exchange v_1 v_2 ff lf).2.2.1, .int (fX8_exchange v_1 v_2 ff lf).2.2.2]))]) (ws2 := fun _ => [(h0, .inr (6, [.int ll, .int (fX8_exchange v_1 v_2 ff lf).1, .int (fX8_exchange v_1 v_2 ff lf).2.1, .int (fX8_exchange v_1 v_2 ff lf).2.2.1, .int (fX8_exchange v_1 v_2 ff lf).2.2.2]))]) (va_runV (As := []) (rest := []) ⟨hx, hb, hml, hown, hts⟩ (kX8_exchange l D H.size h0 ll v_1 v_2 ff lf (by first | assumption | (subst_vars; repeat' split; all_goals first | exact Or.inl rfl | exact Or.inr rfl)) (by first | assumption | (subst_vars; repeat' split; all_goals first | exact Or.inl rfl | exact Or.inr rfl))) (cwV 0 hts gX8_shiftLoose_X8_exchange rfl rfl rfl (by decide +kernel) ⟨Nat.le_of_ble_eq_true rfl, Nat.le_of_ble_eq_true rfl⟩) ⟨Pw_blind, (va_recv hKc hPc (ci := 6) (q0 := 0) rfl rfl), fun U hU hW => Pw_at hKc hPc hDc hN hU hW⟩ rfl rfl hl.1 rfl (lv_room (Nat.le_of_ble_eq_true rfl)) dX8_shiftLoose_76 ⟨Nat.le_of_ble_eq_true rfl, Nat.le_of_ble_eq_true rfl⟩) hP hD hS hA [0] [] [0] rfl rfl (by decide) (by decide) (fun _ => rfl) (by decide) (fun _ _ H locs hP hD hS => ?_)
            have hP : va_P D vwCl [(h0, .inr (6, [.int ll, .int (fX8_exchange v_1 v_2 ff lf).1, .int (fX8_exchange v_1 v_2 ff lf).2.1, .int (fX8_exchange v_1 v_2 ff lf).2.2.1, .int (fX8_exchange v_1 v_2 ff lf).2.2.2]))] H := hP
            have hD : va_D A [(h0, .inr (6, [.int ll, .int (fX8_exchange v_1 v_2 ff lf).1, .int (fX8_exchange v_1 v_2 ff lf).2.1, .int (fX8_exchange v_1 v_2 ff lf).2.2.1, .int (fX8_exchange v_1 v_2 ff lf).2.2.2]))] := hD
            exact K79_3 _ (if_neg c72).symm _ (if_neg c72).symm _ (if_neg c72).symm _ (if_neg c72).symm H locs hP hD hS ls (lv_sub hl [] rfl)
        · refine lv_iconst (v := 0) hx hb dX8_shiftLoose_62 (by decide) ?_
          have hF : (fX8_shiftLoose ll fi la ff lf x) = (0, v_1, v_2, ff, lf) := by subst ev_2; subst ev_1; exact ((if_neg c45).trans (if_pos c59))
          subst hAe
          subst hQe
          exact W.zret (v := 0) hx hb hr rfl (fun t ht hW => ⟨⟨_, _, rfl, ⟨(), trivial, by rw [hF], by rw [hF]⟩, by rw [ht]; exact hP, hD⟩, hS.F ht⟩) hS.2.2 dX8_shiftLoose_63
    refine lv_if_ne (tgt := 34) hx hb dX8_shiftLoose_21 (by decide) (fun c21 => ?_) (fun c21 => ?_)
    · exact K34_2 _ (if_neg c21).symm H locs hP hD hS ls (lv_sub hl [0] rfl)
    · refine lv_aload_n hx hb dX8_shiftLoose_24 rfl (lv_at hl 0 rfl) ?_
      refine lv_dup hx hb dX8_shiftLoose_25 rfl ?_
      refine va_get (D := D) (ci := 6) (v := .int la) (C := RX8) (T := TX8) (N := 5) hx hb hts w_X8 hown hK hP 0 rfl rfl 2 (by decide) f_20 (fun _ h9 => h9) rfl dX8_shiftLoose_26 ?_
      refine lv_iload_n hx hb dX8_shiftLoose_29 rfl (lv_at hl 1 rfl) ?_
      refine lv_iadd hx hb dX8_shiftLoose_30 ?_
      refine va_put (D := D) (ci := 6) (v := .int (la + x)) (ty := .int) (C := RX8) (T := TX8) (N := 5) hx hb hts w_X8 tyX8 tyX8_ok nmX8 hown hK hP hD hS 0 rfl rfl 2 (by decide) f_20 (fun _ h9 => h9) rfl (by decide +kernel) rfl rfl (Nat.le_of_ble_eq_true rfl) dX8_shiftLoose_31 (fun H locs hP hD hS => ?_)
      have hP : va_P D vwCl [(h0, .inr (6, [.int ll, .int v_1, .int (la + x), .int ff, .int lf]))] H := hP
      have hD : va_D A [(h0, .inr (6, [.int ll, .int v_1, .int (la + x), .int ff, .int lf]))] := hD
      exact K34_2 _ (if_pos c21).symm H locs hP hD hS ls (lv_sub hl [0] rfl)
  refine lv_if_ne (tgt := 17) hx hb dX8_shiftLoose_4 (by decide) (fun c4 => ?_) (fun c4 => ?_)
  · exact K17_1 _ (if_neg c4).symm H locs hP hD hS ls (lv_sub hl [0, 1] rfl)
  · refine lv_aload_n hx hb dX8_shiftLoose_7 rfl (lv_at hl 0 rfl) ?_
    refine lv_dup hx hb dX8_shiftLoose_8 rfl ?_
    refine va_get (D := D) (ci := 6) (v := .int fi) (C := RX8) (T := TX8) (N := 5) hx hb hts w_X8 hown hK hP 0 rfl rfl 1 (by decide) f_13 (fun _ h9 => h9) rfl dX8_shiftLoose_9 ?_
    refine lv_iload_n hx hb dX8_shiftLoose_12 rfl (lv_at hl 1 rfl) ?_
    refine lv_iadd hx hb dX8_shiftLoose_13 ?_
    refine va_put (D := D) (ci := 6) (v := .int (fi + x)) (ty := .int) (C := RX8) (T := TX8) (N := 5) hx hb hts w_X8 tyX8 tyX8_ok nmX8 hown hK hP hD hS 0 rfl rfl 1 (by decide) f_13 (fun _ h9 => h9) rfl (by decide +kernel) rfl rfl (Nat.le_of_ble_eq_true rfl) dX8_shiftLoose_14 (fun H locs hP hD hS => ?_)
    have hP : va_P D vwCl [(h0, .inr (6, [.int ll, .int (fi + x), .int la, .int ff, .int lf]))] H := hP
    have hD : va_D A [(h0, .inr (6, [.int ll, .int (fi + x), .int la, .int ff, .int lf]))] := hD
    exact K17_1 _ (if_pos c4).symm H locs hP hD hS ls (lv_sub hl [0, 1] rfl)

def fX8_openGap (ll : Int32) (fi : Int32) (la : Int32) (x : Int32) (y : Int32) : Int32 × Int32 × Int32 := if (fX9_areAllLines fi la ll) = 0 then (let v_1 : Int32 := (if fi < x then fi else (fi + y)); let v_2 : Int32 := (if la < x then la else (if ll < (la + y) then ll else (la + y))); if ll < v_1 then (0, v_1, v_2) else (1, v_1, v_2)) else (1, fi, la)
theorem zb_X8_openGap (ll : Int32) (fi : Int32) (la : Int32) (x : Int32) (y : Int32) : isB (fX8_openGap ll fi la x y).1 := by
  unfold fX8_openGap
  (try dsimp only)
  repeat' split
  all_goals first | exact Or.inl rfl | exact Or.inr rfl
abbrev rmX8_openGap : Room := { frames := 1, cells := 0, slots := 0, locals := 22 }
abbrev qX8_openGap (D : va_G) (sz : Nat) (h0 : Nat) (ll : Int32) (fi : Int32) (la : Int32) (ff : Int32) (lf : Int32) (x : Int32) (y : Int32) : Array Value → State → Outcome → State → Prop := va_Qi (fun r w => ∃ _u : Unit, True ∧ r = (fX8_openGap ll fi la x y).1 ∧ w = [(h0, .inr (6, [.int ll, .int (fX8_openGap ll fi la x y).2.1, .int (fX8_openGap ll fi la x y).2.2, .int ff, .int lf]))]) (Bq D (va_A [(h0, .inr (6, [.int ll, .int fi, .int la, .int ff, .int lf]))] sz)) (va_A [(h0, .inr (6, [.int ll, .int fi, .int la, .int ff, .int lf]))] sz)
set_option maxHeartbeats 4000000 in
set_option maxRecDepth 100000 in
theorem kX8_openGap (l : Launch) (D : va_G) (sz : Nat) (h0 : Nat) (ll : Int32) (fi : Int32) (la : Int32) (ff : Int32) (lf : Int32) (x : Int32) (y : Int32) : Met l yX8_openGap wsX8_openGap rmX8_openGap (va_Pc [.ref h0, .int x, .int y] (Pw D [] [(h0, .inr (6, [.int ll, .int fi, .int la, .int ff, .int lf]))] sz)) (qX8_openGap D sz h0 ll fi la ff lf x y) 0 0 (va_A [(h0, .inr (6, [.int ll, .int fi, .int la, .int ff, .int lf]))] sz) := by
  refine Met.ofW (cc := cX8_openGap) (maxL := 3) (ret := (some .boolean)) (by decide) rfl ?_
  intro p e s m args below meth c s₁ B hml hv
  obtain ⟨rfl, hsz, hP, hK, hD0, hN⟩ := hv
  have hx := B.exec
  have hb := B.bytes
  have hr := B.returns
  have hts := atoms_spec (ws := wsX8_openGap) B.pre
  have hown : s.vm.findClass RX8 = some m.cls := findClass_of_methodNamed B.named
  have hlocks := B.notSynchronized
  subst hsz
  obtain ⟨Q, hQe⟩ : ∃ Q, Q = MQ below (qX8_openGap D s.heap.size h0 ll fi la ff lf x y) ([.ref h0, .int x, .int y] : List Value).toArray s 0 0 (va_A [(h0, .inr (6, [.int ll, .int fi, .int la, .int ff, .int lf]))] s.heap.size) := ⟨_, rfl⟩
  rw [← hQe]
  obtain ⟨A, hAe⟩ : ∃ A, A = va_A [(h0, .inr (6, [.int ll, .int fi, .int la, .int ff, .int lf]))] s.heap.size := ⟨_, rfl⟩
  have hD : va_D A [(h0, .inr (6, [.int ll, .int fi, .int la, .int ff, .int lf]))] := by rw [hAe]; exact hD0.self
  have hA : ∀ q : Nat, s.heap.size ≤ q → A q := by rw [hAe]; exact mo_A
  have hS : va_S A s.heap s.heap [] := va_S.rf
  obtain ⟨H, hHe⟩ : ∃ H, H = s.heap := ⟨_, rfl⟩
  obtain ⟨locs, hLe⟩ : ∃ L : List Loc, L = [] := ⟨_, rfl⟩
  have hP : va_P D vwCl [(h0, .inr (6, [.int ll, .int fi, .int la, .int ff, .int lf]))] H := by rw [hHe]; exact hP
  have hS : va_S A s.heap H locs := by rw [hHe, hLe]; exact hS
  have hl := lv_entry ([.ref h0, .int x, .int y]) (n := 3) (Nat.le_of_ble_eq_true rfl)
  rw [lg_entry_eq]
  generalize (lg_sl ([.ref h0, .int x, .int y]) ++ List.replicate (3 - (lg_sl ([.ref h0, .int x, .int y])).length) Slot.unset).toArray = ls at hl ⊢
  have hl : lv_has ls 3 [(0, .ref h0), (1, .int x), (2, .int y)] := hl
  refine hStart hHe hLe ?_
  clear hHe hLe
  have w_X8 : ∀ w ∈ wsX80, w ∈ wsX8_openGap := by decide +kernel
  have f_13 := hts (.fieldLink RX8 13 "ReferenceMover$Span" "first" "I") (by decide +kernel)
  have f_20 := hts (.fieldLink RX8 20 "ReferenceMover$Span" "last" "I") (by decide +kernel)
  have f_7 := hts (.fieldLink RX8 7 "ReferenceMover$Span" "lastLine" "I") (by decide +kernel)
  have in_RX9 := hts (.initialized RX9) (by decide +kernel)
  have st_yX9_areAllLines := hts (.static yX9_areAllLines) (by decide +kernel)
  refine lv_aload_n hx hb dX8_openGap_0 rfl (lv_at hl 0 rfl) ?_
  refine va_get (D := D) (ci := 6) (v := .int fi) (C := RX8) (T := TX8) (N := 5) hx hb hts w_X8 hown hK hP 0 rfl rfl 1 (by decide) f_13 (fun _ h9 => h9) rfl dX8_openGap_1 ?_
  refine lv_aload_n hx hb dX8_openGap_4 rfl (lv_at hl 0 rfl) ?_
  refine va_get (D := D) (ci := 6) (v := .int la) (C := RX8) (T := TX8) (N := 5) hx hb hts w_X8 hown hK hP 0 rfl rfl 2 (by decide) f_20 (fun _ h9 => h9) rfl dX8_openGap_5 ?_
  refine lv_aload_n hx hb dX8_openGap_8 rfl (lv_at hl 0 rfl) ?_
  refine va_get (D := D) (ci := 6) (v := .int ll) (C := RX8) (T := TX8) (N := 5) hx hb hts w_X8 hown hK hP 0 rfl rfl 0 (by decide) f_7 (fun _ h9 => h9) rfl dX8_openGap_9 ?_
  have hPc := hP.sub (ws' := []) [] rfl
  have hDc := hD.sub (ws' := []) [] (by decide) rfl
  have hKc := hK.sub (tys' := []) [] rfl
  refine rd_i (va_runSN (As := [.int fi, .int la, .int ll]) (rest := []) ⟨hx, hb, hml, hown, hts⟩ (kX9_areAllLines l D H.size fi la ll ) ⟨va_cnB 3 hts gX8_openGap_X9_areAllLines_n42 rfl rfl rfl hN.2.2.2.2.2.2.1 in_RX9 (by decide +kernel) ⟨Nat.le_of_ble_eq_true rfl, Nat.le_of_ble_eq_true rfl⟩, st_yX9_areAllLines, trivial⟩ ⟨Pw_blind, fun U hU hW => Pw_at hKc hPc hDc hN hU hW⟩ rfl rfl hl.1 rfl (lv_room (Nat.le_of_ble_eq_true rfl)) dX8_openGap_12 ⟨Nat.le_of_ble_eq_true rfl, Nat.le_of_ble_eq_true rfl⟩) ?_
  refine lv_if_eq (tgt := 20) hx hb dX8_openGap_15 (by decide) (fun c15 => ?_) (fun c15 => ?_)
  · refine lv_aload_n hx hb dX8_openGap_20 rfl (lv_at hl 0 rfl) ?_
    refine va_get (D := D) (ci := 6) (v := .int fi) (C := RX8) (T := TX8) (N := 5) hx hb hts w_X8 hown hK hP 0 rfl rfl 1 (by decide) f_13 (fun _ h9 => h9) rfl dX8_openGap_21 ?_
    refine lv_iload_n hx hb dX8_openGap_24 rfl (lv_at hl 1 rfl) ?_
    have K38_1 : ∀ (v_1 : Int32), v_1 = (if fi < x then fi else (fi + y)) → ∀ (H : Heap) (locs : List Loc), va_P D vwCl [(h0, .inr (6, [.int ll, .int v_1, .int la, .int ff, .int lf]))] H → va_D A [(h0, .inr (6, [.int ll, .int v_1, .int la, .int ff, .int lf]))] → va_S A s.heap H locs → ∀ ls : Array Slot, lv_has ls 3 [(0, .ref h0), (1, .int x), (2, .int y)] → W p l e (headSpec wsX8_openGap rmX8_openGap).room s m ([.ref h0, .int x, .int y] : List Value).toArray below meth c H locs 0 0 Q (F0 m 38 ls []) := by
      intro v_1 ev_1 H locs hP hD hS ls hl
      refine lv_aload_n hx hb dX8_openGap_38 rfl (lv_at hl 0 rfl) ?_
      refine va_get (D := D) (ci := 6) (v := .int la) (C := RX8) (T := TX8) (N := 5) hx hb hts w_X8 hown hK hP 0 rfl rfl 2 (by decide) f_20 (fun _ h9 => h9) rfl dX8_openGap_39 ?_
      refine lv_iload_n hx hb dX8_openGap_42 rfl (lv_at hl 1 rfl) ?_
      have K63_2 : ∀ (v_2 : Int32), v_2 = (if la < x then la else (if ll < (la + y) then ll else (la + y))) → ∀ (H : Heap) (locs : List Loc), va_P D vwCl [(h0, .inr (6, [.int ll, .int v_1, .int v_2, .int ff, .int lf]))] H → va_D A [(h0, .inr (6, [.int ll, .int v_1, .int v_2, .int ff, .int lf]))] → va_S A s.heap H locs → ∀ ls : Array Slot, lv_has ls 3 [(0, .ref h0)] → W p l e (headSpec wsX8_openGap rmX8_openGap).room s m ([.ref h0, .int x, .int y] : List Value).toArray below meth c H locs 0 0 Q (F0 m 63 ls []) := by
        intro v_2 ev_2 H locs hP hD hS ls hl
        refine lv_aload_n hx hb dX8_openGap_63 rfl (lv_at hl 0 rfl) ?_
        refine va_get (D := D) (ci := 6) (v := .int v_1) (C := RX8) (T := TX8) (N := 5) hx hb hts w_X8 hown hK hP 0 rfl rfl 1 (by decide) f_13 (fun _ h9 => h9) rfl dX8_openGap_64 ?_
        refine lv_aload_n hx hb dX8_openGap_67 rfl (lv_at hl 0 rfl) ?_
        refine va_get (D := D) (ci := 6) (v := .int ll) (C := RX8) (T := TX8) (N := 5) hx hb hts w_X8 hown hK hP 0 rfl rfl 0 (by decide) f_7 (fun _ h9 => h9) rfl dX8_openGap_68 ?_
        refine lv_icmp_gt (tgt := 78) hx hb dX8_openGap_71 (by decide) (fun c71 => ?_) (fun c71 => ?_)
        · refine lv_iconst (v := 0) hx hb dX8_openGap_78 (by decide) ?_
          have hF : (fX8_openGap ll fi la x y) = (0, v_1, v_2) := by subst ev_2; subst ev_1; exact ((if_pos c15).trans (if_pos c71))
          subst hAe
          subst hQe
          exact W.zret (v := 0) hx hb hr rfl (fun t ht hW => ⟨⟨_, _, rfl, ⟨(), trivial, by rw [hF], by rw [hF]⟩, by rw [ht]; exact hP, hD⟩, hS.F ht⟩) hS.2.2 dX8_openGap_79
        · refine lv_iconst (v := 1) hx hb dX8_openGap_74 (by decide) ?_
          refine lv_goto (tgt := 79) hx hb dX8_openGap_75 (by decide) ?_
          have hF : (fX8_openGap ll fi la x y) = (1, v_1, v_2) := by subst ev_2; subst ev_1; exact ((if_pos c15).trans (if_neg c71))
          subst hAe
          subst hQe
          exact W.zret (v := 1) hx hb hr rfl (fun t ht hW => ⟨⟨_, _, rfl, ⟨(), trivial, by rw [hF], by rw [hF]⟩, by rw [ht]; exact hP, hD⟩, hS.F ht⟩) hS.2.2 dX8_openGap_79
      refine lv_icmp_lt (tgt := 63) hx hb dX8_openGap_43 (by decide) (fun c43 => ?_) (fun c43 => ?_)
      · exact K63_2 _ (if_pos c43).symm H locs hP hD hS ls (lv_sub hl [0] rfl)
      · refine lv_aload_n hx hb dX8_openGap_46 rfl (lv_at hl 0 rfl) ?_
        refine lv_aload_n hx hb dX8_openGap_47 rfl (lv_at hl 0 rfl) ?_
        refine va_get (D := D) (ci := 6) (v := .int la) (C := RX8) (T := TX8) (N := 5) hx hb hts w_X8 hown hK hP 0 rfl rfl 2 (by decide) f_20 (fun _ h9 => h9) rfl dX8_openGap_48 ?_
        refine lv_iload_n hx hb dX8_openGap_51 rfl (lv_at hl 2 rfl) ?_
        refine lv_iadd hx hb dX8_openGap_52 ?_
        refine lv_aload_n hx hb dX8_openGap_53 rfl (lv_at hl 0 rfl) ?_
        refine va_get (D := D) (ci := 6) (v := .int ll) (C := RX8) (T := TX8) (N := 5) hx hb hts w_X8 hown hK hP 0 rfl rfl 0 (by decide) f_7 (fun _ h9 => h9) rfl dX8_openGap_54 ?_
        refine va_mmin hx hb (by rw [hml]; exact hl.1.symm) hown (hts (.methodLink RX8 46 Lib.Math.min.name) (by decide +kernel)) (hts (.static Lib.Math.min.name) (by decide +kernel)) (hts (.initialized "java/lang/Math") (by decide +kernel)) (hts (.code Lib.Math.min.name Lib.Math.min.code 2 (some .int)) (by decide +kernel)) (Nat.le_of_ble_eq_true rfl) (Nat.le_of_ble_eq_true rfl) (Nat.zero_le _) (Nat.zero_le _) dX8_openGap_57 ?_
        refine va_put (D := D) (ci := 6) (v := .int (if ll < (la + y) then ll else (la + y))) (ty := .int) (C := RX8) (T := TX8) (N := 5) hx hb hts w_X8 tyX8 tyX8_ok nmX8 hown hK hP hD hS 0 rfl rfl 2 (by decide) f_20 (fun _ h9 => h9) rfl (by decide +kernel) rfl rfl (Nat.le_of_ble_eq_true rfl) dX8_openGap_60 (fun H locs hP hD hS => ?_)
        have hP : va_P D vwCl [(h0, .inr (6, [.int ll, .int v_1, .int (if ll < (la + y) then ll else (la + y)), .int ff, .int lf]))] H := hP
        have hD : va_D A [(h0, .inr (6, [.int ll, .int v_1, .int (if ll < (la + y) then ll else (la + y)), .int ff, .int lf]))] := hD
        exact K63_2 _ (if_neg c43).symm H locs hP hD hS ls (lv_sub hl [0] rfl)
    refine lv_icmp_lt (tgt := 38) hx hb dX8_openGap_25 (by decide) (fun c25 => ?_) (fun c25 => ?_)
    · exact K38_1 _ (if_pos c25).symm H locs hP hD hS ls (lv_sub hl [0, 1, 2] rfl)
    · refine lv_aload_n hx hb dX8_openGap_28 rfl (lv_at hl 0 rfl) ?_
      refine lv_dup hx hb dX8_openGap_29 rfl ?_
      refine va_get (D := D) (ci := 6) (v := .int fi) (C := RX8) (T := TX8) (N := 5) hx hb hts w_X8 hown hK hP 0 rfl rfl 1 (by decide) f_13 (fun _ h9 => h9) rfl dX8_openGap_30 ?_
      refine lv_iload_n hx hb dX8_openGap_33 rfl (lv_at hl 2 rfl) ?_
      refine lv_iadd hx hb dX8_openGap_34 ?_
      refine va_put (D := D) (ci := 6) (v := .int (fi + y)) (ty := .int) (C := RX8) (T := TX8) (N := 5) hx hb hts w_X8 tyX8 tyX8_ok nmX8 hown hK hP hD hS 0 rfl rfl 1 (by decide) f_13 (fun _ h9 => h9) rfl (by decide +kernel) rfl rfl (Nat.le_of_ble_eq_true rfl) dX8_openGap_35 (fun H locs hP hD hS => ?_)
      have hP : va_P D vwCl [(h0, .inr (6, [.int ll, .int (fi + y), .int la, .int ff, .int lf]))] H := hP
      have hD : va_D A [(h0, .inr (6, [.int ll, .int (fi + y), .int la, .int ff, .int lf]))] := hD
      exact K38_1 _ (if_neg c25).symm H locs hP hD hS ls (lv_sub hl [0, 1, 2] rfl)
  · refine lv_iconst (v := 1) hx hb dX8_openGap_18 (by decide) ?_
    have hF : (fX8_openGap ll fi la x y) = (1, fi, la) := by exact (if_neg c15)
    subst hAe
    subst hQe
    exact W.zret (v := 1) hx hb hr rfl (fun t ht hW => ⟨⟨_, _, rfl, ⟨(), trivial, by rw [hF], by rw [hF]⟩, by rw [ht]; exact hP, hD⟩, hS.F ht⟩) hS.2.2 dX8_openGap_19

def fX8_closeGap (ll : Int32) (fi : Int32) (la : Int32) (x : Int32) (y : Int32) : Int32 × Int32 × Int32 := if (fX9_areAllLines fi la ll) = 0 then (let v_1 : Int32 := (if fi < (x + y) then (if fi < x then fi else x) else (fi - y)); let v_2 : Int32 := (if la < (x + y) then (if la < x then la else (x - 1)) else (la - y)); if v_2 < v_1 then (0, v_1, v_2) else (1, v_1, v_2)) else (1, fi, la)
theorem zb_X8_closeGap (ll : Int32) (fi : Int32) (la : Int32) (x : Int32) (y : Int32) : isB (fX8_closeGap ll fi la x y).1 := by
  unfold fX8_closeGap
  (try dsimp only)
  repeat' split
  all_goals first | exact Or.inl rfl | exact Or.inr rfl
abbrev rmX8_closeGap : Room := { frames := 1, cells := 0, slots := 0, locals := 22 }
abbrev qX8_closeGap (D : va_G) (sz : Nat) (h0 : Nat) (ll : Int32) (fi : Int32) (la : Int32) (ff : Int32) (lf : Int32) (x : Int32) (y : Int32) : Array Value → State → Outcome → State → Prop := va_Qi (fun r w => ∃ _u : Unit, True ∧ r = (fX8_closeGap ll fi la x y).1 ∧ w = [(h0, .inr (6, [.int ll, .int (fX8_closeGap ll fi la x y).2.1, .int (fX8_closeGap ll fi la x y).2.2, .int ff, .int lf]))]) (Bq D (va_A [(h0, .inr (6, [.int ll, .int fi, .int la, .int ff, .int lf]))] sz)) (va_A [(h0, .inr (6, [.int ll, .int fi, .int la, .int ff, .int lf]))] sz)
set_option maxHeartbeats 4000000 in
set_option maxRecDepth 100000 in
theorem kX8_closeGap (l : Launch) (D : va_G) (sz : Nat) (h0 : Nat) (ll : Int32) (fi : Int32) (la : Int32) (ff : Int32) (lf : Int32) (x : Int32) (y : Int32) : Met l yX8_closeGap wsX8_closeGap rmX8_closeGap (va_Pc [.ref h0, .int x, .int y] (Pw D [] [(h0, .inr (6, [.int ll, .int fi, .int la, .int ff, .int lf]))] sz)) (qX8_closeGap D sz h0 ll fi la ff lf x y) 0 0 (va_A [(h0, .inr (6, [.int ll, .int fi, .int la, .int ff, .int lf]))] sz) := by
  refine Met.ofW (cc := cX8_closeGap) (maxL := 4) (ret := (some .boolean)) (by decide) rfl ?_
  intro p e s m args below meth c s₁ B hml hv
  obtain ⟨rfl, hsz, hP, hK, hD0, hN⟩ := hv
  have hx := B.exec
  have hb := B.bytes
  have hr := B.returns
  have hts := atoms_spec (ws := wsX8_closeGap) B.pre
  have hown : s.vm.findClass RX8 = some m.cls := findClass_of_methodNamed B.named
  have hlocks := B.notSynchronized
  subst hsz
  obtain ⟨Q, hQe⟩ : ∃ Q, Q = MQ below (qX8_closeGap D s.heap.size h0 ll fi la ff lf x y) ([.ref h0, .int x, .int y] : List Value).toArray s 0 0 (va_A [(h0, .inr (6, [.int ll, .int fi, .int la, .int ff, .int lf]))] s.heap.size) := ⟨_, rfl⟩
  rw [← hQe]
  obtain ⟨A, hAe⟩ : ∃ A, A = va_A [(h0, .inr (6, [.int ll, .int fi, .int la, .int ff, .int lf]))] s.heap.size := ⟨_, rfl⟩
  have hD : va_D A [(h0, .inr (6, [.int ll, .int fi, .int la, .int ff, .int lf]))] := by rw [hAe]; exact hD0.self
  have hA : ∀ q : Nat, s.heap.size ≤ q → A q := by rw [hAe]; exact mo_A
  have hS : va_S A s.heap s.heap [] := va_S.rf
  obtain ⟨H, hHe⟩ : ∃ H, H = s.heap := ⟨_, rfl⟩
  obtain ⟨locs, hLe⟩ : ∃ L : List Loc, L = [] := ⟨_, rfl⟩
  have hP : va_P D vwCl [(h0, .inr (6, [.int ll, .int fi, .int la, .int ff, .int lf]))] H := by rw [hHe]; exact hP
  have hS : va_S A s.heap H locs := by rw [hHe, hLe]; exact hS
  have hl := lv_entry ([.ref h0, .int x, .int y]) (n := 4) (Nat.le_of_ble_eq_true rfl)
  rw [lg_entry_eq]
  generalize (lg_sl ([.ref h0, .int x, .int y]) ++ List.replicate (4 - (lg_sl ([.ref h0, .int x, .int y])).length) Slot.unset).toArray = ls at hl ⊢
  have hl : lv_has ls 4 [(0, .ref h0), (1, .int x), (2, .int y)] := hl
  refine hStart hHe hLe ?_
  clear hHe hLe
  have w_X8 : ∀ w ∈ wsX80, w ∈ wsX8_closeGap := by decide +kernel
  have f_13 := hts (.fieldLink RX8 13 "ReferenceMover$Span" "first" "I") (by decide +kernel)
  have f_20 := hts (.fieldLink RX8 20 "ReferenceMover$Span" "last" "I") (by decide +kernel)
  have f_7 := hts (.fieldLink RX8 7 "ReferenceMover$Span" "lastLine" "I") (by decide +kernel)
  have in_RX9 := hts (.initialized RX9) (by decide +kernel)
  have st_yX9_areAllLines := hts (.static yX9_areAllLines) (by decide +kernel)
  refine lv_aload_n hx hb dX8_closeGap_0 rfl (lv_at hl 0 rfl) ?_
  refine va_get (D := D) (ci := 6) (v := .int fi) (C := RX8) (T := TX8) (N := 5) hx hb hts w_X8 hown hK hP 0 rfl rfl 1 (by decide) f_13 (fun _ h9 => h9) rfl dX8_closeGap_1 ?_
  refine lv_aload_n hx hb dX8_closeGap_4 rfl (lv_at hl 0 rfl) ?_
  refine va_get (D := D) (ci := 6) (v := .int la) (C := RX8) (T := TX8) (N := 5) hx hb hts w_X8 hown hK hP 0 rfl rfl 2 (by decide) f_20 (fun _ h9 => h9) rfl dX8_closeGap_5 ?_
  refine lv_aload_n hx hb dX8_closeGap_8 rfl (lv_at hl 0 rfl) ?_
  refine va_get (D := D) (ci := 6) (v := .int ll) (C := RX8) (T := TX8) (N := 5) hx hb hts w_X8 hown hK hP 0 rfl rfl 0 (by decide) f_7 (fun _ h9 => h9) rfl dX8_closeGap_9 ?_
  have hPc := hP.sub (ws' := []) [] rfl
  have hDc := hD.sub (ws' := []) [] (by decide) rfl
  have hKc := hK.sub (tys' := []) [] rfl
  refine rd_i (va_runSN (As := [.int fi, .int la, .int ll]) (rest := []) ⟨hx, hb, hml, hown, hts⟩ (kX9_areAllLines l D H.size fi la ll ) ⟨va_cnB 3 hts gX8_closeGap_X9_areAllLines_n42 rfl rfl rfl hN.2.2.2.2.2.2.1 in_RX9 (by decide +kernel) ⟨Nat.le_of_ble_eq_true rfl, Nat.le_of_ble_eq_true rfl⟩, st_yX9_areAllLines, trivial⟩ ⟨Pw_blind, fun U hU hW => Pw_at hKc hPc hDc hN hU hW⟩ rfl rfl hl.1 rfl (lv_room (Nat.le_of_ble_eq_true rfl)) dX8_closeGap_12 ⟨Nat.le_of_ble_eq_true rfl, Nat.le_of_ble_eq_true rfl⟩) ?_
  refine lv_if_eq (tgt := 20) hx hb dX8_closeGap_15 (by decide) (fun c15 => ?_) (fun c15 => ?_)
  · refine lv_iload_n hx hb dX8_closeGap_20 rfl (lv_at hl 1 rfl) ?_
    refine lv_iload_n hx hb dX8_closeGap_21 rfl (lv_at hl 2 rfl) ?_
    refine lv_iadd hx hb dX8_closeGap_22 ?_
    refine lv_istore_n (lv' := [(3, .int (x + y)), (0, .ref h0), (1, .int x), (2, .int y)]) hx hb dX8_closeGap_23 rfl hl (by decide) rfl (fun ls hl => ?_)
    refine lv_aload_n hx hb dX8_closeGap_24 rfl (lv_at hl 1 rfl) ?_
    refine va_get (D := D) (ci := 6) (v := .int fi) (C := RX8) (T := TX8) (N := 5) hx hb hts w_X8 hown hK hP 0 rfl rfl 1 (by decide) f_13 (fun _ h9 => h9) rfl dX8_closeGap_25 ?_
    refine lv_iload_n hx hb dX8_closeGap_28 rfl (lv_at hl 0 rfl) ?_
    have K58_1 : ∀ (v_1 : Int32), v_1 = (if fi < (x + y) then (if fi < x then fi else x) else (fi - y)) → ∀ (H : Heap) (locs : List Loc), va_P D vwCl [(h0, .inr (6, [.int ll, .int v_1, .int la, .int ff, .int lf]))] H → va_D A [(h0, .inr (6, [.int ll, .int v_1, .int la, .int ff, .int lf]))] → va_S A s.heap H locs → ∀ ls : Array Slot, lv_has ls 4 [(0, .ref h0), (1, .int x), (2, .int y), (3, .int (x + y))] → W p l e (headSpec wsX8_closeGap rmX8_closeGap).room s m ([.ref h0, .int x, .int y] : List Value).toArray below meth c H locs 0 0 Q (F0 m 58 ls []) := by
      intro v_1 ev_1 H locs hP hD hS ls hl
      refine lv_aload_n hx hb dX8_closeGap_58 rfl (lv_at hl 0 rfl) ?_
      refine va_get (D := D) (ci := 6) (v := .int la) (C := RX8) (T := TX8) (N := 5) hx hb hts w_X8 hown hK hP 0 rfl rfl 2 (by decide) f_20 (fun _ h9 => h9) rfl dX8_closeGap_59 ?_
      refine lv_iload_n hx hb dX8_closeGap_62 rfl (lv_at hl 3 rfl) ?_
      have K94_2 : ∀ (v_2 : Int32), v_2 = (if la < (x + y) then (if la < x then la else (x - 1)) else (la - y)) → ∀ (H : Heap) (locs : List Loc), va_P D vwCl [(h0, .inr (6, [.int ll, .int v_1, .int v_2, .int ff, .int lf]))] H → va_D A [(h0, .inr (6, [.int ll, .int v_1, .int v_2, .int ff, .int lf]))] → va_S A s.heap H locs → ∀ ls : Array Slot, lv_has ls 4 [(0, .ref h0)] → W p l e (headSpec wsX8_closeGap rmX8_closeGap).room s m ([.ref h0, .int x, .int y] : List Value).toArray below meth c H locs 0 0 Q (F0 m 94 ls []) := by
        intro v_2 ev_2 H locs hP hD hS ls hl
        refine lv_aload_n hx hb dX8_closeGap_94 rfl (lv_at hl 0 rfl) ?_
        refine va_get (D := D) (ci := 6) (v := .int v_1) (C := RX8) (T := TX8) (N := 5) hx hb hts w_X8 hown hK hP 0 rfl rfl 1 (by decide) f_13 (fun _ h9 => h9) rfl dX8_closeGap_95 ?_
        refine lv_aload_n hx hb dX8_closeGap_98 rfl (lv_at hl 0 rfl) ?_
        refine va_get (D := D) (ci := 6) (v := .int v_2) (C := RX8) (T := TX8) (N := 5) hx hb hts w_X8 hown hK hP 0 rfl rfl 2 (by decide) f_20 (fun _ h9 => h9) rfl dX8_closeGap_99 ?_
        refine lv_icmp_gt (tgt := 109) hx hb dX8_closeGap_102 (by decide) (fun c102 => ?_) (fun c102 => ?_)
        · refine lv_iconst (v := 0) hx hb dX8_closeGap_109 (by decide) ?_
          have hF : (fX8_closeGap ll fi la x y) = (0, v_1, v_2) := by subst ev_2; subst ev_1; exact ((if_pos c15).trans (if_pos c102))
          subst hAe
          subst hQe
          exact W.zret (v := 0) hx hb hr rfl (fun t ht hW => ⟨⟨_, _, rfl, ⟨(), trivial, by rw [hF], by rw [hF]⟩, by rw [ht]; exact hP, hD⟩, hS.F ht⟩) hS.2.2 dX8_closeGap_110
        · refine lv_iconst (v := 1) hx hb dX8_closeGap_105 (by decide) ?_
          refine lv_goto (tgt := 110) hx hb dX8_closeGap_106 (by decide) ?_
          have hF : (fX8_closeGap ll fi la x y) = (1, v_1, v_2) := by subst ev_2; subst ev_1; exact ((if_pos c15).trans (if_neg c102))
          subst hAe
          subst hQe
          exact W.zret (v := 1) hx hb hr rfl (fun t ht hW => ⟨⟨_, _, rfl, ⟨(), trivial, by rw [hF], by rw [hF]⟩, by rw [ht]; exact hP, hD⟩, hS.F ht⟩) hS.2.2 dX8_closeGap_110
      refine lv_icmp_lt (tgt := 79) hx hb dX8_closeGap_63 (by decide) (fun c63 => ?_) (fun c63 => ?_)
      · refine lv_aload_n hx hb dX8_closeGap_79 rfl (lv_at hl 0 rfl) ?_
        refine va_get (D := D) (ci := 6) (v := .int la) (C := RX8) (T := TX8) (N := 5) hx hb hts w_X8 hown hK hP 0 rfl rfl 2 (by decide) f_20 (fun _ h9 => h9) rfl dX8_closeGap_80 ?_
        refine lv_iload_n hx hb dX8_closeGap_83 rfl (lv_at hl 1 rfl) ?_
        refine lv_icmp_lt (tgt := 94) hx hb dX8_closeGap_84 (by decide) (fun c84 => ?_) (fun c84 => ?_)
        · exact K94_2 _ ((if_pos c63).trans (if_pos c84)).symm H locs hP hD hS ls (lv_sub hl [0] rfl)
        · refine lv_aload_n hx hb dX8_closeGap_87 rfl (lv_at hl 0 rfl) ?_
          refine lv_iload_n hx hb dX8_closeGap_88 rfl (lv_at hl 1 rfl) ?_
          refine lv_iconst (v := 1) hx hb dX8_closeGap_89 (by decide) ?_
          refine lv_isub hx hb dX8_closeGap_90 ?_
          refine va_put (D := D) (ci := 6) (v := .int (x - 1)) (ty := .int) (C := RX8) (T := TX8) (N := 5) hx hb hts w_X8 tyX8 tyX8_ok nmX8 hown hK hP hD hS 0 rfl rfl 2 (by decide) f_20 (fun _ h9 => h9) rfl (by decide +kernel) rfl rfl (Nat.le_of_ble_eq_true rfl) dX8_closeGap_91 (fun H locs hP hD hS => ?_)
          have hP : va_P D vwCl [(h0, .inr (6, [.int ll, .int v_1, .int (x - 1), .int ff, .int lf]))] H := hP
          have hD : va_D A [(h0, .inr (6, [.int ll, .int v_1, .int (x - 1), .int ff, .int lf]))] := hD
          exact K94_2 _ ((if_pos c63).trans (if_neg c84)).symm H locs hP hD hS ls (lv_sub hl [0] rfl)
      · refine lv_aload_n hx hb dX8_closeGap_66 rfl (lv_at hl 0 rfl) ?_
        refine lv_dup hx hb dX8_closeGap_67 rfl ?_
        refine va_get (D := D) (ci := 6) (v := .int la) (C := RX8) (T := TX8) (N := 5) hx hb hts w_X8 hown hK hP 0 rfl rfl 2 (by decide) f_20 (fun _ h9 => h9) rfl dX8_closeGap_68 ?_
        refine lv_iload_n hx hb dX8_closeGap_71 rfl (lv_at hl 2 rfl) ?_
        refine lv_isub hx hb dX8_closeGap_72 ?_
        refine va_put (D := D) (ci := 6) (v := .int (la - y)) (ty := .int) (C := RX8) (T := TX8) (N := 5) hx hb hts w_X8 tyX8 tyX8_ok nmX8 hown hK hP hD hS 0 rfl rfl 2 (by decide) f_20 (fun _ h9 => h9) rfl (by decide +kernel) rfl rfl (Nat.le_of_ble_eq_true rfl) dX8_closeGap_73 (fun H locs hP hD hS => ?_)
        have hP : va_P D vwCl [(h0, .inr (6, [.int ll, .int v_1, .int (la - y), .int ff, .int lf]))] H := hP
        have hD : va_D A [(h0, .inr (6, [.int ll, .int v_1, .int (la - y), .int ff, .int lf]))] := hD
        refine lv_goto (tgt := 94) hx hb dX8_closeGap_76 (by decide) ?_
        exact K94_2 _ (if_neg c63).symm H locs hP hD hS ls (lv_sub hl [0] rfl)
    refine lv_icmp_lt (tgt := 45) hx hb dX8_closeGap_29 (by decide) (fun c29 => ?_) (fun c29 => ?_)
    · refine lv_aload_n hx hb dX8_closeGap_45 rfl (lv_at hl 1 rfl) ?_
      refine va_get (D := D) (ci := 6) (v := .int fi) (C := RX8) (T := TX8) (N := 5) hx hb hts w_X8 hown hK hP 0 rfl rfl 1 (by decide) f_13 (fun _ h9 => h9) rfl dX8_closeGap_46 ?_
      refine lv_iload_n hx hb dX8_closeGap_49 rfl (lv_at hl 2 rfl) ?_
      refine lv_icmp_lt (tgt := 58) hx hb dX8_closeGap_50 (by decide) (fun c50 => ?_) (fun c50 => ?_)
      · exact K58_1 _ ((if_pos c29).trans (if_pos c50)).symm H locs hP hD hS ls (lv_sub hl [1, 2, 3, 0] rfl)
      · refine lv_aload_n hx hb dX8_closeGap_53 rfl (lv_at hl 1 rfl) ?_
        refine lv_iload_n hx hb dX8_closeGap_54 rfl (lv_at hl 2 rfl) ?_
        refine va_put (D := D) (ci := 6) (v := .int x) (ty := .int) (C := RX8) (T := TX8) (N := 5) hx hb hts w_X8 tyX8 tyX8_ok nmX8 hown hK hP hD hS 0 rfl rfl 1 (by decide) f_13 (fun _ h9 => h9) rfl (by decide +kernel) rfl rfl (Nat.le_of_ble_eq_true rfl) dX8_closeGap_55 (fun H locs hP hD hS => ?_)
        have hP : va_P D vwCl [(h0, .inr (6, [.int ll, .int x, .int la, .int ff, .int lf]))] H := hP
        have hD : va_D A [(h0, .inr (6, [.int ll, .int x, .int la, .int ff, .int lf]))] := hD
        exact K58_1 _ ((if_pos c29).trans (if_neg c50)).symm H locs hP hD hS ls (lv_sub hl [1, 2, 3, 0] rfl)
    · refine lv_aload_n hx hb dX8_closeGap_32 rfl (lv_at hl 1 rfl) ?_
      refine lv_dup hx hb dX8_closeGap_33 rfl ?_
      refine va_get (D := D) (ci := 6) (v := .int fi) (C := RX8) (T := TX8) (N := 5) hx hb hts w_X8 hown hK hP 0 rfl rfl 1 (by decide) f_13 (fun _ h9 => h9) rfl dX8_closeGap_34 ?_
      refine lv_iload_n hx hb dX8_closeGap_37 rfl (lv_at hl 3 rfl) ?_
      refine lv_isub hx hb dX8_closeGap_38 ?_
      refine va_put (D := D) (ci := 6) (v := .int (fi - y)) (ty := .int) (C := RX8) (T := TX8) (N := 5) hx hb hts w_X8 tyX8 tyX8_ok nmX8 hown hK hP hD hS 0 rfl rfl 1 (by decide) f_13 (fun _ h9 => h9) rfl (by decide +kernel) rfl rfl (Nat.le_of_ble_eq_true rfl) dX8_closeGap_39 (fun H locs hP hD hS => ?_)
      have hP : va_P D vwCl [(h0, .inr (6, [.int ll, .int (fi - y), .int la, .int ff, .int lf]))] H := hP
      have hD : va_D A [(h0, .inr (6, [.int ll, .int (fi - y), .int la, .int ff, .int lf]))] := hD
      refine lv_goto (tgt := 58) hx hb dX8_closeGap_42 (by decide) ?_
      exact K58_1 _ (if_neg c29).symm H locs hP hD hS ls (lv_sub hl [1, 2, 3, 0] rfl)
  · refine lv_iconst (v := 1) hx hb dX8_closeGap_18 (by decide) ?_
    have hF : (fX8_closeGap ll fi la x y) = (1, fi, la) := by exact (if_neg c15)
    subst hAe
    subst hQe
    exact W.zret (v := 1) hx hb hr rfl (fun t ht hW => ⟨⟨_, _, rfl, ⟨(), trivial, by rw [hF], by rw [hF]⟩, by rw [ht]; exact hP, hD⟩, hS.F ht⟩) hS.2.2 dX8_closeGap_19
end
