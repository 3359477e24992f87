section
-- ===== PART A: goes FIRST, ahead of the names: the tables' words, and 'selects' of the private methods out of them =====
/-- a private method of a class that the tables say can be made, by its rows of tables_1 -/
def lw_okq (q : MethodName × Nat) : Prop := (q.1.cls ≠ "java/lang/invoke/MethodHandle" ∧ q.1.cls ≠ "java/lang/invoke/VarHandle") ∧ Cond.instantiable q.1.cls q.2 ∈ tables_1 ∧ Cond.privateMethod q.1 ∈ tables_1 ∧ Cond.instanceMethod q.1 ∈ tables_1
theorem lw_p0 : lw_okq (⟨"WellEchoes", "tellPart", "(I)V"⟩, 13) := ⟨⟨by decide +kernel, by decide +kernel⟩, List.mem_of_getElem? (i := 10) (by decide +kernel), List.mem_of_getElem? (i := 177) (by decide +kernel), List.mem_of_getElem? (i := 178) (by decide +kernel)⟩
theorem lw_p1 : lw_okq (⟨"WellEchoes$Acts", "forgetFirst", "()V"⟩, 2) := ⟨⟨by decide +kernel, by decide +kernel⟩, List.mem_of_getElem? (i := 76) (by decide +kernel), List.mem_of_getElem? (i := 256) (by decide +kernel), List.mem_of_getElem? (i := 257) (by decide +kernel)⟩
theorem lw_p2 : lw_okq (⟨"WellEchoes", "heardBy", "(IIZ)I"⟩, 13) := ⟨⟨by decide +kernel, by decide +kernel⟩, List.mem_of_getElem? (i := 10) (by decide +kernel), List.mem_of_getElem? (i := 323) (by decide +kernel), List.mem_of_getElem? (i := 324) (by decide +kernel)⟩
theorem lw_p3 : lw_okq (⟨"WellEchoes", "isDone", "(LWellEchoes$Songs;I)Z"⟩, 13) := ⟨⟨by decide +kernel, by decide +kernel⟩, List.mem_of_getElem? (i := 10) (by decide +kernel), List.mem_of_getElem? (i := 362) (by decide +kernel), List.mem_of_getElem? (i := 363) (by decide +kernel)⟩
theorem lw_p4 : lw_okq (⟨"WellEchoes", "worthBehindPlan", "(LWellEchoes$Songs;)I"⟩, 13) := ⟨⟨by decide +kernel, by decide +kernel⟩, List.mem_of_getElem? (i := 10) (by decide +kernel), List.mem_of_getElem? (i := 369) (by decide +kernel), List.mem_of_getElem? (i := 370) (by decide +kernel)⟩
theorem lw_p5 : lw_okq (⟨"WellEchoes", "landLawsIn", "(LWellEchoes$Songs;)I"⟩, 13) := ⟨⟨by decide +kernel, by decide +kernel⟩, List.mem_of_getElem? (i := 10) (by decide +kernel), List.mem_of_getElem? (i := 373) (by decide +kernel), List.mem_of_getElem? (i := 374) (by decide +kernel)⟩
theorem lw_p6 : lw_okq (⟨"WellEchoes", "bestSecondWorth", "()I"⟩, 13) := ⟨⟨by decide +kernel, by decide +kernel⟩, List.mem_of_getElem? (i := 10) (by decide +kernel), List.mem_of_getElem? (i := 383) (by decide +kernel), List.mem_of_getElem? (i := 384) (by decide +kernel)⟩
theorem lw_p7 : lw_okq (⟨"WellEchoes", "landLawsBehind", "(II)I"⟩, 13) := ⟨⟨by decide +kernel, by decide +kernel⟩, List.mem_of_getElem? (i := 10) (by decide +kernel), List.mem_of_getElem? (i := 397) (by decide +kernel), List.mem_of_getElem? (i := 398) (by decide +kernel)⟩
theorem lw_p8 : lw_okq (⟨"WellEchoes", "lawsByOneLamp", "()J"⟩, 13) := ⟨⟨by decide +kernel, by decide +kernel⟩, List.mem_of_getElem? (i := 10) (by decide +kernel), List.mem_of_getElem? (i := 405) (by decide +kernel), List.mem_of_getElem? (i := 406) (by decide +kernel)⟩
theorem lw_p9 : lw_okq (⟨"WellEchoes", "weighLids", "()V"⟩, 13) := ⟨⟨by decide +kernel, by decide +kernel⟩, List.mem_of_getElem? (i := 10) (by decide +kernel), List.mem_of_getElem? (i := 437) (by decide +kernel), List.mem_of_getElem? (i := 438) (by decide +kernel)⟩
theorem lw_p10 : lw_okq (⟨"WellEchoes", "weighTurn", "(Z)V"⟩, 13) := ⟨⟨by decide +kernel, by decide +kernel⟩, List.mem_of_getElem? (i := 10) (by decide +kernel), List.mem_of_getElem? (i := 441) (by decide +kernel), List.mem_of_getElem? (i := 442) (by decide +kernel)⟩
theorem lw_p11 : lw_okq (⟨"WellEchoes", "worthOfLids", "(I)I"⟩, 13) := ⟨⟨by decide +kernel, by decide +kernel⟩, List.mem_of_getElem? (i := 10) (by decide +kernel), List.mem_of_getElem? (i := 445) (by decide +kernel), List.mem_of_getElem? (i := 446) (by decide +kernel)⟩
theorem lw_p12 : lw_okq (⟨"WellEchoes", "isFloodedBySeed", "(I)Z"⟩, 13) := ⟨⟨by decide +kernel, by decide +kernel⟩, List.mem_of_getElem? (i := 10) (by decide +kernel), List.mem_of_getElem? (i := 476) (by decide +kernel), List.mem_of_getElem? (i := 477) (by decide +kernel)⟩
theorem lw_p13 : lw_okq (⟨"WellEchoes", "slotOf", "(I)LWellEchoes$Songs;"⟩, 13) := ⟨⟨by decide +kernel, by decide +kernel⟩, List.mem_of_getElem? (i := 10) (by decide +kernel), List.mem_of_getElem? (i := 491) (by decide +kernel), List.mem_of_getElem? (i := 492) (by decide +kernel)⟩
theorem lw_p14 : lw_okq (⟨"WellEchoesModel", "readLand", "()I"⟩, 25) := ⟨⟨by decide +kernel, by decide +kernel⟩, List.mem_of_getElem? (i := 499) (by decide +kernel), List.mem_of_getElem? (i := 598) (by decide +kernel), List.mem_of_getElem? (i := 599) (by decide +kernel)⟩
theorem lw_p15 : lw_okq (⟨"WellEchoesModel", "readPart", "()Z"⟩, 25) := ⟨⟨by decide +kernel, by decide +kernel⟩, List.mem_of_getElem? (i := 499) (by decide +kernel), List.mem_of_getElem? (i := 602) (by decide +kernel), List.mem_of_getElem? (i := 603) (by decide +kernel)⟩
def lw_privs_1 : List (MethodName × Nat) := [(⟨"WellEchoes", "tellPart", "(I)V"⟩, 13), (⟨"WellEchoes$Acts", "forgetFirst", "()V"⟩, 2), (⟨"WellEchoes", "heardBy", "(IIZ)I"⟩, 13), (⟨"WellEchoes", "isDone", "(LWellEchoes$Songs;I)Z"⟩, 13), (⟨"WellEchoes", "worthBehindPlan", "(LWellEchoes$Songs;)I"⟩, 13), (⟨"WellEchoes", "landLawsIn", "(LWellEchoes$Songs;)I"⟩, 13), (⟨"WellEchoes", "bestSecondWorth", "()I"⟩, 13), (⟨"WellEchoes", "landLawsBehind", "(II)I"⟩, 13), (⟨"WellEchoes", "lawsByOneLamp", "()J"⟩, 13), (⟨"WellEchoes", "weighLids", "()V"⟩, 13), (⟨"WellEchoes", "weighTurn", "(Z)V"⟩, 13), (⟨"WellEchoes", "worthOfLids", "(I)I"⟩, 13), (⟨"WellEchoes", "isFloodedBySeed", "(I)Z"⟩, 13), (⟨"WellEchoes", "slotOf", "(I)LWellEchoes$Songs;"⟩, 13), (⟨"WellEchoesModel", "readLand", "()I"⟩, 25), (⟨"WellEchoesModel", "readPart", "()Z"⟩, 25)]
theorem lw_r1 : ∀ q ∈ lw_privs_1, lw_okq q := List.forall_mem_cons.mpr ⟨lw_p0, List.forall_mem_cons.mpr ⟨lw_p1, List.forall_mem_cons.mpr ⟨lw_p2, List.forall_mem_cons.mpr ⟨lw_p3, List.forall_mem_cons.mpr ⟨lw_p4, List.forall_mem_cons.mpr ⟨lw_p5, List.forall_mem_cons.mpr ⟨lw_p6, List.forall_mem_cons.mpr ⟨lw_p7, List.forall_mem_cons.mpr ⟨lw_p8, List.forall_mem_cons.mpr ⟨lw_p9, List.forall_mem_cons.mpr ⟨lw_p10, List.forall_mem_cons.mpr ⟨lw_p11, List.forall_mem_cons.mpr ⟨lw_p12, List.forall_mem_cons.mpr ⟨lw_p13, List.forall_mem_cons.mpr ⟨lw_p14, List.forall_mem_cons.mpr ⟨lw_p15, fun _ h => absurd h List.not_mem_nil⟩⟩⟩⟩⟩⟩⟩⟩⟩⟩⟩⟩⟩⟩⟩⟩
theorem lw_p16 : lw_okq (⟨"WellEchoesModel", "readWell", "()Z"⟩, 25) := ⟨⟨by decide +kernel, by decide +kernel⟩, List.mem_of_getElem? (i := 499) (by decide +kernel), List.mem_of_getElem? (i := 606) (by decide +kernel), List.mem_of_getElem? (i := 607) (by decide +kernel)⟩
theorem lw_p17 : lw_okq (⟨"WellEchoesModel", "figure", "(II)I"⟩, 25) := ⟨⟨by decide +kernel, by decide +kernel⟩, List.mem_of_getElem? (i := 499) (by decide +kernel), List.mem_of_getElem? (i := 610) (by decide +kernel), List.mem_of_getElem? (i := 611) (by decide +kernel)⟩
theorem lw_p18 : lw_okq (⟨"WellEchoesModel", "readSong", "()Z"⟩, 25) := ⟨⟨by decide +kernel, by decide +kernel⟩, List.mem_of_getElem? (i := 499) (by decide +kernel), List.mem_of_getElem? (i := 614) (by decide +kernel), List.mem_of_getElem? (i := 615) (by decide +kernel)⟩
theorem lw_p19 : lw_okq (⟨"WellEchoesModel", "noWell", "(I)Z"⟩, 25) := ⟨⟨by decide +kernel, by decide +kernel⟩, List.mem_of_getElem? (i := 499) (by decide +kernel), List.mem_of_getElem? (i := 636) (by decide +kernel), List.mem_of_getElem? (i := 637) (by decide +kernel)⟩
theorem lw_p20 : lw_okq (⟨"WellEchoesModel", "noSong", "(I)Z"⟩, 25) := ⟨⟨by decide +kernel, by decide +kernel⟩, List.mem_of_getElem? (i := 499) (by decide +kernel), List.mem_of_getElem? (i := 644) (by decide +kernel), List.mem_of_getElem? (i := 645) (by decide +kernel)⟩
theorem lw_p21 : lw_okq (⟨"WellEchoesModel", "note", "()V"⟩, 25) := ⟨⟨by decide +kernel, by decide +kernel⟩, List.mem_of_getElem? (i := 499) (by decide +kernel), List.mem_of_getElem? (i := 653) (by decide +kernel), List.mem_of_getElem? (i := 654) (by decide +kernel)⟩
theorem lw_p22 : lw_okq (⟨"WellEchoesModel", "goYear", "([II)I"⟩, 25) := ⟨⟨by decide +kernel, by decide +kernel⟩, List.mem_of_getElem? (i := 499) (by decide +kernel), List.mem_of_getElem? (i := 657) (by decide +kernel), List.mem_of_getElem? (i := 658) (by decide +kernel)⟩
theorem lw_p23 : lw_okq (⟨"WellEchoesModel", "aloneLoss", "(II)I"⟩, 25) := ⟨⟨by decide +kernel, by decide +kernel⟩, List.mem_of_getElem? (i := 499) (by decide +kernel), List.mem_of_getElem? (i := 661) (by decide +kernel), List.mem_of_getElem? (i := 662) (by decide +kernel)⟩
theorem lw_p24 : lw_okq (⟨"WellEchoesModel", "wear", "([IIZ)I"⟩, 25) := ⟨⟨by decide +kernel, by decide +kernel⟩, List.mem_of_getElem? (i := 499) (by decide +kernel), List.mem_of_getElem? (i := 668) (by decide +kernel), List.mem_of_getElem? (i := 669) (by decide +kernel)⟩
theorem lw_p25 : lw_okq (⟨"WellEchoesModel", "canSing", "([III)Z"⟩, 25) := ⟨⟨by decide +kernel, by decide +kernel⟩, List.mem_of_getElem? (i := 499) (by decide +kernel), List.mem_of_getElem? (i := 678) (by decide +kernel), List.mem_of_getElem? (i := 679) (by decide +kernel)⟩
theorem lw_p26 : lw_okq (⟨"WellEchoesModel", "goSing", "([IIIII)V"⟩, 25) := ⟨⟨by decide +kernel, by decide +kernel⟩, List.mem_of_getElem? (i := 499) (by decide +kernel), List.mem_of_getElem? (i := 682) (by decide +kernel), List.mem_of_getElem? (i := 683) (by decide +kernel)⟩
theorem lw_p27 : lw_okq (⟨"WellEchoesModel", "hears", "(IIZ)I"⟩, 25) := ⟨⟨by decide +kernel, by decide +kernel⟩, List.mem_of_getElem? (i := 499) (by decide +kernel), List.mem_of_getElem? (i := 698) (by decide +kernel), List.mem_of_getElem? (i := 699) (by decide +kernel)⟩
theorem lw_p28 : lw_okq (⟨"WellEchoesModel", "goYears", "([II)V"⟩, 25) := ⟨⟨by decide +kernel, by decide +kernel⟩, List.mem_of_getElem? (i := 499) (by decide +kernel), List.mem_of_getElem? (i := 721) (by decide +kernel), List.mem_of_getElem? (i := 722) (by decide +kernel)⟩
theorem lw_p29 : lw_okq (⟨"WellEchoesModel", "doPlan", "([II)Z"⟩, 25) := ⟨⟨by decide +kernel, by decide +kernel⟩, List.mem_of_getElem? (i := 499) (by decide +kernel), List.mem_of_getElem? (i := 730) (by decide +kernel), List.mem_of_getElem? (i := 731) (by decide +kernel)⟩
theorem lw_p30 : lw_okq (⟨"WellEchoesModel", "hadBy", "(II)I"⟩, 25) := ⟨⟨by decide +kernel, by decide +kernel⟩, List.mem_of_getElem? (i := 499) (by decide +kernel), List.mem_of_getElem? (i := 741) (by decide +kernel), List.mem_of_getElem? (i := 742) (by decide +kernel)⟩
theorem lw_p31 : lw_okq (⟨"WellEchoesModel", "flood", "([II)V"⟩, 25) := ⟨⟨by decide +kernel, by decide +kernel⟩, List.mem_of_getElem? (i := 499) (by decide +kernel), List.mem_of_getElem? (i := 770) (by decide +kernel), List.mem_of_getElem? (i := 771) (by decide +kernel)⟩
def lw_privs_2 : List (MethodName × Nat) := [(⟨"WellEchoesModel", "readWell", "()Z"⟩, 25), (⟨"WellEchoesModel", "figure", "(II)I"⟩, 25), (⟨"WellEchoesModel", "readSong", "()Z"⟩, 25), (⟨"WellEchoesModel", "noWell", "(I)Z"⟩, 25), (⟨"WellEchoesModel", "noSong", "(I)Z"⟩, 25), (⟨"WellEchoesModel", "note", "()V"⟩, 25), (⟨"WellEchoesModel", "goYear", "([II)I"⟩, 25), (⟨"WellEchoesModel", "aloneLoss", "(II)I"⟩, 25), (⟨"WellEchoesModel", "wear", "([IIZ)I"⟩, 25), (⟨"WellEchoesModel", "canSing", "([III)Z"⟩, 25), (⟨"WellEchoesModel", "goSing", "([IIIII)V"⟩, 25), (⟨"WellEchoesModel", "hears", "(IIZ)I"⟩, 25), (⟨"WellEchoesModel", "goYears", "([II)V"⟩, 25), (⟨"WellEchoesModel", "doPlan", "([II)Z"⟩, 25), (⟨"WellEchoesModel", "hadBy", "(II)I"⟩, 25), (⟨"WellEchoesModel", "flood", "([II)V"⟩, 25)]
theorem lw_r2 : ∀ q ∈ lw_privs_2, lw_okq q := List.forall_mem_cons.mpr ⟨lw_p16, List.forall_mem_cons.mpr ⟨lw_p17, List.forall_mem_cons.mpr ⟨lw_p18, List.forall_mem_cons.mpr ⟨lw_p19, List.forall_mem_cons.mpr ⟨lw_p20, List.forall_mem_cons.mpr ⟨lw_p21, List.forall_mem_cons.mpr ⟨lw_p22, List.forall_mem_cons.mpr ⟨lw_p23, List.forall_mem_cons.mpr ⟨lw_p24, List.forall_mem_cons.mpr ⟨lw_p25, List.forall_mem_cons.mpr ⟨lw_p26, List.forall_mem_cons.mpr ⟨lw_p27, List.forall_mem_cons.mpr ⟨lw_p28, List.forall_mem_cons.mpr ⟨lw_p29, List.forall_mem_cons.mpr ⟨lw_p30, List.forall_mem_cons.mpr ⟨lw_p31, fun _ h => absurd h List.not_mem_nil⟩⟩⟩⟩⟩⟩⟩⟩⟩⟩⟩⟩⟩⟩⟩⟩
def lw_privs : List (MethodName × Nat) := lw_privs_1 ++ (lw_privs_2)
def lw_tbl : List Cond := k2_sels lw_privs ++ tables_1
theorem lw_privs_ok : ∀ q ∈ lw_privs, lw_okq q := by
  show ∀ q ∈ lw_privs_1 ++ (lw_privs_2), lw_okq q
  exact List.forall_mem_append.mpr ⟨lw_r1, lw_r2⟩

def RX0 : String := "WellEchoes$Acts"
def TX0 : u_T := fun k => match k with
  | 0 => ("WellEchoes$Acts", "row", "[LWellEchoes$Songs;", true)
  | _ => ("WellEchoes$Acts", "count", "I", false)
def tyX0 : Nat → FieldType := fun k => match k with
  | 0 => .array (.object "WellEchoes$Songs")
  | _ => .int
abbrev wsX00 : List Cond := u_ws RX0 TX0 2
theorem nmX0 : ∀ a, a < 2 → ∀ b, b < 2 → a ≠ b → (TX0 a).2.1 ≠ (TX0 b).2.1 := by decide +kernel
theorem tyX0_ok : ∀ k, k < 2 → parseFieldDescriptor (TX0 k).2.2.1 = some (tyX0 k) := by decide +kernel
abbrev cX0_init : ByteArray := prog_2_method_1_code
def yX0_init : MethodName := ⟨RX0, "<init>", "()V"⟩
abbrev cX0_remember : ByteArray := prog_2_method_2_code
def yX0_remember : MethodName := ⟨RX0, "remember", "(LWellEchoes$Songs;)V"⟩
abbrev cX0_forgetFirst : ByteArray := prog_2_method_3_code
def yX0_forgetFirst : MethodName := ⟨RX0, "forgetFirst", "()V"⟩
abbrev cX0_takeBack : ByteArray := prog_2_method_4_code
def yX0_takeBack : MethodName := ⟨RX0, "takeBack", "(LWellEchoes$Songs;)Z"⟩
def RX1 : String := "WellEchoes$Songs"
def TX1 : u_T := fun k => match k with
  | 0 => ("WellEchoes$Songs", "cells", "[I", true)
  | 1 => ("WellEchoes$Songs", "count", "I", false)
  | 2 => ("WellEchoes$Songs", "lids", "I", false)
  | 3 => ("WellEchoes$Songs", "years", "I", false)
  | _ => ("WellEchoes$Songs", "breath", "I", false)
def tyX1 : Nat → FieldType := fun k => match k with
  | 0 => .array .int
  | 1 => .int
  | 2 => .int
  | 3 => .int
  | _ => .int
abbrev wsX10 : List Cond := u_ws RX1 TX1 5
theorem nmX1 : ∀ a, a < 5 → ∀ b, b < 5 → a ≠ b → (TX1 a).2.1 ≠ (TX1 b).2.1 := by decide +kernel
theorem tyX1_ok : ∀ k, k < 5 → parseFieldDescriptor (TX1 k).2.2.1 = some (tyX1 k) := by decide +kernel
abbrev cX1_init : ByteArray := prog_3_method_1_code
def yX1_init : MethodName := ⟨RX1, "<init>", "()V"⟩
abbrev cX1_clear : ByteArray := prog_3_method_2_code
def yX1_clear : MethodName := ⟨RX1, "clear", "()V"⟩
abbrev cX1_take : ByteArray := prog_3_method_3_code
def yX1_take : MethodName := ⟨RX1, "take", "(LWellEchoes$Songs;)V"⟩
abbrev cX1_has : ByteArray := prog_3_method_4_code
def yX1_has : MethodName := ⟨RX1, "has", "(I)Z"⟩
abbrev cX1_get : ByteArray := prog_3_method_5_code
def yX1_get : MethodName := ⟨RX1, "get", "(II)I"⟩
abbrev cX1_set : ByteArray := prog_3_method_6_code
def yX1_set : MethodName := ⟨RX1, "set", "(III)V"⟩
abbrev cX1_add : ByteArray := prog_3_method_7_code
def yX1_add : MethodName := ⟨RX1, "add", "(IIIII)I"⟩
abbrev cX1_hasLid : ByteArray := prog_3_method_8_code
def yX1_hasLid : MethodName := ⟨RX1, "hasLid", "(I)Z"⟩
abbrev cX1_songsIn : ByteArray := prog_3_method_9_code
def yX1_songsIn : MethodName := ⟨RX1, "songsIn", "(I)I"⟩
abbrev cX1_lawsHad : ByteArray := prog_3_method_10_code
def yX1_lawsHad : MethodName := ⟨RX1, "lawsHad", "()I"⟩
abbrev cX1_lawsOf : ByteArray := prog_3_method_11_code
def yX1_lawsOf : MethodName := ⟨RX1, "lawsOf", "(I)I"⟩
abbrev cX1_copiesOf : ByteArray := prog_3_method_12_code
def yX1_copiesOf : MethodName := ⟨RX1, "copiesOf", "(II)I"⟩
abbrev cX1_hasLawIn : ByteArray := prog_3_method_13_code
def yX1_hasLawIn : MethodName := ⟨RX1, "hasLawIn", "(II)Z"⟩
abbrev cX1_isSafe : ByteArray := prog_3_method_14_code
def yX1_isSafe : MethodName := ⟨RX1, "isSafe", "(I)Z"⟩
abbrev cX1_isWayOpen : ByteArray := prog_3_method_15_code
def yX1_isWayOpen : MethodName := ⟨RX1, "isWayOpen", "(IILWellEchoes$Wells;)Z"⟩
abbrev cX1_wellBeside : ByteArray := prog_3_method_16_code
def yX1_wellBeside : MethodName := ⟨RX1, "wellBeside", "(II)I"⟩
abbrev cX1_singOn : ByteArray := prog_3_method_17_code
def yX1_singOn : MethodName := ⟨RX1, "singOn", "(IIIILWellEchoes$Wells;)I"⟩
abbrev cX1_goYear : ByteArray := prog_3_method_18_code
def yX1_goYear : MethodName := ⟨RX1, "goYear", "(LWellEchoes$Wells;)I"⟩
abbrev cX1_goYears : ByteArray := prog_3_method_19_code
def yX1_goYears : MethodName := ⟨RX1, "goYears", "(ILWellEchoes$Wells;)V"⟩
abbrev cX1_wear : ByteArray := prog_3_method_20_code
def yX1_wear : MethodName := ⟨RX1, "wear", "(LWellEchoes$Wells;)V"⟩
abbrev cX1_shiftOfCrowd : ByteArray := prog_3_method_21_code
def yX1_shiftOfCrowd : MethodName := ⟨RX1, "shiftOfCrowd", "(II)I"⟩
abbrev cX1_faintAhead : ByteArray := prog_3_method_22_code
def yX1_faintAhead : MethodName := ⟨RX1, "faintAhead", "(I)I"⟩
abbrev cX1_dropFaint : ByteArray := prog_3_method_23_code
def yX1_dropFaint : MethodName := ⟨RX1, "dropFaint", "()I"⟩
abbrev cX1_flood : ByteArray := prog_3_method_24_code
def yX1_flood : MethodName := ⟨RX1, "flood", "(I)V"⟩
def RX2 : String := "WellEchoes$Text"
def TX2 : u_T := fun k => match k with
  | 0 => ("WellEchoes$Text", "letters", "[I", true)
  | _ => ("WellEchoes$Text", "length", "I", false)
def tyX2 : Nat → FieldType := fun k => match k with
  | 0 => .array .int
  | _ => .int
abbrev wsX20 : List Cond := u_ws RX2 TX2 2
theorem nmX2 : ∀ a, a < 2 → ∀ b, b < 2 → a ≠ b → (TX2 a).2.1 ≠ (TX2 b).2.1 := by decide +kernel
theorem tyX2_ok : ∀ k, k < 2 → parseFieldDescriptor (TX2 k).2.2.1 = some (tyX2 k) := by decide +kernel
abbrev cX2_init : ByteArray := prog_4_method_1_code
def yX2_init : MethodName := ⟨RX2, "<init>", "()V"⟩
abbrev cX2_append : ByteArray := prog_4_method_2_code
def yX2_append : MethodName := ⟨RX2, "append", "(I)Z"⟩
abbrev cX2_letterAt : ByteArray := prog_4_method_3_code
def yX2_letterAt : MethodName := ⟨RX2, "letterAt", "(I)I"⟩
abbrev cX2_digitAt : ByteArray := prog_4_method_4_code
def yX2_digitAt : MethodName := ⟨RX2, "digitAt", "(I)I"⟩
abbrev cX2_faultPlace : ByteArray := prog_4_method_5_code
def yX2_faultPlace : MethodName := ⟨RX2, "faultPlace", "()I"⟩
abbrev cX2_digitsOf : ByteArray := prog_4_method_6_code
def yX2_digitsOf : MethodName := ⟨RX2, "digitsOf", "(I)I"⟩
abbrev cX2_canOpen : ByteArray := prog_4_method_7_code
def yX2_canOpen : MethodName := ⟨RX2, "canOpen", "(III)Z"⟩
abbrev cX2_canStand : ByteArray := prog_4_method_8_code
def yX2_canStand : MethodName := ⟨RX2, "canStand", "(IIII)Z"⟩
def RX3 : String := "WellEchoes$Wells"
def TX3 : u_T := fun k => match k with
  | 0 => ("WellEchoes$Wells", "depths", "[I", true)
  | 1 => ("WellEchoes$Wells", "stones", "[I", true)
  | _ => ("WellEchoes$Wells", "count", "I", false)
def tyX3 : Nat → FieldType := fun k => match k with
  | 0 => .array .int
  | 1 => .array .int
  | _ => .int
abbrev wsX30 : List Cond := u_ws RX3 TX3 3
theorem nmX3 : ∀ a, a < 3 → ∀ b, b < 3 → a ≠ b → (TX3 a).2.1 ≠ (TX3 b).2.1 := by decide +kernel
theorem tyX3_ok : ∀ k, k < 3 → parseFieldDescriptor (TX3 k).2.2.1 = some (tyX3 k) := by decide +kernel
abbrev cX3_init : ByteArray := prog_5_method_1_code
def yX3_init : MethodName := ⟨RX3, "<init>", "()V"⟩
abbrev cX3_add : ByteArray := prog_5_method_2_code
def yX3_add : MethodName := ⟨RX3, "add", "(II)V"⟩
abbrev cX3_has : ByteArray := prog_5_method_3_code
def yX3_has : MethodName := ⟨RX3, "has", "(I)Z"⟩
abbrev cX3_depthOf : ByteArray := prog_5_method_4_code
def yX3_depthOf : MethodName := ⟨RX3, "depthOf", "(I)I"⟩
abbrev cX3_stoneOf : ByteArray := prog_5_method_5_code
def yX3_stoneOf : MethodName := ⟨RX3, "stoneOf", "(I)I"⟩
abbrev cX3_wearIn : ByteArray := prog_5_method_6_code
def yX3_wearIn : MethodName := ⟨RX3, "wearIn", "(IZ)I"⟩
def RX4 : String := "WellEchoes"
def TX4 : u_T := fun k => match k with
  | 0 => ("WellEchoes", "text", "LWellEchoes$Text;", true)
  | 1 => ("WellEchoes", "wells", "LWellEchoes$Wells;", true)
  | 2 => ("WellEchoes", "now", "LWellEchoes$Songs;", true)
  | 3 => ("WellEchoes", "acts", "LWellEchoes$Acts;", true)
  | 4 => ("WellEchoes", "firstSlot", "LWellEchoes$Songs;", true)
  | 5 => ("WellEchoes", "secondSlot", "LWellEchoes$Songs;", true)
  | 6 => ("WellEchoes", "slotsKept", "I", false)
  | 7 => ("WellEchoes", "lawsOfLand", "I", false)
  | 8 => ("WellEchoes", "seedNow", "J", false)
  | 9 => ("WellEchoes", "trial", "LWellEchoes$Songs;", true)
  | 10 => ("WellEchoes", "laterTrial", "LWellEchoes$Songs;", true)
  | 11 => ("WellEchoes", "lidWorth", "[I", true)
  | _ => ("WellEchoes", "lidWorthAhead", "[I", true)
def tyX4 : Nat → FieldType := fun k => match k with
  | 0 => .object "WellEchoes$Text"
  | 1 => .object "WellEchoes$Wells"
  | 2 => .object "WellEchoes$Songs"
  | 3 => .object "WellEchoes$Acts"
  | 4 => .object "WellEchoes$Songs"
  | 5 => .object "WellEchoes$Songs"
  | 6 => .int
  | 7 => .int
  | 8 => .long
  | 9 => .object "WellEchoes$Songs"
  | 10 => .object "WellEchoes$Songs"
  | 11 => .array .int
  | _ => .array .int
abbrev wsX40 : List Cond := u_ws RX4 TX4 13
theorem nmX4 : ∀ a, a < 13 → ∀ b, b < 13 → a ≠ b → (TX4 a).2.1 ≠ (TX4 b).2.1 := by decide +kernel
theorem tyX4_ok : ∀ k, k < 13 → parseFieldDescriptor (TX4 k).2.2.1 = some (tyX4 k) := by decide +kernel
abbrev cX4_init : ByteArray := prog_1_method_1_code
def yX4_init : MethodName := ⟨RX4, "<init>", "()V"⟩
abbrev cX4_write : ByteArray := prog_1_method_2_code
def yX4_write : MethodName := ⟨RX4, "write", "(I)I"⟩
abbrev cX4_wipe : ByteArray := prog_1_method_3_code
def yX4_wipe : MethodName := ⟨RX4, "wipe", "()I"⟩
abbrev cX4_fault : ByteArray := prog_1_method_4_code
def yX4_fault : MethodName := ⟨RX4, "fault", "()I"⟩
abbrev cX4_land : ByteArray := prog_1_method_5_code
def yX4_land : MethodName := ⟨RX4, "land", "()I"⟩
abbrev cX4_tellPart : ByteArray := prog_1_method_6_code
def yX4_tellPart : MethodName := ⟨RX4, "tellPart", "(I)V"⟩
abbrev cX4_about : ByteArray := prog_1_method_7_code
def yX4_about : MethodName := ⟨RX4, "about", "(I)I"⟩
abbrev cX4_well : ByteArray := prog_1_method_8_code
def yX4_well : MethodName := ⟨RX4, "well", "(II)I"⟩
abbrev cX4_song : ByteArray := prog_1_method_9_code
def yX4_song : MethodName := ⟨RX4, "song", "(II)I"⟩
abbrev cX4_year : ByteArray := prog_1_method_10_code
def yX4_year : MethodName := ⟨RX4, "year", "()I"⟩
abbrev cX4_sing : ByteArray := prog_1_method_11_code
def yX4_sing : MethodName := ⟨RX4, "sing", "(IIII)I"⟩
abbrev cX4_lid : ByteArray := prog_1_method_12_code
def yX4_lid : MethodName := ⟨RX4, "lid", "(I)I"⟩
abbrev cX4_undo : ByteArray := prog_1_method_13_code
def yX4_undo : MethodName := ⟨RX4, "undo", "()I"⟩
abbrev cX4_heard : ByteArray := prog_1_method_14_code
def yX4_heard : MethodName := ⟨RX4, "heard", "(IIZ)I"⟩
abbrev cX4_heardBy : ByteArray := prog_1_method_15_code
def yX4_heardBy : MethodName := ⟨RX4, "heardBy", "(IIZ)I"⟩
abbrev cX4_songLasts : ByteArray := prog_1_method_16_code
def yX4_songLasts : MethodName := ⟨RX4, "songLasts", "(I)I"⟩
abbrev cX4_lawLasts : ByteArray := prog_1_method_17_code
def yX4_lawLasts : MethodName := ⟨RX4, "lawLasts", "(I)I"⟩
abbrev cX4_lost : ByteArray := prog_1_method_18_code
def yX4_lost : MethodName := ⟨RX4, "lost", "(I)I"⟩
abbrev cX4_plan : ByteArray := prog_1_method_19_code
def yX4_plan : MethodName := ⟨RX4, "plan", "(II)I"⟩
abbrev cX4_bestSecondWorth : ByteArray := prog_1_method_20_code
def yX4_bestSecondWorth : MethodName := ⟨RX4, "bestSecondWorth", "()I"⟩
abbrev cX4_deedsOf : ByteArray := prog_1_method_21_code
def yX4_deedsOf : MethodName := ⟨RX4, "deedsOf", "(LWellEchoes$Songs;)I"⟩
abbrev cX4_isDone : ByteArray := prog_1_method_22_code
def yX4_isDone : MethodName := ⟨RX4, "isDone", "(LWellEchoes$Songs;I)Z"⟩
abbrev cX4_worthOfDeed : ByteArray := prog_1_method_23_code
def yX4_worthOfDeed : MethodName := ⟨RX4, "worthOfDeed", "(I)I"⟩
abbrev cX4_worthBehindPlan : ByteArray := prog_1_method_24_code
def yX4_worthBehindPlan : MethodName := ⟨RX4, "worthBehindPlan", "(LWellEchoes$Songs;)I"⟩
abbrev cX4_lawsOfWorth : ByteArray := prog_1_method_25_code
def yX4_lawsOfWorth : MethodName := ⟨RX4, "lawsOfWorth", "(I)I"⟩
abbrev cX4_landLawsIn : ByteArray := prog_1_method_26_code
def yX4_landLawsIn : MethodName := ⟨RX4, "landLawsIn", "(LWellEchoes$Songs;)I"⟩
abbrev cX4_landLawsBehind : ByteArray := prog_1_method_27_code
def yX4_landLawsBehind : MethodName := ⟨RX4, "landLawsBehind", "(II)I"⟩
abbrev cX4_bestLid : ByteArray := prog_1_method_28_code
def yX4_bestLid : MethodName := ⟨RX4, "bestLid", "(I)I"⟩
abbrev cX4_lamps : ByteArray := prog_1_method_29_code
def yX4_lamps : MethodName := ⟨RX4, "lamps", "()I"⟩
abbrev cX4_lawsByOneLamp : ByteArray := prog_1_method_30_code
def yX4_lawsByOneLamp : MethodName := ⟨RX4, "lawsByOneLamp", "()J"⟩
abbrev cX4_joined : ByteArray := prog_1_method_31_code
def yX4_joined : MethodName := ⟨RX4, "joined", "(JJ)J"⟩
abbrev cX4_joinedWithEach : ByteArray := prog_1_method_32_code
def yX4_joinedWithEach : MethodName := ⟨RX4, "joinedWithEach", "(IJ)J"⟩
abbrev cX4_mostPitch : ByteArray := prog_1_method_33_code
def yX4_mostPitch : MethodName := ⟨RX4, "mostPitch", "(I)I"⟩
abbrev cX4_truest : ByteArray := prog_1_method_34_code
def yX4_truest : MethodName := ⟨RX4, "truest", "(I)I"⟩
abbrev cX4_back : ByteArray := prog_1_method_35_code
def yX4_back : MethodName := ⟨RX4, "back", "(III)I"⟩
abbrev cX4_lords : ByteArray := prog_1_method_36_code
def yX4_lords : MethodName := ⟨RX4, "lords", "(II)I"⟩
abbrev cX4_weighLids : ByteArray := prog_1_method_37_code
def yX4_weighLids : MethodName := ⟨RX4, "weighLids", "()V"⟩
abbrev cX4_weighTurn : ByteArray := prog_1_method_38_code
def yX4_weighTurn : MethodName := ⟨RX4, "weighTurn", "(Z)V"⟩
abbrev cX4_worthOfLids : ByteArray := prog_1_method_39_code
def yX4_worthOfLids : MethodName := ⟨RX4, "worthOfLids", "(I)I"⟩
abbrev cX4_lidsBehind : ByteArray := prog_1_method_40_code
def yX4_lidsBehind : MethodName := ⟨RX4, "lidsBehind", "(II)I"⟩
abbrev cX4_rain : ByteArray := prog_1_method_41_code
def yX4_rain : MethodName := ⟨RX4, "rain", "(IIZ)I"⟩
abbrev cX4_greatestDivisor : ByteArray := prog_1_method_42_code
def yX4_greatestDivisor : MethodName := ⟨RX4, "greatestDivisor", "(II)I"⟩
abbrev cX4_seed : ByteArray := prog_1_method_43_code
def yX4_seed : MethodName := ⟨RX4, "seed", "(J)J"⟩
abbrev cX4_rains : ByteArray := prog_1_method_44_code
def yX4_rains : MethodName := ⟨RX4, "rains", "(II)I"⟩
abbrev cX4_isFloodedBySeed : ByteArray := prog_1_method_45_code
def yX4_isFloodedBySeed : MethodName := ⟨RX4, "isFloodedBySeed", "(I)Z"⟩
abbrev cX4_keep : ByteArray := prog_1_method_46_code
def yX4_keep : MethodName := ⟨RX4, "keep", "(I)I"⟩
abbrev cX4_again : ByteArray := prog_1_method_47_code
def yX4_again : MethodName := ⟨RX4, "again", "(I)I"⟩
abbrev cX4_slotOf : ByteArray := prog_1_method_48_code
def yX4_slotOf : MethodName := ⟨RX4, "slotOf", "(I)LWellEchoes$Songs;"⟩
abbrev cX4_isWithin : ByteArray := prog_1_method_49_code
def yX4_isWithin : MethodName := ⟨RX4, "isWithin", "(III)Z"⟩
def RX5 : String := "WellEchoesModel"
def TX5 : u_T := fun k => match k with
  | 0 => ("WellEchoesModel", "thrown", "I", false)
  | 1 => ("WellEchoesModel", "text", "[I", true)
  | 2 => ("WellEchoesModel", "textSize", "I", false)
  | 3 => ("WellEchoesModel", "place", "I", false)
  | 4 => ("WellEchoesModel", "wells", "I", false)
  | 5 => ("WellEchoesModel", "laws", "I", false)
  | 6 => ("WellEchoesModel", "depth", "[I", true)
  | 7 => ("WellEchoesModel", "stone", "[I", true)
  | 8 => ("WellEchoesModel", "readWells", "I", false)
  | 9 => ("WellEchoesModel", "readDepth", "[I", true)
  | 10 => ("WellEchoesModel", "readStone", "[I", true)
  | 11 => ("WellEchoesModel", "readPage", "[I", true)
  | 12 => ("WellEchoesModel", "page", "[I", true)
  | 13 => ("WellEchoesModel", "book", "[I", true)
  | 14 => ("WellEchoesModel", "acts", "I", false)
  | 15 => ("WellEchoesModel", "kept", "[I", true)
  | 16 => ("WellEchoesModel", "isKept", "[Z", true)
  | 17 => ("WellEchoesModel", "seed", "J", false)
  | 18 => ("WellEchoesModel", "one", "[I", true)
  | 19 => ("WellEchoesModel", "two", "[I", true)
  | 20 => ("WellEchoesModel", "three", "[I", true)
  | 21 => ("WellEchoesModel", "loss", "[I", true)
  | 22 => ("WellEchoesModel", "far", "[I", true)
  | 23 => ("WellEchoesModel", "worth", "[I", true)
  | _ => ("WellEchoesModel", "next", "[I", true)
def tyX5 : Nat → FieldType := fun k => match k with
  | 0 => .int
  | 1 => .array .int
  | 2 => .int
  | 3 => .int
  | 4 => .int
  | 5 => .int
  | 6 => .array .int
  | 7 => .array .int
  | 8 => .int
  | 9 => .array .int
  | 10 => .array .int
  | 11 => .array .int
  | 12 => .array .int
  | 13 => .array .int
  | 14 => .int
  | 15 => .array .int
  | 16 => .array .boolean
  | 17 => .long
  | 18 => .array .int
  | 19 => .array .int
  | 20 => .array .int
  | 21 => .array .int
  | 22 => .array .int
  | 23 => .array .int
  | _ => .array .int
abbrev wsX50 : List Cond := u_ws RX5 TX5 25
theorem nmX5 : ∀ a, a < 25 → ∀ b, b < 25 → a ≠ b → (TX5 a).2.1 ≠ (TX5 b).2.1 := by decide +kernel
theorem tyX5_ok : ∀ k, k < 25 → parseFieldDescriptor (TX5 k).2.2.1 = some (tyX5 k) := by decide +kernel
abbrev cX5_init : ByteArray := prog_7_method_1_code
def yX5_init : MethodName := ⟨RX5, "<init>", "()V"⟩
abbrev cX5_in : ByteArray := prog_7_method_3_code
def yX5_in : MethodName := ⟨RX5, "in", "(JJJ)Z"⟩
abbrev cX5_has : ByteArray := prog_7_method_4_code
def yX5_has : MethodName := ⟨RX5, "has", "(II)Z"⟩
abbrev cX5_many : ByteArray := prog_7_method_5_code
def yX5_many : MethodName := ⟨RX5, "many", "(I)I"⟩
abbrev cX5_noWell : ByteArray := prog_7_method_6_code
def yX5_noWell : MethodName := ⟨RX5, "noWell", "(I)Z"⟩
abbrev cX5_noSong : ByteArray := prog_7_method_7_code
def yX5_noSong : MethodName := ⟨RX5, "noSong", "(I)Z"⟩
abbrev cX5_write : ByteArray := prog_7_method_8_code
def yX5_write : MethodName := ⟨RX5, "write", "(I)I"⟩
abbrev cX5_wipe : ByteArray := prog_7_method_9_code
def yX5_wipe : MethodName := ⟨RX5, "wipe", "()I"⟩
abbrev cX5_figure : ByteArray := prog_7_method_10_code
def yX5_figure : MethodName := ⟨RX5, "figure", "(II)I"⟩
abbrev cX5_readWell : ByteArray := prog_7_method_11_code
def yX5_readWell : MethodName := ⟨RX5, "readWell", "()Z"⟩
abbrev cX5_readSong : ByteArray := prog_7_method_12_code
def yX5_readSong : MethodName := ⟨RX5, "readSong", "()Z"⟩
abbrev cX5_readPart : ByteArray := prog_7_method_13_code
def yX5_readPart : MethodName := ⟨RX5, "readPart", "()Z"⟩
abbrev cX5_readLand : ByteArray := prog_7_method_14_code
def yX5_readLand : MethodName := ⟨RX5, "readLand", "()I"⟩
abbrev cX5_fault : ByteArray := prog_7_method_15_code
def yX5_fault : MethodName := ⟨RX5, "fault", "()I"⟩
abbrev cX5_land : ByteArray := prog_7_method_16_code
def yX5_land : MethodName := ⟨RX5, "land", "()I"⟩
abbrev cX5_add : ByteArray := prog_7_method_17_code
def yX5_add : MethodName := ⟨RX5, "add", "([IIIIII)V"⟩
abbrev cX5_lawsOf : ByteArray := prog_7_method_18_code
def yX5_lawsOf : MethodName := ⟨RX5, "lawsOf", "([I)I"⟩
abbrev cX5_about : ByteArray := prog_7_method_19_code
def yX5_about : MethodName := ⟨RX5, "about", "(I)I"⟩
abbrev cX5_well : ByteArray := prog_7_method_20_code
def yX5_well : MethodName := ⟨RX5, "well", "(II)I"⟩
abbrev cX5_song : ByteArray := prog_7_method_21_code
def yX5_song : MethodName := ⟨RX5, "song", "(II)I"⟩
abbrev cX5_note : ByteArray := prog_7_method_22_code
def yX5_note : MethodName := ⟨RX5, "note", "()V"⟩
abbrev cX5_copy : ByteArray := prog_7_method_23_code
def yX5_copy : MethodName := ⟨RX5, "copy", "([I[I)V"⟩
abbrev cX5_wear : ByteArray := prog_7_method_24_code
def yX5_wear : MethodName := ⟨RX5, "wear", "([IIZ)I"⟩
abbrev cX5_aloneLoss : ByteArray := prog_7_method_25_code
def yX5_aloneLoss : MethodName := ⟨RX5, "aloneLoss", "(II)I"⟩
abbrev cX5_goYear : ByteArray := prog_7_method_26_code
def yX5_goYear : MethodName := ⟨RX5, "goYear", "([II)I"⟩
abbrev cX5_goYears : ByteArray := prog_7_method_27_code
def yX5_goYears : MethodName := ⟨RX5, "goYears", "([II)V"⟩
abbrev cX5_year : ByteArray := prog_7_method_28_code
def yX5_year : MethodName := ⟨RX5, "year", "()I"⟩
abbrev cX5_canSing : ByteArray := prog_7_method_29_code
def yX5_canSing : MethodName := ⟨RX5, "canSing", "([III)Z"⟩
abbrev cX5_goSing : ByteArray := prog_7_method_30_code
def yX5_goSing : MethodName := ⟨RX5, "goSing", "([IIIII)V"⟩
abbrev cX5_sing : ByteArray := prog_7_method_31_code
def yX5_sing : MethodName := ⟨RX5, "sing", "(IIII)I"⟩
abbrev cX5_lid : ByteArray := prog_7_method_32_code
def yX5_lid : MethodName := ⟨RX5, "lid", "(I)I"⟩
abbrev cX5_undo : ByteArray := prog_7_method_33_code
def yX5_undo : MethodName := ⟨RX5, "undo", "()I"⟩
abbrev cX5_hears : ByteArray := prog_7_method_34_code
def yX5_hears : MethodName := ⟨RX5, "hears", "(IIZ)I"⟩
abbrev cX5_heard : ByteArray := prog_7_method_35_code
def yX5_heard : MethodName := ⟨RX5, "heard", "(IIZ)I"⟩
abbrev cX5_songLasts : ByteArray := prog_7_method_36_code
def yX5_songLasts : MethodName := ⟨RX5, "songLasts", "(I)I"⟩
abbrev cX5_noLaw : ByteArray := prog_7_method_37_code
def yX5_noLaw : MethodName := ⟨RX5, "noLaw", "(I)Z"⟩
abbrev cX5_lawLasts : ByteArray := prog_7_method_38_code
def yX5_lawLasts : MethodName := ⟨RX5, "lawLasts", "(I)I"⟩
abbrev cX5_lost : ByteArray := prog_7_method_39_code
def yX5_lost : MethodName := ⟨RX5, "lost", "(I)I"⟩
abbrev cX5_doPlan : ByteArray := prog_7_method_40_code
def yX5_doPlan : MethodName := ⟨RX5, "doPlan", "([II)Z"⟩
abbrev cX5_plan : ByteArray := prog_7_method_41_code
def yX5_plan : MethodName := ⟨RX5, "plan", "(II)I"⟩
abbrev cX5_hadBy : ByteArray := prog_7_method_42_code
def yX5_hadBy : MethodName := ⟨RX5, "hadBy", "(II)I"⟩
abbrev cX5_bestLid : ByteArray := prog_7_method_43_code
def yX5_bestLid : MethodName := ⟨RX5, "bestLid", "(I)I"⟩
abbrev cX5_lamps : ByteArray := prog_7_method_44_code
def yX5_lamps : MethodName := ⟨RX5, "lamps", "()I"⟩
abbrev cX5_mostPitch : ByteArray := prog_7_method_45_code
def yX5_mostPitch : MethodName := ⟨RX5, "mostPitch", "(I)I"⟩
abbrev cX5_truest : ByteArray := prog_7_method_46_code
def yX5_truest : MethodName := ⟨RX5, "truest", "(I)I"⟩
abbrev cX5_back : ByteArray := prog_7_method_47_code
def yX5_back : MethodName := ⟨RX5, "back", "(III)I"⟩
abbrev cX5_lords : ByteArray := prog_7_method_48_code
def yX5_lords : MethodName := ⟨RX5, "lords", "(II)I"⟩
abbrev cX5_flood : ByteArray := prog_7_method_49_code
def yX5_flood : MethodName := ⟨RX5, "flood", "([II)V"⟩
abbrev cX5_divisor : ByteArray := prog_7_method_50_code
def yX5_divisor : MethodName := ⟨RX5, "divisor", "(II)I"⟩
abbrev cX5_rain : ByteArray := prog_7_method_51_code
def yX5_rain : MethodName := ⟨RX5, "rain", "(IIZ)I"⟩
abbrev cX5_seed : ByteArray := prog_7_method_52_code
def yX5_seed : MethodName := ⟨RX5, "seed", "(J)J"⟩
abbrev cX5_rains : ByteArray := prog_7_method_53_code
def yX5_rains : MethodName := ⟨RX5, "rains", "(II)I"⟩
abbrev cX5_keep : ByteArray := prog_7_method_54_code
def yX5_keep : MethodName := ⟨RX5, "keep", "(I)I"⟩
abbrev cX5_again : ByteArray := prog_7_method_55_code
def yX5_again : MethodName := ⟨RX5, "again", "(I)I"⟩
def RJ6 : String := "java/lang/Integer"
def TJ6 : u_T := fun k => match k with
  | _ => ("", "", "", false)
def tyJ6 : Nat → FieldType := fun k => match k with
  | _ => .int
abbrev wsJ60 : List Cond := u_ws RJ6 TJ6 0
theorem nmJ6 : ∀ a, a < 0 → ∀ b, b < 0 → a ≠ b → (TJ6 a).2.1 ≠ (TJ6 b).2.1 := by decide +kernel
theorem tyJ6_ok : ∀ k, k < 0 → parseFieldDescriptor (TJ6 k).2.2.1 = some (tyJ6 k) := by decide +kernel
abbrev cJ6_bitCount_0f7a4 : ByteArray := prog_8_method_49_code
def yJ6_bitCount_0f7a4 : MethodName := ⟨RJ6, "bitCount", "(I)I"⟩
def RJ9 : String := "java/lang/Math"
def TJ9 : u_T := fun k => match k with
  | _ => ("", "", "", false)
def tyJ9 : Nat → FieldType := fun k => match k with
  | _ => .int
abbrev wsJ90 : List Cond := u_ws RJ9 TJ9 0
theorem nmJ9 : ∀ a, a < 0 → ∀ b, b < 0 → a ≠ b → (TJ9 a).2.1 ≠ (TJ9 b).2.1 := by decide +kernel
theorem tyJ9_ok : ∀ k, k < 0 → parseFieldDescriptor (TJ9 k).2.2.1 = some (tyJ9 k) := by decide +kernel
abbrev cJ9_abs_0f7a4 : ByteArray := prog_9_method_59_code
def yJ9_abs_0f7a4 : MethodName := ⟨RJ9, "abs", "(I)I"⟩
abbrev cJ9_max_7cf53 : ByteArray := prog_9_method_65_code
def yJ9_max_7cf53 : MethodName := ⟨RJ9, "max", "(II)I"⟩
abbrev cJ9_min_7cf53 : ByteArray := prog_9_method_69_code
def yJ9_min_7cf53 : MethodName := ⟨RJ9, "min", "(II)I"⟩
def RL : String := "WellEchoesLaw"
abbrev cL_law : ByteArray := code
def yL_law : MethodName := ⟨RL, "law", "([I)Z"⟩
end
section
theorem dX0_init_0 : decode cX0_init 0 = .ok (.aload_n 0, 1) := by decide +kernel
theorem dX0_init_1 : decode cX0_init 1 = .ok (.invokespecial 3, 3) := by decide +kernel
theorem dX0_init_4 : decode cX0_init 4 = .ok (.aload_n 0, 1) := by decide +kernel
theorem dX0_init_5 : decode cX0_init 5 = .ok (.bipush 12, 2) := by decide +kernel
theorem dX0_init_7 : decode cX0_init 7 = .ok (.anewarray 9, 3) := by decide +kernel
theorem dX0_init_10 : decode cX0_init 10 = .ok (.putfield 11, 3) := by decide +kernel
theorem dX0_init_13 : decode cX0_init 13 = .ok (.iconst 0, 1) := by decide +kernel
theorem dX0_init_14 : decode cX0_init 14 = .ok (.istore_n 1, 1) := by decide +kernel
theorem dX0_init_15 : decode cX0_init 15 = .ok (.iload_n 1, 1) := by decide +kernel
theorem dX0_init_16 : decode cX0_init 16 = .ok (.aload_n 0, 1) := by decide +kernel
theorem dX0_init_17 : decode cX0_init 17 = .ok (.getfield 11, 3) := by decide +kernel
theorem dX0_init_20 : decode cX0_init 20 = .ok (.arraylength, 1) := by decide +kernel
theorem dX0_init_21 : decode cX0_init 21 = .ok (.if_icmp .ge 22, 3) := by decide +kernel
theorem dX0_init_24 : decode cX0_init 24 = .ok (.aload_n 0, 1) := by decide +kernel
theorem dX0_init_25 : decode cX0_init 25 = .ok (.getfield 11, 3) := by decide +kernel
theorem dX0_init_28 : decode cX0_init 28 = .ok (.iload_n 1, 1) := by decide +kernel
theorem dX0_init_29 : decode cX0_init 29 = .ok (.new 9, 3) := by decide +kernel
theorem dX0_init_32 : decode cX0_init 32 = .ok (.dup, 1) := by decide +kernel
theorem dX0_init_33 : decode cX0_init 33 = .ok (.invokespecial 17, 3) := by decide +kernel
theorem dX0_init_36 : decode cX0_init 36 = .ok (.aastore, 1) := by decide +kernel
theorem dX0_init_37 : decode cX0_init 37 = .ok (.iinc 1 1, 3) := by decide +kernel
theorem dX0_init_40 : decode cX0_init 40 = .ok (.goto (-25), 3) := by decide +kernel
theorem dX0_init_43 : decode cX0_init 43 = .ok (.return_, 1) := by decide +kernel
theorem dX0_remember_0 : decode cX0_remember 0 = .ok (.aload_n 0, 1) := by decide +kernel
theorem dX0_remember_1 : decode cX0_remember 1 = .ok (.getfield 18, 3) := by decide +kernel
theorem dX0_remember_4 : decode cX0_remember 4 = .ok (.aload_n 0, 1) := by decide +kernel
theorem dX0_remember_5 : decode cX0_remember 5 = .ok (.getfield 11, 3) := by decide +kernel
theorem dX0_remember_8 : decode cX0_remember 8 = .ok (.arraylength, 1) := by decide +kernel
theorem dX0_remember_9 : decode cX0_remember 9 = .ok (.if_icmp .lt 7, 3) := by decide +kernel
theorem dX0_remember_12 : decode cX0_remember 12 = .ok (.aload_n 0, 1) := by decide +kernel
theorem dX0_remember_13 : decode cX0_remember 13 = .ok (.invokevirtual 22, 3) := by decide +kernel
theorem dX0_remember_16 : decode cX0_remember 16 = .ok (.aload_n 0, 1) := by decide +kernel
theorem dX0_remember_17 : decode cX0_remember 17 = .ok (.getfield 18, 3) := by decide +kernel
theorem dX0_remember_20 : decode cX0_remember 20 = .ok (.ifCond .lt 44, 3) := by decide +kernel
theorem dX0_remember_23 : decode cX0_remember 23 = .ok (.aload_n 0, 1) := by decide +kernel
theorem dX0_remember_24 : decode cX0_remember 24 = .ok (.getfield 18, 3) := by decide +kernel
theorem dX0_remember_27 : decode cX0_remember 27 = .ok (.aload_n 0, 1) := by decide +kernel
theorem dX0_remember_28 : decode cX0_remember 28 = .ok (.getfield 11, 3) := by decide +kernel
theorem dX0_remember_31 : decode cX0_remember 31 = .ok (.arraylength, 1) := by decide +kernel
theorem dX0_remember_32 : decode cX0_remember 32 = .ok (.if_icmp .ge 32, 3) := by decide +kernel
theorem dX0_remember_35 : decode cX0_remember 35 = .ok (.aload_n 0, 1) := by decide +kernel
theorem dX0_remember_36 : decode cX0_remember 36 = .ok (.getfield 11, 3) := by decide +kernel
theorem dX0_remember_39 : decode cX0_remember 39 = .ok (.aload_n 0, 1) := by decide +kernel
theorem dX0_remember_40 : decode cX0_remember 40 = .ok (.getfield 18, 3) := by decide +kernel
theorem dX0_remember_43 : decode cX0_remember 43 = .ok (.aaload, 1) := by decide +kernel
theorem dX0_remember_44 : decode cX0_remember 44 = .ok (.astore_n 2, 1) := by decide +kernel
theorem dX0_remember_45 : decode cX0_remember 45 = .ok (.aload_n 2, 1) := by decide +kernel
theorem dX0_remember_46 : decode cX0_remember 46 = .ok (.ifnull 18, 3) := by decide +kernel
theorem dX0_remember_49 : decode cX0_remember 49 = .ok (.aload_n 2, 1) := by decide +kernel
theorem dX0_remember_50 : decode cX0_remember 50 = .ok (.aload_n 1, 1) := by decide +kernel
theorem dX0_remember_51 : decode cX0_remember 51 = .ok (.invokevirtual 25, 3) := by decide +kernel
theorem dX0_remember_54 : decode cX0_remember 54 = .ok (.aload_n 0, 1) := by decide +kernel
theorem dX0_remember_55 : decode cX0_remember 55 = .ok (.dup, 1) := by decide +kernel
theorem dX0_remember_56 : decode cX0_remember 56 = .ok (.getfield 18, 3) := by decide +kernel
theorem dX0_remember_59 : decode cX0_remember 59 = .ok (.iconst 1, 1) := by decide +kernel
theorem dX0_remember_60 : decode cX0_remember 60 = .ok (.iadd, 1) := by decide +kernel
theorem dX0_remember_61 : decode cX0_remember 61 = .ok (.putfield 18, 3) := by decide +kernel
theorem dX0_remember_64 : decode cX0_remember 64 = .ok (.return_, 1) := by decide +kernel
theorem dX0_forgetFirst_0 : decode cX0_forgetFirst 0 = .ok (.aload_n 0, 1) := by decide +kernel
theorem dX0_forgetFirst_1 : decode cX0_forgetFirst 1 = .ok (.getfield 11, 3) := by decide +kernel
theorem dX0_forgetFirst_4 : decode cX0_forgetFirst 4 = .ok (.arraylength, 1) := by decide +kernel
theorem dX0_forgetFirst_5 : decode cX0_forgetFirst 5 = .ok (.ifCond .ne 4, 3) := by decide +kernel
theorem dX0_forgetFirst_8 : decode cX0_forgetFirst 8 = .ok (.return_, 1) := by decide +kernel
theorem dX0_forgetFirst_9 : decode cX0_forgetFirst 9 = .ok (.aload_n 0, 1) := by decide +kernel
theorem dX0_forgetFirst_10 : decode cX0_forgetFirst 10 = .ok (.getfield 11, 3) := by decide +kernel
theorem dX0_forgetFirst_13 : decode cX0_forgetFirst 13 = .ok (.iconst 0, 1) := by decide +kernel
theorem dX0_forgetFirst_14 : decode cX0_forgetFirst 14 = .ok (.aaload, 1) := by decide +kernel
theorem dX0_forgetFirst_15 : decode cX0_forgetFirst 15 = .ok (.astore_n 1, 1) := by decide +kernel
theorem dX0_forgetFirst_16 : decode cX0_forgetFirst 16 = .ok (.iconst 1, 1) := by decide +kernel
theorem dX0_forgetFirst_17 : decode cX0_forgetFirst 17 = .ok (.istore_n 2, 1) := by decide +kernel
theorem dX0_forgetFirst_18 : decode cX0_forgetFirst 18 = .ok (.iload_n 2, 1) := by decide +kernel
theorem dX0_forgetFirst_19 : decode cX0_forgetFirst 19 = .ok (.aload_n 0, 1) := by decide +kernel
theorem dX0_forgetFirst_20 : decode cX0_forgetFirst 20 = .ok (.getfield 11, 3) := by decide +kernel
theorem dX0_forgetFirst_23 : decode cX0_forgetFirst 23 = .ok (.arraylength, 1) := by decide +kernel
theorem dX0_forgetFirst_24 : decode cX0_forgetFirst 24 = .ok (.if_icmp .ge 23, 3) := by decide +kernel
theorem dX0_forgetFirst_27 : decode cX0_forgetFirst 27 = .ok (.aload_n 0, 1) := by decide +kernel
theorem dX0_forgetFirst_28 : decode cX0_forgetFirst 28 = .ok (.getfield 11, 3) := by decide +kernel
theorem dX0_forgetFirst_31 : decode cX0_forgetFirst 31 = .ok (.iload_n 2, 1) := by decide +kernel
theorem dX0_forgetFirst_32 : decode cX0_forgetFirst 32 = .ok (.iconst 1, 1) := by decide +kernel
theorem dX0_forgetFirst_33 : decode cX0_forgetFirst 33 = .ok (.isub, 1) := by decide +kernel
theorem dX0_forgetFirst_34 : decode cX0_forgetFirst 34 = .ok (.aload_n 0, 1) := by decide +kernel
theorem dX0_forgetFirst_35 : decode cX0_forgetFirst 35 = .ok (.getfield 11, 3) := by decide +kernel
theorem dX0_forgetFirst_38 : decode cX0_forgetFirst 38 = .ok (.iload_n 2, 1) := by decide +kernel
theorem dX0_forgetFirst_39 : decode cX0_forgetFirst 39 = .ok (.aaload, 1) := by decide +kernel
theorem dX0_forgetFirst_40 : decode cX0_forgetFirst 40 = .ok (.aastore, 1) := by decide +kernel
theorem dX0_forgetFirst_41 : decode cX0_forgetFirst 41 = .ok (.iinc 2 1, 3) := by decide +kernel
theorem dX0_forgetFirst_44 : decode cX0_forgetFirst 44 = .ok (.goto (-26), 3) := by decide +kernel
theorem dX0_forgetFirst_47 : decode cX0_forgetFirst 47 = .ok (.aload_n 0, 1) := by decide +kernel
theorem dX0_forgetFirst_48 : decode cX0_forgetFirst 48 = .ok (.getfield 11, 3) := by decide +kernel
theorem dX0_forgetFirst_51 : decode cX0_forgetFirst 51 = .ok (.aload_n 0, 1) := by decide +kernel
theorem dX0_forgetFirst_52 : decode cX0_forgetFirst 52 = .ok (.getfield 11, 3) := by decide +kernel
theorem dX0_forgetFirst_55 : decode cX0_forgetFirst 55 = .ok (.arraylength, 1) := by decide +kernel
theorem dX0_forgetFirst_56 : decode cX0_forgetFirst 56 = .ok (.iconst 1, 1) := by decide +kernel
theorem dX0_forgetFirst_57 : decode cX0_forgetFirst 57 = .ok (.isub, 1) := by decide +kernel
theorem dX0_forgetFirst_58 : decode cX0_forgetFirst 58 = .ok (.aload_n 1, 1) := by decide +kernel
theorem dX0_forgetFirst_59 : decode cX0_forgetFirst 59 = .ok (.aastore, 1) := by decide +kernel
theorem dX0_forgetFirst_60 : decode cX0_forgetFirst 60 = .ok (.aload_n 0, 1) := by decide +kernel
theorem dX0_forgetFirst_61 : decode cX0_forgetFirst 61 = .ok (.aload_n 0, 1) := by decide +kernel
theorem dX0_forgetFirst_62 : decode cX0_forgetFirst 62 = .ok (.getfield 11, 3) := by decide +kernel
theorem dX0_forgetFirst_65 : decode cX0_forgetFirst 65 = .ok (.arraylength, 1) := by decide +kernel
theorem dX0_forgetFirst_66 : decode cX0_forgetFirst 66 = .ok (.iconst 1, 1) := by decide +kernel
theorem dX0_forgetFirst_67 : decode cX0_forgetFirst 67 = .ok (.isub, 1) := by decide +kernel
theorem dX0_forgetFirst_68 : decode cX0_forgetFirst 68 = .ok (.putfield 18, 3) := by decide +kernel
theorem dX0_forgetFirst_71 : decode cX0_forgetFirst 71 = .ok (.return_, 1) := by decide +kernel
theorem dX0_takeBack_0 : decode cX0_takeBack 0 = .ok (.aload_n 0, 1) := by decide +kernel
theorem dX0_takeBack_1 : decode cX0_takeBack 1 = .ok (.getfield 18, 3) := by decide +kernel
theorem dX0_takeBack_4 : decode cX0_takeBack 4 = .ok (.iconst 1, 1) := by decide +kernel
theorem dX0_takeBack_5 : decode cX0_takeBack 5 = .ok (.isub, 1) := by decide +kernel
theorem dX0_takeBack_6 : decode cX0_takeBack 6 = .ok (.istore_n 2, 1) := by decide +kernel
theorem dX0_takeBack_7 : decode cX0_takeBack 7 = .ok (.iload_n 2, 1) := by decide +kernel
theorem dX0_takeBack_8 : decode cX0_takeBack 8 = .ok (.ifCond .lt 12, 3) := by decide +kernel
theorem dX0_takeBack_11 : decode cX0_takeBack 11 = .ok (.iload_n 2, 1) := by decide +kernel
theorem dX0_takeBack_12 : decode cX0_takeBack 12 = .ok (.aload_n 0, 1) := by decide +kernel
theorem dX0_takeBack_13 : decode cX0_takeBack 13 = .ok (.getfield 11, 3) := by decide +kernel
theorem dX0_takeBack_16 : decode cX0_takeBack 16 = .ok (.arraylength, 1) := by decide +kernel
theorem dX0_takeBack_17 : decode cX0_takeBack 17 = .ok (.if_icmp .lt 5, 3) := by decide +kernel
theorem dX0_takeBack_20 : decode cX0_takeBack 20 = .ok (.iconst 0, 1) := by decide +kernel
theorem dX0_takeBack_21 : decode cX0_takeBack 21 = .ok (.ireturn, 1) := by decide +kernel
theorem dX0_takeBack_22 : decode cX0_takeBack 22 = .ok (.aload_n 0, 1) := by decide +kernel
theorem dX0_takeBack_23 : decode cX0_takeBack 23 = .ok (.getfield 11, 3) := by decide +kernel
theorem dX0_takeBack_26 : decode cX0_takeBack 26 = .ok (.iload_n 2, 1) := by decide +kernel
theorem dX0_takeBack_27 : decode cX0_takeBack 27 = .ok (.aaload, 1) := by decide +kernel
theorem dX0_takeBack_28 : decode cX0_takeBack 28 = .ok (.astore_n 3, 1) := by decide +kernel
theorem dX0_takeBack_29 : decode cX0_takeBack 29 = .ok (.aload_n 3, 1) := by decide +kernel
theorem dX0_takeBack_30 : decode cX0_takeBack 30 = .ok (.ifnonnull 5, 3) := by decide +kernel
theorem dX0_takeBack_33 : decode cX0_takeBack 33 = .ok (.iconst 0, 1) := by decide +kernel
theorem dX0_takeBack_34 : decode cX0_takeBack 34 = .ok (.ireturn, 1) := by decide +kernel
theorem dX0_takeBack_35 : decode cX0_takeBack 35 = .ok (.aload_n 1, 1) := by decide +kernel
theorem dX0_takeBack_36 : decode cX0_takeBack 36 = .ok (.aload_n 3, 1) := by decide +kernel
theorem dX0_takeBack_37 : decode cX0_takeBack 37 = .ok (.invokevirtual 25, 3) := by decide +kernel
theorem dX0_takeBack_40 : decode cX0_takeBack 40 = .ok (.aload_n 0, 1) := by decide +kernel
theorem dX0_takeBack_41 : decode cX0_takeBack 41 = .ok (.iload_n 2, 1) := by decide +kernel
theorem dX0_takeBack_42 : decode cX0_takeBack 42 = .ok (.putfield 18, 3) := by decide +kernel
theorem dX0_takeBack_45 : decode cX0_takeBack 45 = .ok (.iconst 1, 1) := by decide +kernel
theorem dX0_takeBack_46 : decode cX0_takeBack 46 = .ok (.ireturn, 1) := by decide +kernel
theorem dX1_init_0 : decode cX1_init 0 = .ok (.aload_n 0, 1) := by decide +kernel
theorem dX1_init_1 : decode cX1_init 1 = .ok (.invokespecial 3, 3) := by decide +kernel
theorem dX1_init_4 : decode cX1_init 4 = .ok (.aload_n 0, 1) := by decide +kernel
theorem dX1_init_5 : decode cX1_init 5 = .ok (.bipush 48, 2) := by decide +kernel
theorem dX1_init_7 : decode cX1_init 7 = .ok (.newarray .int, 2) := by decide +kernel
theorem dX1_init_9 : decode cX1_init 9 = .ok (.putfield 9, 3) := by decide +kernel
theorem dX1_init_12 : decode cX1_init 12 = .ok (.return_, 1) := by decide +kernel
theorem dX1_clear_0 : decode cX1_clear 0 = .ok (.aload_n 0, 1) := by decide +kernel
theorem dX1_clear_1 : decode cX1_clear 1 = .ok (.iconst 0, 1) := by decide +kernel
theorem dX1_clear_2 : decode cX1_clear 2 = .ok (.putfield 15, 3) := by decide +kernel
theorem dX1_clear_5 : decode cX1_clear 5 = .ok (.aload_n 0, 1) := by decide +kernel
theorem dX1_clear_6 : decode cX1_clear 6 = .ok (.iconst 0, 1) := by decide +kernel
theorem dX1_clear_7 : decode cX1_clear 7 = .ok (.putfield 19, 3) := by decide +kernel
theorem dX1_clear_10 : decode cX1_clear 10 = .ok (.aload_n 0, 1) := by decide +kernel
theorem dX1_clear_11 : decode cX1_clear 11 = .ok (.iconst 0, 1) := by decide +kernel
theorem dX1_clear_12 : decode cX1_clear 12 = .ok (.putfield 22, 3) := by decide +kernel
theorem dX1_clear_15 : decode cX1_clear 15 = .ok (.aload_n 0, 1) := by decide +kernel
theorem dX1_clear_16 : decode cX1_clear 16 = .ok (.iconst 0, 1) := by decide +kernel
theorem dX1_clear_17 : decode cX1_clear 17 = .ok (.putfield 25, 3) := by decide +kernel
theorem dX1_clear_20 : decode cX1_clear 20 = .ok (.return_, 1) := by decide +kernel
theorem dX1_take_0 : decode cX1_take 0 = .ok (.aload_n 1, 1) := by decide +kernel
theorem dX1_take_1 : decode cX1_take 1 = .ok (.getfield 15, 3) := by decide +kernel
theorem dX1_take_4 : decode cX1_take 4 = .ok (.bipush 6, 2) := by decide +kernel
theorem dX1_take_6 : decode cX1_take 6 = .ok (.imul, 1) := by decide +kernel
theorem dX1_take_7 : decode cX1_take 7 = .ok (.aload_n 0, 1) := by decide +kernel
theorem dX1_take_8 : decode cX1_take 8 = .ok (.getfield 9, 3) := by decide +kernel
theorem dX1_take_11 : decode cX1_take 11 = .ok (.arraylength, 1) := by decide +kernel
theorem dX1_take_12 : decode cX1_take 12 = .ok (.aload_n 1, 1) := by decide +kernel
theorem dX1_take_13 : decode cX1_take 13 = .ok (.getfield 9, 3) := by decide +kernel
theorem dX1_take_16 : decode cX1_take 16 = .ok (.arraylength, 1) := by decide +kernel
theorem dX1_take_17 : decode cX1_take 17 = .ok (.invokestatic 28, 3) := by decide +kernel
theorem dX1_take_20 : decode cX1_take 20 = .ok (.invokestatic 28, 3) := by decide +kernel
theorem dX1_take_23 : decode cX1_take 23 = .ok (.istore_n 2, 1) := by decide +kernel
theorem dX1_take_24 : decode cX1_take 24 = .ok (.iconst 0, 1) := by decide +kernel
theorem dX1_take_25 : decode cX1_take 25 = .ok (.istore_n 3, 1) := by decide +kernel
theorem dX1_take_26 : decode cX1_take 26 = .ok (.iload_n 3, 1) := by decide +kernel
theorem dX1_take_27 : decode cX1_take 27 = .ok (.iload_n 2, 1) := by decide +kernel
theorem dX1_take_28 : decode cX1_take 28 = .ok (.if_icmp .ge 21, 3) := by decide +kernel
theorem dX1_take_31 : decode cX1_take 31 = .ok (.aload_n 0, 1) := by decide +kernel
theorem dX1_take_32 : decode cX1_take 32 = .ok (.getfield 9, 3) := by decide +kernel
theorem dX1_take_35 : decode cX1_take 35 = .ok (.iload_n 3, 1) := by decide +kernel
theorem dX1_take_36 : decode cX1_take 36 = .ok (.aload_n 1, 1) := by decide +kernel
theorem dX1_take_37 : decode cX1_take 37 = .ok (.getfield 9, 3) := by decide +kernel
theorem dX1_take_40 : decode cX1_take 40 = .ok (.iload_n 3, 1) := by decide +kernel
theorem dX1_take_41 : decode cX1_take 41 = .ok (.iaload, 1) := by decide +kernel
theorem dX1_take_42 : decode cX1_take 42 = .ok (.iastore, 1) := by decide +kernel
theorem dX1_take_43 : decode cX1_take 43 = .ok (.iinc 3 1, 3) := by decide +kernel
theorem dX1_take_46 : decode cX1_take 46 = .ok (.goto (-20), 3) := by decide +kernel
theorem dX1_take_49 : decode cX1_take 49 = .ok (.aload_n 0, 1) := by decide +kernel
theorem dX1_take_50 : decode cX1_take 50 = .ok (.aload_n 1, 1) := by decide +kernel
theorem dX1_take_51 : decode cX1_take 51 = .ok (.getfield 15, 3) := by decide +kernel
theorem dX1_take_54 : decode cX1_take 54 = .ok (.putfield 15, 3) := by decide +kernel
theorem dX1_take_57 : decode cX1_take 57 = .ok (.aload_n 0, 1) := by decide +kernel
theorem dX1_take_58 : decode cX1_take 58 = .ok (.aload_n 1, 1) := by decide +kernel
theorem dX1_take_59 : decode cX1_take 59 = .ok (.getfield 19, 3) := by decide +kernel
theorem dX1_take_62 : decode cX1_take 62 = .ok (.putfield 19, 3) := by decide +kernel
theorem dX1_take_65 : decode cX1_take 65 = .ok (.aload_n 0, 1) := by decide +kernel
theorem dX1_take_66 : decode cX1_take 66 = .ok (.aload_n 1, 1) := by decide +kernel
theorem dX1_take_67 : decode cX1_take 67 = .ok (.getfield 22, 3) := by decide +kernel
theorem dX1_take_70 : decode cX1_take 70 = .ok (.putfield 22, 3) := by decide +kernel
theorem dX1_take_73 : decode cX1_take 73 = .ok (.aload_n 0, 1) := by decide +kernel
theorem dX1_take_74 : decode cX1_take 74 = .ok (.aload_n 1, 1) := by decide +kernel
theorem dX1_take_75 : decode cX1_take 75 = .ok (.getfield 25, 3) := by decide +kernel
theorem dX1_take_78 : decode cX1_take 78 = .ok (.putfield 25, 3) := by decide +kernel
theorem dX1_take_81 : decode cX1_take 81 = .ok (.return_, 1) := by decide +kernel
theorem dX1_has_0 : decode cX1_has 0 = .ok (.iload_n 1, 1) := by decide +kernel
theorem dX1_has_1 : decode cX1_has 1 = .ok (.ifCond .lt 15, 3) := by decide +kernel
theorem dX1_has_4 : decode cX1_has 4 = .ok (.iload_n 1, 1) := by decide +kernel
theorem dX1_has_5 : decode cX1_has 5 = .ok (.aload_n 0, 1) := by decide +kernel
theorem dX1_has_6 : decode cX1_has 6 = .ok (.getfield 15, 3) := by decide +kernel
theorem dX1_has_9 : decode cX1_has 9 = .ok (.if_icmp .ge 7, 3) := by decide +kernel
theorem dX1_has_12 : decode cX1_has 12 = .ok (.iconst 1, 1) := by decide +kernel
theorem dX1_has_13 : decode cX1_has 13 = .ok (.goto 4, 3) := by decide +kernel
theorem dX1_has_16 : decode cX1_has 16 = .ok (.iconst 0, 1) := by decide +kernel
theorem dX1_has_17 : decode cX1_has 17 = .ok (.ireturn, 1) := by decide +kernel
theorem dX1_get_0 : decode cX1_get 0 = .ok (.iload_n 1, 1) := by decide +kernel
theorem dX1_get_1 : decode cX1_get 1 = .ok (.bipush 6, 2) := by decide +kernel
theorem dX1_get_3 : decode cX1_get 3 = .ok (.imul, 1) := by decide +kernel
theorem dX1_get_4 : decode cX1_get 4 = .ok (.iload_n 2, 1) := by decide +kernel
theorem dX1_get_5 : decode cX1_get 5 = .ok (.iadd, 1) := by decide +kernel
theorem dX1_get_6 : decode cX1_get 6 = .ok (.istore_n 3, 1) := by decide +kernel
theorem dX1_get_7 : decode cX1_get 7 = .ok (.iload_n 3, 1) := by decide +kernel
theorem dX1_get_8 : decode cX1_get 8 = .ok (.ifCond .lt 21, 3) := by decide +kernel
theorem dX1_get_11 : decode cX1_get 11 = .ok (.iload_n 3, 1) := by decide +kernel
theorem dX1_get_12 : decode cX1_get 12 = .ok (.aload_n 0, 1) := by decide +kernel
theorem dX1_get_13 : decode cX1_get 13 = .ok (.getfield 9, 3) := by decide +kernel
theorem dX1_get_16 : decode cX1_get 16 = .ok (.arraylength, 1) := by decide +kernel
theorem dX1_get_17 : decode cX1_get 17 = .ok (.if_icmp .ge 12, 3) := by decide +kernel
theorem dX1_get_20 : decode cX1_get 20 = .ok (.aload_n 0, 1) := by decide +kernel
theorem dX1_get_21 : decode cX1_get 21 = .ok (.getfield 9, 3) := by decide +kernel
theorem dX1_get_24 : decode cX1_get 24 = .ok (.iload_n 3, 1) := by decide +kernel
theorem dX1_get_25 : decode cX1_get 25 = .ok (.iaload, 1) := by decide +kernel
theorem dX1_get_26 : decode cX1_get 26 = .ok (.goto 4, 3) := by decide +kernel
theorem dX1_get_29 : decode cX1_get 29 = .ok (.iconst 0, 1) := by decide +kernel
theorem dX1_get_30 : decode cX1_get 30 = .ok (.ireturn, 1) := by decide +kernel
theorem dX1_set_0 : decode cX1_set 0 = .ok (.iload_n 1, 1) := by decide +kernel
theorem dX1_set_1 : decode cX1_set 1 = .ok (.bipush 6, 2) := by decide +kernel
theorem dX1_set_3 : decode cX1_set 3 = .ok (.imul, 1) := by decide +kernel
theorem dX1_set_4 : decode cX1_set 4 = .ok (.iload_n 2, 1) := by decide +kernel
theorem dX1_set_5 : decode cX1_set 5 = .ok (.iadd, 1) := by decide +kernel
theorem dX1_set_6 : decode cX1_set 6 = .ok (.istore 4, 2) := by decide +kernel
theorem dX1_set_8 : decode cX1_set 8 = .ok (.iload 4, 2) := by decide +kernel
theorem dX1_set_10 : decode cX1_set 10 = .ok (.ifCond .lt 21, 3) := by decide +kernel
theorem dX1_set_13 : decode cX1_set 13 = .ok (.iload 4, 2) := by decide +kernel
theorem dX1_set_15 : decode cX1_set 15 = .ok (.aload_n 0, 1) := by decide +kernel
theorem dX1_set_16 : decode cX1_set 16 = .ok (.getfield 9, 3) := by decide +kernel
theorem dX1_set_19 : decode cX1_set 19 = .ok (.arraylength, 1) := by decide +kernel
theorem dX1_set_20 : decode cX1_set 20 = .ok (.if_icmp .ge 11, 3) := by decide +kernel
theorem dX1_set_23 : decode cX1_set 23 = .ok (.aload_n 0, 1) := by decide +kernel
theorem dX1_set_24 : decode cX1_set 24 = .ok (.getfield 9, 3) := by decide +kernel
theorem dX1_set_27 : decode cX1_set 27 = .ok (.iload 4, 2) := by decide +kernel
theorem dX1_set_29 : decode cX1_set 29 = .ok (.iload_n 3, 1) := by decide +kernel
theorem dX1_set_30 : decode cX1_set 30 = .ok (.iastore, 1) := by decide +kernel
theorem dX1_set_31 : decode cX1_set 31 = .ok (.return_, 1) := by decide +kernel
theorem dX1_add_0 : decode cX1_add 0 = .ok (.aload_n 0, 1) := by decide +kernel
theorem dX1_add_1 : decode cX1_add 1 = .ok (.getfield 15, 3) := by decide +kernel
theorem dX1_add_4 : decode cX1_add 4 = .ok (.istore 6, 2) := by decide +kernel
theorem dX1_add_6 : decode cX1_add 6 = .ok (.iload 6, 2) := by decide +kernel
theorem dX1_add_8 : decode cX1_add 8 = .ok (.bipush 8, 2) := by decide +kernel
theorem dX1_add_10 : decode cX1_add 10 = .ok (.if_icmp .lt 6, 3) := by decide +kernel
theorem dX1_add_13 : decode cX1_add 13 = .ok (.bipush (-4), 2) := by decide +kernel
theorem dX1_add_15 : decode cX1_add 15 = .ok (.ireturn, 1) := by decide +kernel
theorem dX1_add_16 : decode cX1_add 16 = .ok (.aload_n 0, 1) := by decide +kernel
theorem dX1_add_17 : decode cX1_add 17 = .ok (.iload 6, 2) := by decide +kernel
theorem dX1_add_19 : decode cX1_add 19 = .ok (.iconst 0, 1) := by decide +kernel
theorem dX1_add_20 : decode cX1_add 20 = .ok (.iload_n 1, 1) := by decide +kernel
theorem dX1_add_21 : decode cX1_add 21 = .ok (.invokevirtual 34, 3) := by decide +kernel
theorem dX1_add_24 : decode cX1_add 24 = .ok (.aload_n 0, 1) := by decide +kernel
theorem dX1_add_25 : decode cX1_add 25 = .ok (.iload 6, 2) := by decide +kernel
theorem dX1_add_27 : decode cX1_add 27 = .ok (.iconst 1, 1) := by decide +kernel
theorem dX1_add_28 : decode cX1_add 28 = .ok (.iload_n 2, 1) := by decide +kernel
theorem dX1_add_29 : decode cX1_add 29 = .ok (.invokevirtual 34, 3) := by decide +kernel
theorem dX1_add_32 : decode cX1_add 32 = .ok (.aload_n 0, 1) := by decide +kernel
theorem dX1_add_33 : decode cX1_add 33 = .ok (.iload 6, 2) := by decide +kernel
theorem dX1_add_35 : decode cX1_add 35 = .ok (.iconst 2, 1) := by decide +kernel
theorem dX1_add_36 : decode cX1_add 36 = .ok (.iload_n 3, 1) := by decide +kernel
theorem dX1_add_37 : decode cX1_add 37 = .ok (.invokevirtual 34, 3) := by decide +kernel
theorem dX1_add_40 : decode cX1_add 40 = .ok (.aload_n 0, 1) := by decide +kernel
theorem dX1_add_41 : decode cX1_add 41 = .ok (.iload 6, 2) := by decide +kernel
theorem dX1_add_43 : decode cX1_add 43 = .ok (.iconst 3, 1) := by decide +kernel
theorem dX1_add_44 : decode cX1_add 44 = .ok (.iload 4, 2) := by decide +kernel
theorem dX1_add_46 : decode cX1_add 46 = .ok (.invokevirtual 34, 3) := by decide +kernel
theorem dX1_add_49 : decode cX1_add 49 = .ok (.aload_n 0, 1) := by decide +kernel
theorem dX1_add_50 : decode cX1_add 50 = .ok (.iload 6, 2) := by decide +kernel
theorem dX1_add_52 : decode cX1_add 52 = .ok (.iconst 4, 1) := by decide +kernel
theorem dX1_add_53 : decode cX1_add 53 = .ok (.iconst 0, 1) := by decide +kernel
theorem dX1_add_54 : decode cX1_add 54 = .ok (.invokevirtual 34, 3) := by decide +kernel
theorem dX1_add_57 : decode cX1_add 57 = .ok (.aload_n 0, 1) := by decide +kernel
theorem dX1_add_58 : decode cX1_add 58 = .ok (.iload 6, 2) := by decide +kernel
theorem dX1_add_60 : decode cX1_add 60 = .ok (.iconst 5, 1) := by decide +kernel
theorem dX1_add_61 : decode cX1_add 61 = .ok (.iload 5, 2) := by decide +kernel
theorem dX1_add_63 : decode cX1_add 63 = .ok (.invokevirtual 34, 3) := by decide +kernel
theorem dX1_add_66 : decode cX1_add 66 = .ok (.aload_n 0, 1) := by decide +kernel
theorem dX1_add_67 : decode cX1_add 67 = .ok (.dup, 1) := by decide +kernel
theorem dX1_add_68 : decode cX1_add 68 = .ok (.getfield 15, 3) := by decide +kernel
theorem dX1_add_71 : decode cX1_add 71 = .ok (.iconst 1, 1) := by decide +kernel
theorem dX1_add_72 : decode cX1_add 72 = .ok (.iadd, 1) := by decide +kernel
theorem dX1_add_73 : decode cX1_add 73 = .ok (.putfield 15, 3) := by decide +kernel
theorem dX1_add_76 : decode cX1_add 76 = .ok (.iload 6, 2) := by decide +kernel
theorem dX1_add_78 : decode cX1_add 78 = .ok (.ireturn, 1) := by decide +kernel
theorem dX1_hasLid_0 : decode cX1_hasLid 0 = .ok (.aload_n 0, 1) := by decide +kernel
theorem dX1_hasLid_1 : decode cX1_hasLid 1 = .ok (.getfield 19, 3) := by decide +kernel
theorem dX1_hasLid_4 : decode cX1_hasLid 4 = .ok (.iload_n 1, 1) := by decide +kernel
theorem dX1_hasLid_5 : decode cX1_hasLid 5 = .ok (.ishr, 1) := by decide +kernel
theorem dX1_hasLid_6 : decode cX1_hasLid 6 = .ok (.iconst 1, 1) := by decide +kernel
theorem dX1_hasLid_7 : decode cX1_hasLid 7 = .ok (.iand, 1) := by decide +kernel
theorem dX1_hasLid_8 : decode cX1_hasLid 8 = .ok (.iconst 1, 1) := by decide +kernel
theorem dX1_hasLid_9 : decode cX1_hasLid 9 = .ok (.if_icmp .ne 7, 3) := by decide +kernel
theorem dX1_hasLid_12 : decode cX1_hasLid 12 = .ok (.iconst 1, 1) := by decide +kernel
theorem dX1_hasLid_13 : decode cX1_hasLid 13 = .ok (.goto 4, 3) := by decide +kernel
theorem dX1_hasLid_16 : decode cX1_hasLid 16 = .ok (.iconst 0, 1) := by decide +kernel
theorem dX1_hasLid_17 : decode cX1_hasLid 17 = .ok (.ireturn, 1) := by decide +kernel
theorem dX1_songsIn_0 : decode cX1_songsIn 0 = .ok (.iconst 0, 1) := by decide +kernel
theorem dX1_songsIn_1 : decode cX1_songsIn 1 = .ok (.istore_n 2, 1) := by decide +kernel
theorem dX1_songsIn_2 : decode cX1_songsIn 2 = .ok (.iconst 0, 1) := by decide +kernel
theorem dX1_songsIn_3 : decode cX1_songsIn 3 = .ok (.istore_n 3, 1) := by decide +kernel
theorem dX1_songsIn_4 : decode cX1_songsIn 4 = .ok (.iload_n 3, 1) := by decide +kernel
theorem dX1_songsIn_5 : decode cX1_songsIn 5 = .ok (.aload_n 0, 1) := by decide +kernel
theorem dX1_songsIn_6 : decode cX1_songsIn 6 = .ok (.getfield 15, 3) := by decide +kernel
theorem dX1_songsIn_9 : decode cX1_songsIn 9 = .ok (.if_icmp .ge 29, 3) := by decide +kernel
theorem dX1_songsIn_12 : decode cX1_songsIn 12 = .ok (.iload_n 2, 1) := by decide +kernel
theorem dX1_songsIn_13 : decode cX1_songsIn 13 = .ok (.aload_n 0, 1) := by decide +kernel
theorem dX1_songsIn_14 : decode cX1_songsIn 14 = .ok (.iload_n 3, 1) := by decide +kernel
theorem dX1_songsIn_15 : decode cX1_songsIn 15 = .ok (.iconst 1, 1) := by decide +kernel
theorem dX1_songsIn_16 : decode cX1_songsIn 16 = .ok (.invokevirtual 38, 3) := by decide +kernel
theorem dX1_songsIn_19 : decode cX1_songsIn 19 = .ok (.iload_n 1, 1) := by decide +kernel
theorem dX1_songsIn_20 : decode cX1_songsIn 20 = .ok (.if_icmp .ne 9, 3) := by decide +kernel
theorem dX1_songsIn_23 : decode cX1_songsIn 23 = .ok (.iconst 1, 1) := by decide +kernel
theorem dX1_songsIn_24 : decode cX1_songsIn 24 = .ok (.iload_n 3, 1) := by decide +kernel
theorem dX1_songsIn_25 : decode cX1_songsIn 25 = .ok (.ishl, 1) := by decide +kernel
theorem dX1_songsIn_26 : decode cX1_songsIn 26 = .ok (.goto 4, 3) := by decide +kernel
theorem dX1_songsIn_29 : decode cX1_songsIn 29 = .ok (.iconst 0, 1) := by decide +kernel
theorem dX1_songsIn_30 : decode cX1_songsIn 30 = .ok (.ior, 1) := by decide +kernel
theorem dX1_songsIn_31 : decode cX1_songsIn 31 = .ok (.istore_n 2, 1) := by decide +kernel
theorem dX1_songsIn_32 : decode cX1_songsIn 32 = .ok (.iinc 3 1, 3) := by decide +kernel
theorem dX1_songsIn_35 : decode cX1_songsIn 35 = .ok (.goto (-31), 3) := by decide +kernel
theorem dX1_songsIn_38 : decode cX1_songsIn 38 = .ok (.iload_n 2, 1) := by decide +kernel
theorem dX1_songsIn_39 : decode cX1_songsIn 39 = .ok (.ireturn, 1) := by decide +kernel
theorem dX1_lawsHad_0 : decode cX1_lawsHad 0 = .ok (.aload_n 0, 1) := by decide +kernel
theorem dX1_lawsHad_1 : decode cX1_lawsHad 1 = .ok (.iconst 1, 1) := by decide +kernel
theorem dX1_lawsHad_2 : decode cX1_lawsHad 2 = .ok (.aload_n 0, 1) := by decide +kernel
theorem dX1_lawsHad_3 : decode cX1_lawsHad 3 = .ok (.getfield 15, 3) := by decide +kernel
theorem dX1_lawsHad_6 : decode cX1_lawsHad 6 = .ok (.ishl, 1) := by decide +kernel
theorem dX1_lawsHad_7 : decode cX1_lawsHad 7 = .ok (.iconst 1, 1) := by decide +kernel
theorem dX1_lawsHad_8 : decode cX1_lawsHad 8 = .ok (.isub, 1) := by decide +kernel
theorem dX1_lawsHad_9 : decode cX1_lawsHad 9 = .ok (.invokevirtual 41, 3) := by decide +kernel
theorem dX1_lawsHad_12 : decode cX1_lawsHad 12 = .ok (.ireturn, 1) := by decide +kernel
theorem dX1_lawsOf_0 : decode cX1_lawsOf 0 = .ok (.iconst 0, 1) := by decide +kernel
theorem dX1_lawsOf_1 : decode cX1_lawsOf 1 = .ok (.istore_n 2, 1) := by decide +kernel
theorem dX1_lawsOf_2 : decode cX1_lawsOf 2 = .ok (.iconst 0, 1) := by decide +kernel
theorem dX1_lawsOf_3 : decode cX1_lawsOf 3 = .ok (.istore_n 3, 1) := by decide +kernel
theorem dX1_lawsOf_4 : decode cX1_lawsOf 4 = .ok (.iload_n 3, 1) := by decide +kernel
theorem dX1_lawsOf_5 : decode cX1_lawsOf 5 = .ok (.aload_n 0, 1) := by decide +kernel
theorem dX1_lawsOf_6 : decode cX1_lawsOf 6 = .ok (.getfield 15, 3) := by decide +kernel
theorem dX1_lawsOf_9 : decode cX1_lawsOf 9 = .ok (.if_icmp .ge 33, 3) := by decide +kernel
theorem dX1_lawsOf_12 : decode cX1_lawsOf 12 = .ok (.iload_n 2, 1) := by decide +kernel
theorem dX1_lawsOf_13 : decode cX1_lawsOf 13 = .ok (.iload_n 1, 1) := by decide +kernel
theorem dX1_lawsOf_14 : decode cX1_lawsOf 14 = .ok (.iload_n 3, 1) := by decide +kernel
theorem dX1_lawsOf_15 : decode cX1_lawsOf 15 = .ok (.ishr, 1) := by decide +kernel
theorem dX1_lawsOf_16 : decode cX1_lawsOf 16 = .ok (.iconst 1, 1) := by decide +kernel
theorem dX1_lawsOf_17 : decode cX1_lawsOf 17 = .ok (.iand, 1) := by decide +kernel
theorem dX1_lawsOf_18 : decode cX1_lawsOf 18 = .ok (.iconst 1, 1) := by decide +kernel
theorem dX1_lawsOf_19 : decode cX1_lawsOf 19 = .ok (.if_icmp .ne 14, 3) := by decide +kernel
theorem dX1_lawsOf_22 : decode cX1_lawsOf 22 = .ok (.iconst 1, 1) := by decide +kernel
theorem dX1_lawsOf_23 : decode cX1_lawsOf 23 = .ok (.aload_n 0, 1) := by decide +kernel
theorem dX1_lawsOf_24 : decode cX1_lawsOf 24 = .ok (.iload_n 3, 1) := by decide +kernel
theorem dX1_lawsOf_25 : decode cX1_lawsOf 25 = .ok (.iconst 0, 1) := by decide +kernel
theorem dX1_lawsOf_26 : decode cX1_lawsOf 26 = .ok (.invokevirtual 38, 3) := by decide +kernel
theorem dX1_lawsOf_29 : decode cX1_lawsOf 29 = .ok (.ishl, 1) := by decide +kernel
theorem dX1_lawsOf_30 : decode cX1_lawsOf 30 = .ok (.goto 4, 3) := by decide +kernel
theorem dX1_lawsOf_33 : decode cX1_lawsOf 33 = .ok (.iconst 0, 1) := by decide +kernel
theorem dX1_lawsOf_34 : decode cX1_lawsOf 34 = .ok (.ior, 1) := by decide +kernel
theorem dX1_lawsOf_35 : decode cX1_lawsOf 35 = .ok (.istore_n 2, 1) := by decide +kernel
theorem dX1_lawsOf_36 : decode cX1_lawsOf 36 = .ok (.iinc 3 1, 3) := by decide +kernel
theorem dX1_lawsOf_39 : decode cX1_lawsOf 39 = .ok (.goto (-35), 3) := by decide +kernel
theorem dX1_lawsOf_42 : decode cX1_lawsOf 42 = .ok (.iload_n 2, 1) := by decide +kernel
theorem dX1_lawsOf_43 : decode cX1_lawsOf 43 = .ok (.ireturn, 1) := by decide +kernel
theorem dX1_copiesOf_0 : decode cX1_copiesOf 0 = .ok (.iconst 0, 1) := by decide +kernel
theorem dX1_copiesOf_1 : decode cX1_copiesOf 1 = .ok (.istore_n 3, 1) := by decide +kernel
theorem dX1_copiesOf_2 : decode cX1_copiesOf 2 = .ok (.iconst 0, 1) := by decide +kernel
theorem dX1_copiesOf_3 : decode cX1_copiesOf 3 = .ok (.istore 4, 2) := by decide +kernel
theorem dX1_copiesOf_5 : decode cX1_copiesOf 5 = .ok (.iload 4, 2) := by decide +kernel
theorem dX1_copiesOf_7 : decode cX1_copiesOf 7 = .ok (.aload_n 0, 1) := by decide +kernel
theorem dX1_copiesOf_8 : decode cX1_copiesOf 8 = .ok (.getfield 15, 3) := by decide +kernel
theorem dX1_copiesOf_11 : decode cX1_copiesOf 11 = .ok (.if_icmp .ge 39, 3) := by decide +kernel
theorem dX1_copiesOf_14 : decode cX1_copiesOf 14 = .ok (.iload_n 3, 1) := by decide +kernel
theorem dX1_copiesOf_15 : decode cX1_copiesOf 15 = .ok (.aload_n 0, 1) := by decide +kernel
theorem dX1_copiesOf_16 : decode cX1_copiesOf 16 = .ok (.iload 4, 2) := by decide +kernel
theorem dX1_copiesOf_18 : decode cX1_copiesOf 18 = .ok (.iconst 0, 1) := by decide +kernel
theorem dX1_copiesOf_19 : decode cX1_copiesOf 19 = .ok (.invokevirtual 38, 3) := by decide +kernel
theorem dX1_copiesOf_22 : decode cX1_copiesOf 22 = .ok (.iload_n 1, 1) := by decide +kernel
theorem dX1_copiesOf_23 : decode cX1_copiesOf 23 = .ok (.if_icmp .ne 18, 3) := by decide +kernel
theorem dX1_copiesOf_26 : decode cX1_copiesOf 26 = .ok (.aload_n 0, 1) := by decide +kernel
theorem dX1_copiesOf_27 : decode cX1_copiesOf 27 = .ok (.iload 4, 2) := by decide +kernel
theorem dX1_copiesOf_29 : decode cX1_copiesOf 29 = .ok (.iconst 3, 1) := by decide +kernel
theorem dX1_copiesOf_30 : decode cX1_copiesOf 30 = .ok (.invokevirtual 38, 3) := by decide +kernel
theorem dX1_copiesOf_33 : decode cX1_copiesOf 33 = .ok (.iload_n 2, 1) := by decide +kernel
theorem dX1_copiesOf_34 : decode cX1_copiesOf 34 = .ok (.if_icmp .ne 7, 3) := by decide +kernel
theorem dX1_copiesOf_37 : decode cX1_copiesOf 37 = .ok (.iconst 1, 1) := by decide +kernel
theorem dX1_copiesOf_38 : decode cX1_copiesOf 38 = .ok (.goto 4, 3) := by decide +kernel
theorem dX1_copiesOf_41 : decode cX1_copiesOf 41 = .ok (.iconst 0, 1) := by decide +kernel
theorem dX1_copiesOf_42 : decode cX1_copiesOf 42 = .ok (.iadd, 1) := by decide +kernel
theorem dX1_copiesOf_43 : decode cX1_copiesOf 43 = .ok (.istore_n 3, 1) := by decide +kernel
theorem dX1_copiesOf_44 : decode cX1_copiesOf 44 = .ok (.iinc 4 1, 3) := by decide +kernel
theorem dX1_copiesOf_47 : decode cX1_copiesOf 47 = .ok (.goto (-42), 3) := by decide +kernel
theorem dX1_copiesOf_50 : decode cX1_copiesOf 50 = .ok (.iload_n 3, 1) := by decide +kernel
theorem dX1_copiesOf_51 : decode cX1_copiesOf 51 = .ok (.ireturn, 1) := by decide +kernel
theorem dX1_hasLawIn_0 : decode cX1_hasLawIn 0 = .ok (.aload_n 0, 1) := by decide +kernel
theorem dX1_hasLawIn_1 : decode cX1_hasLawIn 1 = .ok (.aload_n 0, 1) := by decide +kernel
theorem dX1_hasLawIn_2 : decode cX1_hasLawIn 2 = .ok (.iload_n 2, 1) := by decide +kernel
theorem dX1_hasLawIn_3 : decode cX1_hasLawIn 3 = .ok (.invokevirtual 45, 3) := by decide +kernel
theorem dX1_hasLawIn_6 : decode cX1_hasLawIn 6 = .ok (.invokevirtual 41, 3) := by decide +kernel
theorem dX1_hasLawIn_9 : decode cX1_hasLawIn 9 = .ok (.iload_n 1, 1) := by decide +kernel
theorem dX1_hasLawIn_10 : decode cX1_hasLawIn 10 = .ok (.ishr, 1) := by decide +kernel
theorem dX1_hasLawIn_11 : decode cX1_hasLawIn 11 = .ok (.iconst 1, 1) := by decide +kernel
theorem dX1_hasLawIn_12 : decode cX1_hasLawIn 12 = .ok (.iand, 1) := by decide +kernel
theorem dX1_hasLawIn_13 : decode cX1_hasLawIn 13 = .ok (.iconst 1, 1) := by decide +kernel
theorem dX1_hasLawIn_14 : decode cX1_hasLawIn 14 = .ok (.if_icmp .ne 7, 3) := by decide +kernel
theorem dX1_hasLawIn_17 : decode cX1_hasLawIn 17 = .ok (.iconst 1, 1) := by decide +kernel
theorem dX1_hasLawIn_18 : decode cX1_hasLawIn 18 = .ok (.goto 4, 3) := by decide +kernel
theorem dX1_hasLawIn_21 : decode cX1_hasLawIn 21 = .ok (.iconst 0, 1) := by decide +kernel
theorem dX1_hasLawIn_22 : decode cX1_hasLawIn 22 = .ok (.ireturn, 1) := by decide +kernel
theorem dX1_isSafe_0 : decode cX1_isSafe 0 = .ok (.iconst 0, 1) := by decide +kernel
theorem dX1_isSafe_1 : decode cX1_isSafe 1 = .ok (.istore_n 2, 1) := by decide +kernel
theorem dX1_isSafe_2 : decode cX1_isSafe 2 = .ok (.iload_n 2, 1) := by decide +kernel
theorem dX1_isSafe_3 : decode cX1_isSafe 3 = .ok (.aload_n 0, 1) := by decide +kernel
theorem dX1_isSafe_4 : decode cX1_isSafe 4 = .ok (.getfield 15, 3) := by decide +kernel
theorem dX1_isSafe_7 : decode cX1_isSafe 7 = .ok (.if_icmp .ge 54, 3) := by decide +kernel
theorem dX1_isSafe_10 : decode cX1_isSafe 10 = .ok (.aload_n 0, 1) := by decide +kernel
theorem dX1_isSafe_11 : decode cX1_isSafe 11 = .ok (.aload_n 0, 1) := by decide +kernel
theorem dX1_isSafe_12 : decode cX1_isSafe 12 = .ok (.iload_n 2, 1) := by decide +kernel
theorem dX1_isSafe_13 : decode cX1_isSafe 13 = .ok (.iconst 1, 1) := by decide +kernel
theorem dX1_isSafe_14 : decode cX1_isSafe 14 = .ok (.invokevirtual 38, 3) := by decide +kernel
theorem dX1_isSafe_17 : decode cX1_isSafe 17 = .ok (.invokevirtual 48, 3) := by decide +kernel
theorem dX1_isSafe_20 : decode cX1_isSafe 20 = .ok (.ifCond .ne 13, 3) := by decide +kernel
theorem dX1_isSafe_23 : decode cX1_isSafe 23 = .ok (.aload_n 0, 1) := by decide +kernel
theorem dX1_isSafe_24 : decode cX1_isSafe 24 = .ok (.iload_n 2, 1) := by decide +kernel
theorem dX1_isSafe_25 : decode cX1_isSafe 25 = .ok (.iconst 2, 1) := by decide +kernel
theorem dX1_isSafe_26 : decode cX1_isSafe 26 = .ok (.invokevirtual 38, 3) := by decide +kernel
theorem dX1_isSafe_29 : decode cX1_isSafe 29 = .ok (.iconst 3, 1) := by decide +kernel
theorem dX1_isSafe_30 : decode cX1_isSafe 30 = .ok (.if_icmp .le 7, 3) := by decide +kernel
theorem dX1_isSafe_33 : decode cX1_isSafe 33 = .ok (.iconst 1, 1) := by decide +kernel
theorem dX1_isSafe_34 : decode cX1_isSafe 34 = .ok (.goto 4, 3) := by decide +kernel
theorem dX1_isSafe_37 : decode cX1_isSafe 37 = .ok (.iconst 0, 1) := by decide +kernel
theorem dX1_isSafe_38 : decode cX1_isSafe 38 = .ok (.istore_n 3, 1) := by decide +kernel
theorem dX1_isSafe_39 : decode cX1_isSafe 39 = .ok (.aload_n 0, 1) := by decide +kernel
theorem dX1_isSafe_40 : decode cX1_isSafe 40 = .ok (.iload_n 2, 1) := by decide +kernel
theorem dX1_isSafe_41 : decode cX1_isSafe 41 = .ok (.iconst 0, 1) := by decide +kernel
theorem dX1_isSafe_42 : decode cX1_isSafe 42 = .ok (.invokevirtual 38, 3) := by decide +kernel
theorem dX1_isSafe_45 : decode cX1_isSafe 45 = .ok (.iload_n 1, 1) := by decide +kernel
theorem dX1_isSafe_46 : decode cX1_isSafe 46 = .ok (.if_icmp .ne 9, 3) := by decide +kernel
theorem dX1_isSafe_49 : decode cX1_isSafe 49 = .ok (.iload_n 3, 1) := by decide +kernel
theorem dX1_isSafe_50 : decode cX1_isSafe 50 = .ok (.ifCond .eq 5, 3) := by decide +kernel
theorem dX1_isSafe_53 : decode cX1_isSafe 53 = .ok (.iconst 1, 1) := by decide +kernel
theorem dX1_isSafe_54 : decode cX1_isSafe 54 = .ok (.ireturn, 1) := by decide +kernel
theorem dX1_isSafe_55 : decode cX1_isSafe 55 = .ok (.iinc 2 1, 3) := by decide +kernel
theorem dX1_isSafe_58 : decode cX1_isSafe 58 = .ok (.goto (-56), 3) := by decide +kernel
theorem dX1_isSafe_61 : decode cX1_isSafe 61 = .ok (.iconst 0, 1) := by decide +kernel
theorem dX1_isSafe_62 : decode cX1_isSafe 62 = .ok (.ireturn, 1) := by decide +kernel
theorem dX1_isWayOpen_0 : decode cX1_isWayOpen 0 = .ok (.aload_n 0, 1) := by decide +kernel
theorem dX1_isWayOpen_1 : decode cX1_isWayOpen 1 = .ok (.iload_n 1, 1) := by decide +kernel
theorem dX1_isWayOpen_2 : decode cX1_isWayOpen 2 = .ok (.iconst 1, 1) := by decide +kernel
theorem dX1_isWayOpen_3 : decode cX1_isWayOpen 3 = .ok (.invokevirtual 38, 3) := by decide +kernel
theorem dX1_isWayOpen_6 : decode cX1_isWayOpen 6 = .ok (.istore 4, 2) := by decide +kernel
theorem dX1_isWayOpen_8 : decode cX1_isWayOpen 8 = .ok (.iload 4, 2) := by decide +kernel
theorem dX1_isWayOpen_10 : decode cX1_isWayOpen 10 = .ok (.iload_n 2, 1) := by decide +kernel
theorem dX1_isWayOpen_11 : decode cX1_isWayOpen 11 = .ok (.invokestatic 52, 3) := by decide +kernel
theorem dX1_isWayOpen_14 : decode cX1_isWayOpen 14 = .ok (.istore 5, 2) := by decide +kernel
theorem dX1_isWayOpen_16 : decode cX1_isWayOpen 16 = .ok (.aload_n 3, 1) := by decide +kernel
theorem dX1_isWayOpen_17 : decode cX1_isWayOpen 17 = .ok (.iload 5, 2) := by decide +kernel
theorem dX1_isWayOpen_19 : decode cX1_isWayOpen 19 = .ok (.invokevirtual 55, 3) := by decide +kernel
theorem dX1_isWayOpen_22 : decode cX1_isWayOpen 22 = .ok (.ifCond .eq 25, 3) := by decide +kernel
theorem dX1_isWayOpen_25 : decode cX1_isWayOpen 25 = .ok (.aload_n 0, 1) := by decide +kernel
theorem dX1_isWayOpen_26 : decode cX1_isWayOpen 26 = .ok (.iload 4, 2) := by decide +kernel
theorem dX1_isWayOpen_28 : decode cX1_isWayOpen 28 = .ok (.invokevirtual 48, 3) := by decide +kernel
theorem dX1_isWayOpen_31 : decode cX1_isWayOpen 31 = .ok (.ifCond .ne 16, 3) := by decide +kernel
theorem dX1_isWayOpen_34 : decode cX1_isWayOpen 34 = .ok (.aload_n 0, 1) := by decide +kernel
theorem dX1_isWayOpen_35 : decode cX1_isWayOpen 35 = .ok (.iload 5, 2) := by decide +kernel
theorem dX1_isWayOpen_37 : decode cX1_isWayOpen 37 = .ok (.invokevirtual 48, 3) := by decide +kernel
theorem dX1_isWayOpen_40 : decode cX1_isWayOpen 40 = .ok (.ifCond .ne 7, 3) := by decide +kernel
theorem dX1_isWayOpen_43 : decode cX1_isWayOpen 43 = .ok (.iconst 1, 1) := by decide +kernel
theorem dX1_isWayOpen_44 : decode cX1_isWayOpen 44 = .ok (.goto 4, 3) := by decide +kernel
theorem dX1_isWayOpen_47 : decode cX1_isWayOpen 47 = .ok (.iconst 0, 1) := by decide +kernel
theorem dX1_isWayOpen_48 : decode cX1_isWayOpen 48 = .ok (.ireturn, 1) := by decide +kernel
theorem dX1_wellBeside_0 : decode cX1_wellBeside 0 = .ok (.iload_n 1, 1) := by decide +kernel
theorem dX1_wellBeside_1 : decode cX1_wellBeside 1 = .ok (.ifCond .ne 9, 3) := by decide +kernel
theorem dX1_wellBeside_4 : decode cX1_wellBeside 4 = .ok (.iload_n 0, 1) := by decide +kernel
theorem dX1_wellBeside_5 : decode cX1_wellBeside 5 = .ok (.iconst 1, 1) := by decide +kernel
theorem dX1_wellBeside_6 : decode cX1_wellBeside 6 = .ok (.isub, 1) := by decide +kernel
theorem dX1_wellBeside_7 : decode cX1_wellBeside 7 = .ok (.goto 6, 3) := by decide +kernel
theorem dX1_wellBeside_10 : decode cX1_wellBeside 10 = .ok (.iload_n 0, 1) := by decide +kernel
theorem dX1_wellBeside_11 : decode cX1_wellBeside 11 = .ok (.iconst 1, 1) := by decide +kernel
theorem dX1_wellBeside_12 : decode cX1_wellBeside 12 = .ok (.iadd, 1) := by decide +kernel
theorem dX1_wellBeside_13 : decode cX1_wellBeside 13 = .ok (.ireturn, 1) := by decide +kernel
theorem dX1_singOn_0 : decode cX1_singOn 0 = .ok (.aload_n 0, 1) := by decide +kernel
theorem dX1_singOn_1 : decode cX1_singOn 1 = .ok (.iload_n 1, 1) := by decide +kernel
theorem dX1_singOn_2 : decode cX1_singOn 2 = .ok (.iconst 1, 1) := by decide +kernel
theorem dX1_singOn_3 : decode cX1_singOn 3 = .ok (.invokevirtual 38, 3) := by decide +kernel
theorem dX1_singOn_6 : decode cX1_singOn 6 = .ok (.istore 6, 2) := by decide +kernel
theorem dX1_singOn_8 : decode cX1_singOn 8 = .ok (.aload 5, 2) := by decide +kernel
theorem dX1_singOn_10 : decode cX1_singOn 10 = .ok (.iload 6, 2) := by decide +kernel
theorem dX1_singOn_12 : decode cX1_singOn 12 = .ok (.invokevirtual 60, 3) := by decide +kernel
theorem dX1_singOn_15 : decode cX1_singOn 15 = .ok (.iconst 2, 1) := by decide +kernel
theorem dX1_singOn_16 : decode cX1_singOn 16 = .ok (.if_icmp .ne 7, 3) := by decide +kernel
theorem dX1_singOn_19 : decode cX1_singOn 19 = .ok (.iconst 1, 1) := by decide +kernel
theorem dX1_singOn_20 : decode cX1_singOn 20 = .ok (.goto 4, 3) := by decide +kernel
theorem dX1_singOn_23 : decode cX1_singOn 23 = .ok (.iconst 0, 1) := by decide +kernel
theorem dX1_singOn_24 : decode cX1_singOn 24 = .ok (.istore 7, 2) := by decide +kernel
theorem dX1_singOn_26 : decode cX1_singOn 26 = .ok (.aload_n 0, 1) := by decide +kernel
theorem dX1_singOn_27 : decode cX1_singOn 27 = .ok (.iload_n 1, 1) := by decide +kernel
theorem dX1_singOn_28 : decode cX1_singOn 28 = .ok (.iconst 5, 1) := by decide +kernel
theorem dX1_singOn_29 : decode cX1_singOn 29 = .ok (.invokevirtual 38, 3) := by decide +kernel
theorem dX1_singOn_32 : decode cX1_singOn 32 = .ok (.iload 7, 2) := by decide +kernel
theorem dX1_singOn_34 : decode cX1_singOn 34 = .ok (.iadd, 1) := by decide +kernel
theorem dX1_singOn_35 : decode cX1_singOn 35 = .ok (.bipush 9, 2) := by decide +kernel
theorem dX1_singOn_37 : decode cX1_singOn 37 = .ok (.invokestatic 28, 3) := by decide +kernel
theorem dX1_singOn_40 : decode cX1_singOn 40 = .ok (.istore 8, 2) := by decide +kernel
theorem dX1_singOn_42 : decode cX1_singOn 42 = .ok (.aload_n 0, 1) := by decide +kernel
theorem dX1_singOn_43 : decode cX1_singOn 43 = .ok (.dup, 1) := by decide +kernel
theorem dX1_singOn_44 : decode cX1_singOn 44 = .ok (.getfield 25, 3) := by decide +kernel
theorem dX1_singOn_47 : decode cX1_singOn 47 = .ok (.iload_n 3, 1) := by decide +kernel
theorem dX1_singOn_48 : decode cX1_singOn 48 = .ok (.iadd, 1) := by decide +kernel
theorem dX1_singOn_49 : decode cX1_singOn 49 = .ok (.putfield 25, 3) := by decide +kernel
theorem dX1_singOn_52 : decode cX1_singOn 52 = .ok (.aload_n 0, 1) := by decide +kernel
theorem dX1_singOn_53 : decode cX1_singOn 53 = .ok (.aload_n 0, 1) := by decide +kernel
theorem dX1_singOn_54 : decode cX1_singOn 54 = .ok (.iload_n 1, 1) := by decide +kernel
theorem dX1_singOn_55 : decode cX1_singOn 55 = .ok (.iconst 0, 1) := by decide +kernel
theorem dX1_singOn_56 : decode cX1_singOn 56 = .ok (.invokevirtual 38, 3) := by decide +kernel
theorem dX1_singOn_59 : decode cX1_singOn 59 = .ok (.iload 6, 2) := by decide +kernel
theorem dX1_singOn_61 : decode cX1_singOn 61 = .ok (.iload_n 2, 1) := by decide +kernel
theorem dX1_singOn_62 : decode cX1_singOn 62 = .ok (.invokestatic 52, 3) := by decide +kernel
theorem dX1_singOn_65 : decode cX1_singOn 65 = .ok (.iload_n 3, 1) := by decide +kernel
theorem dX1_singOn_66 : decode cX1_singOn 66 = .ok (.iload 4, 2) := by decide +kernel
theorem dX1_singOn_68 : decode cX1_singOn 68 = .ok (.iload 8, 2) := by decide +kernel
theorem dX1_singOn_70 : decode cX1_singOn 70 = .ok (.invokevirtual 63, 3) := by decide +kernel
theorem dX1_singOn_73 : decode cX1_singOn 73 = .ok (.ireturn, 1) := by decide +kernel
theorem dX1_goYear_0 : decode cX1_goYear 0 = .ok (.aload_n 0, 1) := by decide +kernel
theorem dX1_goYear_1 : decode cX1_goYear 1 = .ok (.aload_n 1, 1) := by decide +kernel
theorem dX1_goYear_2 : decode cX1_goYear 2 = .ok (.invokevirtual 67, 3) := by decide +kernel
theorem dX1_goYear_5 : decode cX1_goYear 5 = .ok (.aload_n 0, 1) := by decide +kernel
theorem dX1_goYear_6 : decode cX1_goYear 6 = .ok (.invokevirtual 71, 3) := by decide +kernel
theorem dX1_goYear_9 : decode cX1_goYear 9 = .ok (.istore_n 2, 1) := by decide +kernel
theorem dX1_goYear_10 : decode cX1_goYear 10 = .ok (.iconst 0, 1) := by decide +kernel
theorem dX1_goYear_11 : decode cX1_goYear 11 = .ok (.istore_n 3, 1) := by decide +kernel
theorem dX1_goYear_12 : decode cX1_goYear 12 = .ok (.iload_n 3, 1) := by decide +kernel
theorem dX1_goYear_13 : decode cX1_goYear 13 = .ok (.aload_n 0, 1) := by decide +kernel
theorem dX1_goYear_14 : decode cX1_goYear 14 = .ok (.getfield 15, 3) := by decide +kernel
theorem dX1_goYear_17 : decode cX1_goYear 17 = .ok (.if_icmp .ge 23, 3) := by decide +kernel
theorem dX1_goYear_20 : decode cX1_goYear 20 = .ok (.aload_n 0, 1) := by decide +kernel
theorem dX1_goYear_21 : decode cX1_goYear 21 = .ok (.iload_n 3, 1) := by decide +kernel
theorem dX1_goYear_22 : decode cX1_goYear 22 = .ok (.iconst 4, 1) := by decide +kernel
theorem dX1_goYear_23 : decode cX1_goYear 23 = .ok (.aload_n 0, 1) := by decide +kernel
theorem dX1_goYear_24 : decode cX1_goYear 24 = .ok (.iload_n 3, 1) := by decide +kernel
theorem dX1_goYear_25 : decode cX1_goYear 25 = .ok (.iconst 4, 1) := by decide +kernel
theorem dX1_goYear_26 : decode cX1_goYear 26 = .ok (.invokevirtual 38, 3) := by decide +kernel
theorem dX1_goYear_29 : decode cX1_goYear 29 = .ok (.iconst 1, 1) := by decide +kernel
theorem dX1_goYear_30 : decode cX1_goYear 30 = .ok (.iadd, 1) := by decide +kernel
theorem dX1_goYear_31 : decode cX1_goYear 31 = .ok (.invokevirtual 34, 3) := by decide +kernel
theorem dX1_goYear_34 : decode cX1_goYear 34 = .ok (.iinc 3 1, 3) := by decide +kernel
theorem dX1_goYear_37 : decode cX1_goYear 37 = .ok (.goto (-25), 3) := by decide +kernel
theorem dX1_goYear_40 : decode cX1_goYear 40 = .ok (.aload_n 0, 1) := by decide +kernel
theorem dX1_goYear_41 : decode cX1_goYear 41 = .ok (.dup, 1) := by decide +kernel
theorem dX1_goYear_42 : decode cX1_goYear 42 = .ok (.getfield 22, 3) := by decide +kernel
theorem dX1_goYear_45 : decode cX1_goYear 45 = .ok (.iconst 1, 1) := by decide +kernel
theorem dX1_goYear_46 : decode cX1_goYear 46 = .ok (.iadd, 1) := by decide +kernel
theorem dX1_goYear_47 : decode cX1_goYear 47 = .ok (.putfield 22, 3) := by decide +kernel
theorem dX1_goYear_50 : decode cX1_goYear 50 = .ok (.iload_n 2, 1) := by decide +kernel
theorem dX1_goYear_51 : decode cX1_goYear 51 = .ok (.ireturn, 1) := by decide +kernel
theorem dX1_goYears_0 : decode cX1_goYears 0 = .ok (.iconst 0, 1) := by decide +kernel
theorem dX1_goYears_1 : decode cX1_goYears 1 = .ok (.istore_n 3, 1) := by decide +kernel
theorem dX1_goYears_2 : decode cX1_goYears 2 = .ok (.iload_n 3, 1) := by decide +kernel
theorem dX1_goYears_3 : decode cX1_goYears 3 = .ok (.iload_n 1, 1) := by decide +kernel
theorem dX1_goYears_4 : decode cX1_goYears 4 = .ok (.if_icmp .ge 15, 3) := by decide +kernel
theorem dX1_goYears_7 : decode cX1_goYears 7 = .ok (.aload_n 0, 1) := by decide +kernel
theorem dX1_goYears_8 : decode cX1_goYears 8 = .ok (.aload_n 2, 1) := by decide +kernel
theorem dX1_goYears_9 : decode cX1_goYears 9 = .ok (.invokevirtual 75, 3) := by decide +kernel
theorem dX1_goYears_12 : decode cX1_goYears 12 = .ok (.pop, 1) := by decide +kernel
theorem dX1_goYears_13 : decode cX1_goYears 13 = .ok (.iinc 3 1, 3) := by decide +kernel
theorem dX1_goYears_16 : decode cX1_goYears 16 = .ok (.goto (-14), 3) := by decide +kernel
theorem dX1_goYears_19 : decode cX1_goYears 19 = .ok (.return_, 1) := by decide +kernel
theorem dX1_wear_0 : decode cX1_wear 0 = .ok (.lconst 0, 1) := by decide +kernel
theorem dX1_wear_1 : decode cX1_wear 1 = .ok (.lstore_n 2, 1) := by decide +kernel
theorem dX1_wear_2 : decode cX1_wear 2 = .ok (.iconst 0, 1) := by decide +kernel
theorem dX1_wear_3 : decode cX1_wear 3 = .ok (.istore 4, 2) := by decide +kernel
theorem dX1_wear_5 : decode cX1_wear 5 = .ok (.iload 4, 2) := by decide +kernel
theorem dX1_wear_7 : decode cX1_wear 7 = .ok (.aload_n 0, 1) := by decide +kernel
theorem dX1_wear_8 : decode cX1_wear 8 = .ok (.getfield 15, 3) := by decide +kernel
theorem dX1_wear_11 : decode cX1_wear 11 = .ok (.if_icmp .ge 31, 3) := by decide +kernel
theorem dX1_wear_14 : decode cX1_wear 14 = .ok (.lload_n 2, 1) := by decide +kernel
theorem dX1_wear_15 : decode cX1_wear 15 = .ok (.lconst 1, 1) := by decide +kernel
theorem dX1_wear_16 : decode cX1_wear 16 = .ok (.aload_n 0, 1) := by decide +kernel
theorem dX1_wear_17 : decode cX1_wear 17 = .ok (.iload 4, 2) := by decide +kernel
theorem dX1_wear_19 : decode cX1_wear 19 = .ok (.iconst 1, 1) := by decide +kernel
theorem dX1_wear_20 : decode cX1_wear 20 = .ok (.invokevirtual 38, 3) := by decide +kernel
theorem dX1_wear_23 : decode cX1_wear 23 = .ok (.aload_n 0, 1) := by decide +kernel
theorem dX1_wear_24 : decode cX1_wear 24 = .ok (.iload 4, 2) := by decide +kernel
theorem dX1_wear_26 : decode cX1_wear 26 = .ok (.iconst 3, 1) := by decide +kernel
theorem dX1_wear_27 : decode cX1_wear 27 = .ok (.invokevirtual 38, 3) := by decide +kernel
theorem dX1_wear_30 : decode cX1_wear 30 = .ok (.invokestatic 79, 3) := by decide +kernel
theorem dX1_wear_33 : decode cX1_wear 33 = .ok (.lshl, 1) := by decide +kernel
theorem dX1_wear_34 : decode cX1_wear 34 = .ok (.ladd, 1) := by decide +kernel
theorem dX1_wear_35 : decode cX1_wear 35 = .ok (.lstore_n 2, 1) := by decide +kernel
theorem dX1_wear_36 : decode cX1_wear 36 = .ok (.iinc 4 1, 3) := by decide +kernel
theorem dX1_wear_39 : decode cX1_wear 39 = .ok (.goto (-34), 3) := by decide +kernel
theorem dX1_wear_42 : decode cX1_wear 42 = .ok (.iconst 0, 1) := by decide +kernel
theorem dX1_wear_43 : decode cX1_wear 43 = .ok (.istore 4, 2) := by decide +kernel
theorem dX1_wear_45 : decode cX1_wear 45 = .ok (.iload 4, 2) := by decide +kernel
theorem dX1_wear_47 : decode cX1_wear 47 = .ok (.aload_n 0, 1) := by decide +kernel
theorem dX1_wear_48 : decode cX1_wear 48 = .ok (.getfield 15, 3) := by decide +kernel
theorem dX1_wear_51 : decode cX1_wear 51 = .ok (.if_icmp .ge 75, 3) := by decide +kernel
theorem dX1_wear_54 : decode cX1_wear 54 = .ok (.aload_n 0, 1) := by decide +kernel
theorem dX1_wear_55 : decode cX1_wear 55 = .ok (.iload 4, 2) := by decide +kernel
theorem dX1_wear_57 : decode cX1_wear 57 = .ok (.iconst 1, 1) := by decide +kernel
theorem dX1_wear_58 : decode cX1_wear 58 = .ok (.invokevirtual 38, 3) := by decide +kernel
theorem dX1_wear_61 : decode cX1_wear 61 = .ok (.istore 5, 2) := by decide +kernel
theorem dX1_wear_63 : decode cX1_wear 63 = .ok (.lload_n 2, 1) := by decide +kernel
theorem dX1_wear_64 : decode cX1_wear 64 = .ok (.iload 5, 2) := by decide +kernel
theorem dX1_wear_66 : decode cX1_wear 66 = .ok (.aload_n 0, 1) := by decide +kernel
theorem dX1_wear_67 : decode cX1_wear 67 = .ok (.iload 4, 2) := by decide +kernel
theorem dX1_wear_69 : decode cX1_wear 69 = .ok (.iconst 3, 1) := by decide +kernel
theorem dX1_wear_70 : decode cX1_wear 70 = .ok (.invokevirtual 38, 3) := by decide +kernel
theorem dX1_wear_73 : decode cX1_wear 73 = .ok (.invokestatic 79, 3) := by decide +kernel
theorem dX1_wear_76 : decode cX1_wear 76 = .ok (.lushr, 1) := by decide +kernel
theorem dX1_wear_77 : decode cX1_wear 77 = .ok (.ldc2_w 82, 3) := by decide +kernel
theorem dX1_wear_80 : decode cX1_wear 80 = .ok (.land, 1) := by decide +kernel
theorem dX1_wear_81 : decode cX1_wear 81 = .ok (.l2i, 1) := by decide +kernel
theorem dX1_wear_82 : decode cX1_wear 82 = .ok (.istore 6, 2) := by decide +kernel
theorem dX1_wear_84 : decode cX1_wear 84 = .ok (.aload_n 1, 1) := by decide +kernel
theorem dX1_wear_85 : decode cX1_wear 85 = .ok (.iload 5, 2) := by decide +kernel
theorem dX1_wear_87 : decode cX1_wear 87 = .ok (.aload_n 0, 1) := by decide +kernel
theorem dX1_wear_88 : decode cX1_wear 88 = .ok (.iload 5, 2) := by decide +kernel
theorem dX1_wear_90 : decode cX1_wear 90 = .ok (.invokevirtual 48, 3) := by decide +kernel
theorem dX1_wear_93 : decode cX1_wear 93 = .ok (.invokevirtual 84, 3) := by decide +kernel
theorem dX1_wear_96 : decode cX1_wear 96 = .ok (.iload 6, 2) := by decide +kernel
theorem dX1_wear_98 : decode cX1_wear 98 = .ok (.iadd, 1) := by decide +kernel
theorem dX1_wear_99 : decode cX1_wear 99 = .ok (.iconst 1, 1) := by decide +kernel
theorem dX1_wear_100 : decode cX1_wear 100 = .ok (.isub, 1) := by decide +kernel
theorem dX1_wear_101 : decode cX1_wear 101 = .ok (.istore 7, 2) := by decide +kernel
theorem dX1_wear_103 : decode cX1_wear 103 = .ok (.aload_n 0, 1) := by decide +kernel
theorem dX1_wear_104 : decode cX1_wear 104 = .ok (.iload 4, 2) := by decide +kernel
theorem dX1_wear_106 : decode cX1_wear 106 = .ok (.iconst 2, 1) := by decide +kernel
theorem dX1_wear_107 : decode cX1_wear 107 = .ok (.aload_n 0, 1) := by decide +kernel
theorem dX1_wear_108 : decode cX1_wear 108 = .ok (.iload 4, 2) := by decide +kernel
theorem dX1_wear_110 : decode cX1_wear 110 = .ok (.iconst 2, 1) := by decide +kernel
theorem dX1_wear_111 : decode cX1_wear 111 = .ok (.invokevirtual 38, 3) := by decide +kernel
theorem dX1_wear_114 : decode cX1_wear 114 = .ok (.iload 7, 2) := by decide +kernel
theorem dX1_wear_116 : decode cX1_wear 116 = .ok (.isub, 1) := by decide +kernel
theorem dX1_wear_117 : decode cX1_wear 117 = .ok (.invokevirtual 34, 3) := by decide +kernel
theorem dX1_wear_120 : decode cX1_wear 120 = .ok (.iinc 4 1, 3) := by decide +kernel
theorem dX1_wear_123 : decode cX1_wear 123 = .ok (.goto (-78), 3) := by decide +kernel
theorem dX1_wear_126 : decode cX1_wear 126 = .ok (.return_, 1) := by decide +kernel
theorem dX1_shiftOfCrowd_0 : decode cX1_shiftOfCrowd 0 = .ok (.iconst 4, 1) := by decide +kernel
theorem dX1_shiftOfCrowd_1 : decode cX1_shiftOfCrowd 1 = .ok (.iload_n 0, 1) := by decide +kernel
theorem dX1_shiftOfCrowd_2 : decode cX1_shiftOfCrowd 2 = .ok (.iconst 4, 1) := by decide +kernel
theorem dX1_shiftOfCrowd_3 : decode cX1_shiftOfCrowd 3 = .ok (.imul, 1) := by decide +kernel
theorem dX1_shiftOfCrowd_4 : decode cX1_shiftOfCrowd 4 = .ok (.iload_n 1, 1) := by decide +kernel
theorem dX1_shiftOfCrowd_5 : decode cX1_shiftOfCrowd 5 = .ok (.iadd, 1) := by decide +kernel
theorem dX1_shiftOfCrowd_6 : decode cX1_shiftOfCrowd 6 = .ok (.imul, 1) := by decide +kernel
theorem dX1_shiftOfCrowd_7 : decode cX1_shiftOfCrowd 7 = .ok (.ireturn, 1) := by decide +kernel
theorem dX1_faintAhead_0 : decode cX1_faintAhead 0 = .ok (.iconst 0, 1) := by decide +kernel
theorem dX1_faintAhead_1 : decode cX1_faintAhead 1 = .ok (.istore_n 2, 1) := by decide +kernel
theorem dX1_faintAhead_2 : decode cX1_faintAhead 2 = .ok (.iconst 0, 1) := by decide +kernel
theorem dX1_faintAhead_3 : decode cX1_faintAhead 3 = .ok (.istore_n 3, 1) := by decide +kernel
theorem dX1_faintAhead_4 : decode cX1_faintAhead 4 = .ok (.iload_n 3, 1) := by decide +kernel
theorem dX1_faintAhead_5 : decode cX1_faintAhead 5 = .ok (.iload_n 1, 1) := by decide +kernel
theorem dX1_faintAhead_6 : decode cX1_faintAhead 6 = .ok (.if_icmp .ge 26, 3) := by decide +kernel
theorem dX1_faintAhead_9 : decode cX1_faintAhead 9 = .ok (.iload_n 2, 1) := by decide +kernel
theorem dX1_faintAhead_10 : decode cX1_faintAhead 10 = .ok (.aload_n 0, 1) := by decide +kernel
theorem dX1_faintAhead_11 : decode cX1_faintAhead 11 = .ok (.iload_n 3, 1) := by decide +kernel
theorem dX1_faintAhead_12 : decode cX1_faintAhead 12 = .ok (.iconst 2, 1) := by decide +kernel
theorem dX1_faintAhead_13 : decode cX1_faintAhead 13 = .ok (.invokevirtual 38, 3) := by decide +kernel
theorem dX1_faintAhead_16 : decode cX1_faintAhead 16 = .ok (.ifCond .gt 7, 3) := by decide +kernel
theorem dX1_faintAhead_19 : decode cX1_faintAhead 19 = .ok (.iconst 1, 1) := by decide +kernel
theorem dX1_faintAhead_20 : decode cX1_faintAhead 20 = .ok (.goto 4, 3) := by decide +kernel
theorem dX1_faintAhead_23 : decode cX1_faintAhead 23 = .ok (.iconst 0, 1) := by decide +kernel
theorem dX1_faintAhead_24 : decode cX1_faintAhead 24 = .ok (.iadd, 1) := by decide +kernel
theorem dX1_faintAhead_25 : decode cX1_faintAhead 25 = .ok (.istore_n 2, 1) := by decide +kernel
theorem dX1_faintAhead_26 : decode cX1_faintAhead 26 = .ok (.iinc 3 1, 3) := by decide +kernel
theorem dX1_faintAhead_29 : decode cX1_faintAhead 29 = .ok (.goto (-25), 3) := by decide +kernel
theorem dX1_faintAhead_32 : decode cX1_faintAhead 32 = .ok (.iload_n 2, 1) := by decide +kernel
theorem dX1_faintAhead_33 : decode cX1_faintAhead 33 = .ok (.ireturn, 1) := by decide +kernel
theorem dX1_dropFaint_0 : decode cX1_dropFaint 0 = .ok (.iconst 0, 1) := by decide +kernel
theorem dX1_dropFaint_1 : decode cX1_dropFaint 1 = .ok (.istore_n 1, 1) := by decide +kernel
theorem dX1_dropFaint_2 : decode cX1_dropFaint 2 = .ok (.iconst 0, 1) := by decide +kernel
theorem dX1_dropFaint_3 : decode cX1_dropFaint 3 = .ok (.istore_n 2, 1) := by decide +kernel
theorem dX1_dropFaint_4 : decode cX1_dropFaint 4 = .ok (.iload_n 2, 1) := by decide +kernel
theorem dX1_dropFaint_5 : decode cX1_dropFaint 5 = .ok (.aload_n 0, 1) := by decide +kernel
theorem dX1_dropFaint_6 : decode cX1_dropFaint 6 = .ok (.getfield 15, 3) := by decide +kernel
theorem dX1_dropFaint_9 : decode cX1_dropFaint 9 = .ok (.if_icmp .ge 52, 3) := by decide +kernel
theorem dX1_dropFaint_12 : decode cX1_dropFaint 12 = .ok (.aload_n 0, 1) := by decide +kernel
theorem dX1_dropFaint_13 : decode cX1_dropFaint 13 = .ok (.iload_n 2, 1) := by decide +kernel
theorem dX1_dropFaint_14 : decode cX1_dropFaint 14 = .ok (.iconst 2, 1) := by decide +kernel
theorem dX1_dropFaint_15 : decode cX1_dropFaint 15 = .ok (.invokevirtual 38, 3) := by decide +kernel
theorem dX1_dropFaint_18 : decode cX1_dropFaint 18 = .ok (.ifCond .le 37, 3) := by decide +kernel
theorem dX1_dropFaint_21 : decode cX1_dropFaint 21 = .ok (.iconst 0, 1) := by decide +kernel
theorem dX1_dropFaint_22 : decode cX1_dropFaint 22 = .ok (.istore_n 3, 1) := by decide +kernel
theorem dX1_dropFaint_23 : decode cX1_dropFaint 23 = .ok (.iload_n 1, 1) := by decide +kernel
theorem dX1_dropFaint_24 : decode cX1_dropFaint 24 = .ok (.iload_n 2, 1) := by decide +kernel
theorem dX1_dropFaint_25 : decode cX1_dropFaint 25 = .ok (.if_icmp .eq 27, 3) := by decide +kernel
theorem dX1_dropFaint_28 : decode cX1_dropFaint 28 = .ok (.iload_n 3, 1) := by decide +kernel
theorem dX1_dropFaint_29 : decode cX1_dropFaint 29 = .ok (.bipush 6, 2) := by decide +kernel
theorem dX1_dropFaint_31 : decode cX1_dropFaint 31 = .ok (.if_icmp .ge 21, 3) := by decide +kernel
theorem dX1_dropFaint_34 : decode cX1_dropFaint 34 = .ok (.aload_n 0, 1) := by decide +kernel
theorem dX1_dropFaint_35 : decode cX1_dropFaint 35 = .ok (.iload_n 1, 1) := by decide +kernel
theorem dX1_dropFaint_36 : decode cX1_dropFaint 36 = .ok (.iload_n 3, 1) := by decide +kernel
theorem dX1_dropFaint_37 : decode cX1_dropFaint 37 = .ok (.aload_n 0, 1) := by decide +kernel
theorem dX1_dropFaint_38 : decode cX1_dropFaint 38 = .ok (.iload_n 2, 1) := by decide +kernel
theorem dX1_dropFaint_39 : decode cX1_dropFaint 39 = .ok (.iload_n 3, 1) := by decide +kernel
theorem dX1_dropFaint_40 : decode cX1_dropFaint 40 = .ok (.invokevirtual 38, 3) := by decide +kernel
theorem dX1_dropFaint_43 : decode cX1_dropFaint 43 = .ok (.invokevirtual 34, 3) := by decide +kernel
theorem dX1_dropFaint_46 : decode cX1_dropFaint 46 = .ok (.iinc 3 1, 3) := by decide +kernel
theorem dX1_dropFaint_49 : decode cX1_dropFaint 49 = .ok (.goto (-26), 3) := by decide +kernel
theorem dX1_dropFaint_52 : decode cX1_dropFaint 52 = .ok (.iinc 1 1, 3) := by decide +kernel
theorem dX1_dropFaint_55 : decode cX1_dropFaint 55 = .ok (.iinc 2 1, 3) := by decide +kernel
theorem dX1_dropFaint_58 : decode cX1_dropFaint 58 = .ok (.goto (-54), 3) := by decide +kernel
theorem dX1_dropFaint_61 : decode cX1_dropFaint 61 = .ok (.aload_n 0, 1) := by decide +kernel
theorem dX1_dropFaint_62 : decode cX1_dropFaint 62 = .ok (.getfield 15, 3) := by decide +kernel
theorem dX1_dropFaint_65 : decode cX1_dropFaint 65 = .ok (.iload_n 1, 1) := by decide +kernel
theorem dX1_dropFaint_66 : decode cX1_dropFaint 66 = .ok (.isub, 1) := by decide +kernel
theorem dX1_dropFaint_67 : decode cX1_dropFaint 67 = .ok (.istore_n 2, 1) := by decide +kernel
theorem dX1_dropFaint_68 : decode cX1_dropFaint 68 = .ok (.aload_n 0, 1) := by decide +kernel
theorem dX1_dropFaint_69 : decode cX1_dropFaint 69 = .ok (.iload_n 1, 1) := by decide +kernel
theorem dX1_dropFaint_70 : decode cX1_dropFaint 70 = .ok (.putfield 15, 3) := by decide +kernel
theorem dX1_dropFaint_73 : decode cX1_dropFaint 73 = .ok (.iload_n 2, 1) := by decide +kernel
theorem dX1_dropFaint_74 : decode cX1_dropFaint 74 = .ok (.ireturn, 1) := by decide +kernel
theorem dX1_flood_0 : decode cX1_flood 0 = .ok (.iconst 0, 1) := by decide +kernel
theorem dX1_flood_1 : decode cX1_flood 1 = .ok (.istore_n 2, 1) := by decide +kernel
theorem dX1_flood_2 : decode cX1_flood 2 = .ok (.iload_n 2, 1) := by decide +kernel
theorem dX1_flood_3 : decode cX1_flood 3 = .ok (.aload_n 0, 1) := by decide +kernel
theorem dX1_flood_4 : decode cX1_flood 4 = .ok (.getfield 15, 3) := by decide +kernel
theorem dX1_flood_7 : decode cX1_flood 7 = .ok (.if_icmp .ge 33, 3) := by decide +kernel
theorem dX1_flood_10 : decode cX1_flood 10 = .ok (.aload_n 0, 1) := by decide +kernel
theorem dX1_flood_11 : decode cX1_flood 11 = .ok (.iload_n 2, 1) := by decide +kernel
theorem dX1_flood_12 : decode cX1_flood 12 = .ok (.iconst 1, 1) := by decide +kernel
theorem dX1_flood_13 : decode cX1_flood 13 = .ok (.invokevirtual 38, 3) := by decide +kernel
theorem dX1_flood_16 : decode cX1_flood 16 = .ok (.iload_n 1, 1) := by decide +kernel
theorem dX1_flood_17 : decode cX1_flood 17 = .ok (.if_icmp .ne 17, 3) := by decide +kernel
theorem dX1_flood_20 : decode cX1_flood 20 = .ok (.aload_n 0, 1) := by decide +kernel
theorem dX1_flood_21 : decode cX1_flood 21 = .ok (.iload_n 2, 1) := by decide +kernel
theorem dX1_flood_22 : decode cX1_flood 22 = .ok (.iconst 2, 1) := by decide +kernel
theorem dX1_flood_23 : decode cX1_flood 23 = .ok (.aload_n 0, 1) := by decide +kernel
theorem dX1_flood_24 : decode cX1_flood 24 = .ok (.iload_n 2, 1) := by decide +kernel
theorem dX1_flood_25 : decode cX1_flood 25 = .ok (.iconst 2, 1) := by decide +kernel
theorem dX1_flood_26 : decode cX1_flood 26 = .ok (.invokevirtual 38, 3) := by decide +kernel
theorem dX1_flood_29 : decode cX1_flood 29 = .ok (.iconst 3, 1) := by decide +kernel
theorem dX1_flood_30 : decode cX1_flood 30 = .ok (.isub, 1) := by decide +kernel
theorem dX1_flood_31 : decode cX1_flood 31 = .ok (.invokevirtual 34, 3) := by decide +kernel
theorem dX1_flood_34 : decode cX1_flood 34 = .ok (.iinc 2 1, 3) := by decide +kernel
theorem dX1_flood_37 : decode cX1_flood 37 = .ok (.goto (-35), 3) := by decide +kernel
theorem dX1_flood_40 : decode cX1_flood 40 = .ok (.aload_n 0, 1) := by decide +kernel
theorem dX1_flood_41 : decode cX1_flood 41 = .ok (.invokevirtual 71, 3) := by decide +kernel
theorem dX1_flood_44 : decode cX1_flood 44 = .ok (.pop, 1) := by decide +kernel
theorem dX1_flood_45 : decode cX1_flood 45 = .ok (.return_, 1) := by decide +kernel
theorem dX2_init_0 : decode cX2_init 0 = .ok (.aload_n 0, 1) := by decide +kernel
theorem dX2_init_1 : decode cX2_init 1 = .ok (.invokespecial 3, 3) := by decide +kernel
theorem dX2_init_4 : decode cX2_init 4 = .ok (.aload_n 0, 1) := by decide +kernel
theorem dX2_init_5 : decode cX2_init 5 = .ok (.bipush 56, 2) := by decide +kernel
theorem dX2_init_7 : decode cX2_init 7 = .ok (.newarray .int, 2) := by decide +kernel
theorem dX2_init_9 : decode cX2_init 9 = .ok (.putfield 9, 3) := by decide +kernel
theorem dX2_init_12 : decode cX2_init 12 = .ok (.return_, 1) := by decide +kernel
theorem dX2_append_0 : decode cX2_append 0 = .ok (.aload_n 0, 1) := by decide +kernel
theorem dX2_append_1 : decode cX2_append 1 = .ok (.getfield 15, 3) := by decide +kernel
theorem dX2_append_4 : decode cX2_append 4 = .ok (.ifCond .lt 15, 3) := by decide +kernel
theorem dX2_append_7 : decode cX2_append 7 = .ok (.aload_n 0, 1) := by decide +kernel
theorem dX2_append_8 : decode cX2_append 8 = .ok (.getfield 15, 3) := by decide +kernel
theorem dX2_append_11 : decode cX2_append 11 = .ok (.aload_n 0, 1) := by decide +kernel
theorem dX2_append_12 : decode cX2_append 12 = .ok (.getfield 9, 3) := by decide +kernel
theorem dX2_append_15 : decode cX2_append 15 = .ok (.arraylength, 1) := by decide +kernel
theorem dX2_append_16 : decode cX2_append 16 = .ok (.if_icmp .lt 5, 3) := by decide +kernel
theorem dX2_append_19 : decode cX2_append 19 = .ok (.iconst 0, 1) := by decide +kernel
theorem dX2_append_20 : decode cX2_append 20 = .ok (.ireturn, 1) := by decide +kernel
theorem dX2_append_21 : decode cX2_append 21 = .ok (.aload_n 0, 1) := by decide +kernel
theorem dX2_append_22 : decode cX2_append 22 = .ok (.getfield 9, 3) := by decide +kernel
theorem dX2_append_25 : decode cX2_append 25 = .ok (.aload_n 0, 1) := by decide +kernel
theorem dX2_append_26 : decode cX2_append 26 = .ok (.getfield 15, 3) := by decide +kernel
theorem dX2_append_29 : decode cX2_append 29 = .ok (.iload_n 1, 1) := by decide +kernel
theorem dX2_append_30 : decode cX2_append 30 = .ok (.iastore, 1) := by decide +kernel
theorem dX2_append_31 : decode cX2_append 31 = .ok (.aload_n 0, 1) := by decide +kernel
theorem dX2_append_32 : decode cX2_append 32 = .ok (.dup, 1) := by decide +kernel
theorem dX2_append_33 : decode cX2_append 33 = .ok (.getfield 15, 3) := by decide +kernel
theorem dX2_append_36 : decode cX2_append 36 = .ok (.iconst 1, 1) := by decide +kernel
theorem dX2_append_37 : decode cX2_append 37 = .ok (.iadd, 1) := by decide +kernel
theorem dX2_append_38 : decode cX2_append 38 = .ok (.putfield 15, 3) := by decide +kernel
theorem dX2_append_41 : decode cX2_append 41 = .ok (.iconst 1, 1) := by decide +kernel
theorem dX2_append_42 : decode cX2_append 42 = .ok (.ireturn, 1) := by decide +kernel
theorem dX2_letterAt_0 : decode cX2_letterAt 0 = .ok (.iload_n 1, 1) := by decide +kernel
theorem dX2_letterAt_1 : decode cX2_letterAt 1 = .ok (.ifCond .lt 29, 3) := by decide +kernel
theorem dX2_letterAt_4 : decode cX2_letterAt 4 = .ok (.iload_n 1, 1) := by decide +kernel
theorem dX2_letterAt_5 : decode cX2_letterAt 5 = .ok (.aload_n 0, 1) := by decide +kernel
theorem dX2_letterAt_6 : decode cX2_letterAt 6 = .ok (.getfield 15, 3) := by decide +kernel
theorem dX2_letterAt_9 : decode cX2_letterAt 9 = .ok (.if_icmp .ge 21, 3) := by decide +kernel
theorem dX2_letterAt_12 : decode cX2_letterAt 12 = .ok (.iload_n 1, 1) := by decide +kernel
theorem dX2_letterAt_13 : decode cX2_letterAt 13 = .ok (.aload_n 0, 1) := by decide +kernel
theorem dX2_letterAt_14 : decode cX2_letterAt 14 = .ok (.getfield 9, 3) := by decide +kernel
theorem dX2_letterAt_17 : decode cX2_letterAt 17 = .ok (.arraylength, 1) := by decide +kernel
theorem dX2_letterAt_18 : decode cX2_letterAt 18 = .ok (.if_icmp .ge 12, 3) := by decide +kernel
theorem dX2_letterAt_21 : decode cX2_letterAt 21 = .ok (.aload_n 0, 1) := by decide +kernel
theorem dX2_letterAt_22 : decode cX2_letterAt 22 = .ok (.getfield 9, 3) := by decide +kernel
theorem dX2_letterAt_25 : decode cX2_letterAt 25 = .ok (.iload_n 1, 1) := by decide +kernel
theorem dX2_letterAt_26 : decode cX2_letterAt 26 = .ok (.iaload, 1) := by decide +kernel
theorem dX2_letterAt_27 : decode cX2_letterAt 27 = .ok (.goto 5, 3) := by decide +kernel
theorem dX2_letterAt_30 : decode cX2_letterAt 30 = .ok (.bipush (-9), 2) := by decide +kernel
theorem dX2_letterAt_32 : decode cX2_letterAt 32 = .ok (.ireturn, 1) := by decide +kernel
theorem dX2_digitAt_0 : decode cX2_digitAt 0 = .ok (.aload_n 0, 1) := by decide +kernel
theorem dX2_digitAt_1 : decode cX2_digitAt 1 = .ok (.iload_n 1, 1) := by decide +kernel
theorem dX2_digitAt_2 : decode cX2_digitAt 2 = .ok (.invokevirtual 19, 3) := by decide +kernel
theorem dX2_digitAt_5 : decode cX2_digitAt 5 = .ok (.bipush 48, 2) := by decide +kernel
theorem dX2_digitAt_7 : decode cX2_digitAt 7 = .ok (.isub, 1) := by decide +kernel
theorem dX2_digitAt_8 : decode cX2_digitAt 8 = .ok (.ireturn, 1) := by decide +kernel
theorem dX2_faultPlace_0 : decode cX2_faultPlace 0 = .ok (.iconst 0, 1) := by decide +kernel
theorem dX2_faultPlace_1 : decode cX2_faultPlace 1 = .ok (.istore_n 1, 1) := by decide +kernel
theorem dX2_faultPlace_2 : decode cX2_faultPlace 2 = .ok (.iconst 0, 1) := by decide +kernel
theorem dX2_faultPlace_3 : decode cX2_faultPlace 3 = .ok (.istore_n 2, 1) := by decide +kernel
theorem dX2_faultPlace_4 : decode cX2_faultPlace 4 = .ok (.iconst 0, 1) := by decide +kernel
theorem dX2_faultPlace_5 : decode cX2_faultPlace 5 = .ok (.istore_n 3, 1) := by decide +kernel
theorem dX2_faultPlace_6 : decode cX2_faultPlace 6 = .ok (.iconst 0, 1) := by decide +kernel
theorem dX2_faultPlace_7 : decode cX2_faultPlace 7 = .ok (.istore 4, 2) := by decide +kernel
theorem dX2_faultPlace_9 : decode cX2_faultPlace 9 = .ok (.iconst 0, 1) := by decide +kernel
theorem dX2_faultPlace_10 : decode cX2_faultPlace 10 = .ok (.istore 5, 2) := by decide +kernel
theorem dX2_faultPlace_12 : decode cX2_faultPlace 12 = .ok (.iload 5, 2) := by decide +kernel
theorem dX2_faultPlace_14 : decode cX2_faultPlace 14 = .ok (.aload_n 0, 1) := by decide +kernel
theorem dX2_faultPlace_15 : decode cX2_faultPlace 15 = .ok (.getfield 15, 3) := by decide +kernel
theorem dX2_faultPlace_18 : decode cX2_faultPlace 18 = .ok (.if_icmp .ge 118, 3) := by decide +kernel
theorem dX2_faultPlace_21 : decode cX2_faultPlace 21 = .ok (.aload_n 0, 1) := by decide +kernel
theorem dX2_faultPlace_22 : decode cX2_faultPlace 22 = .ok (.iload 5, 2) := by decide +kernel
theorem dX2_faultPlace_24 : decode cX2_faultPlace 24 = .ok (.invokevirtual 19, 3) := by decide +kernel
theorem dX2_faultPlace_27 : decode cX2_faultPlace 27 = .ok (.istore 6, 2) := by decide +kernel
theorem dX2_faultPlace_29 : decode cX2_faultPlace 29 = .ok (.iload 5, 2) := by decide +kernel
theorem dX2_faultPlace_31 : decode cX2_faultPlace 31 = .ok (.ifCond .ne 13, 3) := by decide +kernel
theorem dX2_faultPlace_34 : decode cX2_faultPlace 34 = .ok (.iload 6, 2) := by decide +kernel
theorem dX2_faultPlace_36 : decode cX2_faultPlace 36 = .ok (.bipush 76, 2) := by decide +kernel
theorem dX2_faultPlace_38 : decode cX2_faultPlace 38 = .ok (.if_icmp .eq 92, 3) := by decide +kernel
theorem dX2_faultPlace_41 : decode cX2_faultPlace 41 = .ok (.iload 5, 2) := by decide +kernel
theorem dX2_faultPlace_43 : decode cX2_faultPlace 43 = .ok (.ireturn, 1) := by decide +kernel
theorem dX2_faultPlace_44 : decode cX2_faultPlace 44 = .ok (.iload_n 3, 1) := by decide +kernel
theorem dX2_faultPlace_45 : decode cX2_faultPlace 45 = .ok (.ifCond .ne 25, 3) := by decide +kernel
theorem dX2_faultPlace_48 : decode cX2_faultPlace 48 = .ok (.iload 6, 2) := by decide +kernel
theorem dX2_faultPlace_50 : decode cX2_faultPlace 50 = .ok (.iload_n 1, 1) := by decide +kernel
theorem dX2_faultPlace_51 : decode cX2_faultPlace 51 = .ok (.iload_n 2, 1) := by decide +kernel
theorem dX2_faultPlace_52 : decode cX2_faultPlace 52 = .ok (.invokestatic 23, 3) := by decide +kernel
theorem dX2_faultPlace_55 : decode cX2_faultPlace 55 = .ok (.ifCond .ne 6, 3) := by decide +kernel
theorem dX2_faultPlace_58 : decode cX2_faultPlace 58 = .ok (.iload 5, 2) := by decide +kernel
theorem dX2_faultPlace_60 : decode cX2_faultPlace 60 = .ok (.ireturn, 1) := by decide +kernel
theorem dX2_faultPlace_61 : decode cX2_faultPlace 61 = .ok (.iload 6, 2) := by decide +kernel
theorem dX2_faultPlace_63 : decode cX2_faultPlace 63 = .ok (.istore_n 3, 1) := by decide +kernel
theorem dX2_faultPlace_64 : decode cX2_faultPlace 64 = .ok (.iconst 0, 1) := by decide +kernel
theorem dX2_faultPlace_65 : decode cX2_faultPlace 65 = .ok (.istore 4, 2) := by decide +kernel
theorem dX2_faultPlace_67 : decode cX2_faultPlace 67 = .ok (.goto 63, 3) := by decide +kernel
theorem dX2_faultPlace_70 : decode cX2_faultPlace 70 = .ok (.iload 6, 2) := by decide +kernel
theorem dX2_faultPlace_72 : decode cX2_faultPlace 72 = .ok (.bipush 48, 2) := by decide +kernel
theorem dX2_faultPlace_74 : decode cX2_faultPlace 74 = .ok (.isub, 1) := by decide +kernel
theorem dX2_faultPlace_75 : decode cX2_faultPlace 75 = .ok (.iload_n 3, 1) := by decide +kernel
theorem dX2_faultPlace_76 : decode cX2_faultPlace 76 = .ok (.iload 4, 2) := by decide +kernel
theorem dX2_faultPlace_78 : decode cX2_faultPlace 78 = .ok (.iload_n 1, 1) := by decide +kernel
theorem dX2_faultPlace_79 : decode cX2_faultPlace 79 = .ok (.invokestatic 27, 3) := by decide +kernel
theorem dX2_faultPlace_82 : decode cX2_faultPlace 82 = .ok (.ifCond .ne 6, 3) := by decide +kernel
theorem dX2_faultPlace_85 : decode cX2_faultPlace 85 = .ok (.iload 5, 2) := by decide +kernel
theorem dX2_faultPlace_87 : decode cX2_faultPlace 87 = .ok (.ireturn, 1) := by decide +kernel
theorem dX2_faultPlace_88 : decode cX2_faultPlace 88 = .ok (.iinc 4 1, 3) := by decide +kernel
theorem dX2_faultPlace_91 : decode cX2_faultPlace 91 = .ok (.iload 4, 2) := by decide +kernel
theorem dX2_faultPlace_93 : decode cX2_faultPlace 93 = .ok (.iload_n 3, 1) := by decide +kernel
theorem dX2_faultPlace_94 : decode cX2_faultPlace 94 = .ok (.invokestatic 31, 3) := by decide +kernel
theorem dX2_faultPlace_97 : decode cX2_faultPlace 97 = .ok (.if_icmp .ne 33, 3) := by decide +kernel
theorem dX2_faultPlace_100 : decode cX2_faultPlace 100 = .ok (.iload_n 1, 1) := by decide +kernel
theorem dX2_faultPlace_101 : decode cX2_faultPlace 101 = .ok (.iload_n 3, 1) := by decide +kernel
theorem dX2_faultPlace_102 : decode cX2_faultPlace 102 = .ok (.bipush 87, 2) := by decide +kernel
theorem dX2_faultPlace_104 : decode cX2_faultPlace 104 = .ok (.if_icmp .ne 7, 3) := by decide +kernel
theorem dX2_faultPlace_107 : decode cX2_faultPlace 107 = .ok (.iconst 1, 1) := by decide +kernel
theorem dX2_faultPlace_108 : decode cX2_faultPlace 108 = .ok (.goto 4, 3) := by decide +kernel
theorem dX2_faultPlace_111 : decode cX2_faultPlace 111 = .ok (.iconst 0, 1) := by decide +kernel
theorem dX2_faultPlace_112 : decode cX2_faultPlace 112 = .ok (.iadd, 1) := by decide +kernel
theorem dX2_faultPlace_113 : decode cX2_faultPlace 113 = .ok (.istore_n 1, 1) := by decide +kernel
theorem dX2_faultPlace_114 : decode cX2_faultPlace 114 = .ok (.iload_n 2, 1) := by decide +kernel
theorem dX2_faultPlace_115 : decode cX2_faultPlace 115 = .ok (.iload_n 3, 1) := by decide +kernel
theorem dX2_faultPlace_116 : decode cX2_faultPlace 116 = .ok (.bipush 83, 2) := by decide +kernel
theorem dX2_faultPlace_118 : decode cX2_faultPlace 118 = .ok (.if_icmp .ne 7, 3) := by decide +kernel
theorem dX2_faultPlace_121 : decode cX2_faultPlace 121 = .ok (.iconst 1, 1) := by decide +kernel
theorem dX2_faultPlace_122 : decode cX2_faultPlace 122 = .ok (.goto 4, 3) := by decide +kernel
theorem dX2_faultPlace_125 : decode cX2_faultPlace 125 = .ok (.iconst 0, 1) := by decide +kernel
theorem dX2_faultPlace_126 : decode cX2_faultPlace 126 = .ok (.iadd, 1) := by decide +kernel
theorem dX2_faultPlace_127 : decode cX2_faultPlace 127 = .ok (.istore_n 2, 1) := by decide +kernel
theorem dX2_faultPlace_128 : decode cX2_faultPlace 128 = .ok (.iconst 0, 1) := by decide +kernel
theorem dX2_faultPlace_129 : decode cX2_faultPlace 129 = .ok (.istore_n 3, 1) := by decide +kernel
theorem dX2_faultPlace_130 : decode cX2_faultPlace 130 = .ok (.iinc 5 1, 3) := by decide +kernel
theorem dX2_faultPlace_133 : decode cX2_faultPlace 133 = .ok (.goto (-121), 3) := by decide +kernel
theorem dX2_faultPlace_136 : decode cX2_faultPlace 136 = .ok (.aload_n 0, 1) := by decide +kernel
theorem dX2_faultPlace_137 : decode cX2_faultPlace 137 = .ok (.getfield 15, 3) := by decide +kernel
theorem dX2_faultPlace_140 : decode cX2_faultPlace 140 = .ok (.ifCond .eq 7, 3) := by decide +kernel
theorem dX2_faultPlace_143 : decode cX2_faultPlace 143 = .ok (.iload_n 3, 1) := by decide +kernel
theorem dX2_faultPlace_144 : decode cX2_faultPlace 144 = .ok (.ifCond .eq 10, 3) := by decide +kernel
theorem dX2_faultPlace_147 : decode cX2_faultPlace 147 = .ok (.aload_n 0, 1) := by decide +kernel
theorem dX2_faultPlace_148 : decode cX2_faultPlace 148 = .ok (.getfield 15, 3) := by decide +kernel
theorem dX2_faultPlace_151 : decode cX2_faultPlace 151 = .ok (.goto 5, 3) := by decide +kernel
theorem dX2_faultPlace_154 : decode cX2_faultPlace 154 = .ok (.bipush (-9), 2) := by decide +kernel
theorem dX2_faultPlace_156 : decode cX2_faultPlace 156 = .ok (.ireturn, 1) := by decide +kernel
theorem dX2_digitsOf_0 : decode cX2_digitsOf 0 = .ok (.iload_n 0, 1) := by decide +kernel
theorem dX2_digitsOf_1 : decode cX2_digitsOf 1 = .ok (.bipush 87, 2) := by decide +kernel
theorem dX2_digitsOf_3 : decode cX2_digitsOf 3 = .ok (.if_icmp .ne 7, 3) := by decide +kernel
theorem dX2_digitsOf_6 : decode cX2_digitsOf 6 = .ok (.iconst 2, 1) := by decide +kernel
theorem dX2_digitsOf_7 : decode cX2_digitsOf 7 = .ok (.goto 4, 3) := by decide +kernel
theorem dX2_digitsOf_10 : decode cX2_digitsOf 10 = .ok (.iconst 4, 1) := by decide +kernel
theorem dX2_digitsOf_11 : decode cX2_digitsOf 11 = .ok (.ireturn, 1) := by decide +kernel
theorem dX2_canOpen_0 : decode cX2_canOpen 0 = .ok (.iload_n 0, 1) := by decide +kernel
theorem dX2_canOpen_1 : decode cX2_canOpen 1 = .ok (.bipush 87, 2) := by decide +kernel
theorem dX2_canOpen_3 : decode cX2_canOpen 3 = .ok (.if_icmp .ne 14, 3) := by decide +kernel
theorem dX2_canOpen_6 : decode cX2_canOpen 6 = .ok (.iload_n 1, 1) := by decide +kernel
theorem dX2_canOpen_7 : decode cX2_canOpen 7 = .ok (.iconst 4, 1) := by decide +kernel
theorem dX2_canOpen_8 : decode cX2_canOpen 8 = .ok (.if_icmp .ge 7, 3) := by decide +kernel
theorem dX2_canOpen_11 : decode cX2_canOpen 11 = .ok (.iconst 1, 1) := by decide +kernel
theorem dX2_canOpen_12 : decode cX2_canOpen 12 = .ok (.goto 4, 3) := by decide +kernel
theorem dX2_canOpen_15 : decode cX2_canOpen 15 = .ok (.iconst 0, 1) := by decide +kernel
theorem dX2_canOpen_16 : decode cX2_canOpen 16 = .ok (.ireturn, 1) := by decide +kernel
theorem dX2_canOpen_17 : decode cX2_canOpen 17 = .ok (.iload_n 0, 1) := by decide +kernel
theorem dX2_canOpen_18 : decode cX2_canOpen 18 = .ok (.bipush 83, 2) := by decide +kernel
theorem dX2_canOpen_20 : decode cX2_canOpen 20 = .ok (.if_icmp .ne 17, 3) := by decide +kernel
theorem dX2_canOpen_23 : decode cX2_canOpen 23 = .ok (.iload_n 1, 1) := by decide +kernel
theorem dX2_canOpen_24 : decode cX2_canOpen 24 = .ok (.ifCond .le 13, 3) := by decide +kernel
theorem dX2_canOpen_27 : decode cX2_canOpen 27 = .ok (.iload_n 2, 1) := by decide +kernel
theorem dX2_canOpen_28 : decode cX2_canOpen 28 = .ok (.bipush 6, 2) := by decide +kernel
theorem dX2_canOpen_30 : decode cX2_canOpen 30 = .ok (.if_icmp .ge 7, 3) := by decide +kernel
theorem dX2_canOpen_33 : decode cX2_canOpen 33 = .ok (.iconst 1, 1) := by decide +kernel
theorem dX2_canOpen_34 : decode cX2_canOpen 34 = .ok (.goto 4, 3) := by decide +kernel
theorem dX2_canOpen_37 : decode cX2_canOpen 37 = .ok (.iconst 0, 1) := by decide +kernel
theorem dX2_canOpen_38 : decode cX2_canOpen 38 = .ok (.ireturn, 1) := by decide +kernel
theorem dX2_canStand_0 : decode cX2_canStand 0 = .ok (.iload_n 1, 1) := by decide +kernel
theorem dX2_canStand_1 : decode cX2_canStand 1 = .ok (.bipush 87, 2) := by decide +kernel
theorem dX2_canStand_3 : decode cX2_canStand 3 = .ok (.if_icmp .ne 24, 3) := by decide +kernel
theorem dX2_canStand_6 : decode cX2_canStand 6 = .ok (.iload_n 2, 1) := by decide +kernel
theorem dX2_canStand_7 : decode cX2_canStand 7 = .ok (.ifCond .ne 13, 3) := by decide +kernel
theorem dX2_canStand_10 : decode cX2_canStand 10 = .ok (.iload_n 0, 1) := by decide +kernel
theorem dX2_canStand_11 : decode cX2_canStand 11 = .ok (.iconst 1, 1) := by decide +kernel
theorem dX2_canStand_12 : decode cX2_canStand 12 = .ok (.bipush 9, 2) := by decide +kernel
theorem dX2_canStand_14 : decode cX2_canStand 14 = .ok (.invokestatic 34, 3) := by decide +kernel
theorem dX2_canStand_17 : decode cX2_canStand 17 = .ok (.goto 9, 3) := by decide +kernel
theorem dX2_canStand_20 : decode cX2_canStand 20 = .ok (.iload_n 0, 1) := by decide +kernel
theorem dX2_canStand_21 : decode cX2_canStand 21 = .ok (.iconst 0, 1) := by decide +kernel
theorem dX2_canStand_22 : decode cX2_canStand 22 = .ok (.iconst 2, 1) := by decide +kernel
theorem dX2_canStand_23 : decode cX2_canStand 23 = .ok (.invokestatic 34, 3) := by decide +kernel
theorem dX2_canStand_26 : decode cX2_canStand 26 = .ok (.ireturn, 1) := by decide +kernel
theorem dX2_canStand_27 : decode cX2_canStand 27 = .ok (.iload_n 2, 1) := by decide +kernel
theorem dX2_canStand_28 : decode cX2_canStand 28 = .ok (.tableswitch 52 0 2 #[28, 35, 44], 28) := by decide +kernel
theorem dX2_canStand_56 : decode cX2_canStand 56 = .ok (.iload_n 0, 1) := by decide +kernel
theorem dX2_canStand_57 : decode cX2_canStand 57 = .ok (.iconst 0, 1) := by decide +kernel
theorem dX2_canStand_58 : decode cX2_canStand 58 = .ok (.iconst 5, 1) := by decide +kernel
theorem dX2_canStand_59 : decode cX2_canStand 59 = .ok (.invokestatic 34, 3) := by decide +kernel
theorem dX2_canStand_62 : decode cX2_canStand 62 = .ok (.ireturn, 1) := by decide +kernel
theorem dX2_canStand_63 : decode cX2_canStand 63 = .ok (.iload_n 0, 1) := by decide +kernel
theorem dX2_canStand_64 : decode cX2_canStand 64 = .ok (.iconst 0, 1) := by decide +kernel
theorem dX2_canStand_65 : decode cX2_canStand 65 = .ok (.iload_n 3, 1) := by decide +kernel
theorem dX2_canStand_66 : decode cX2_canStand 66 = .ok (.iconst 1, 1) := by decide +kernel
theorem dX2_canStand_67 : decode cX2_canStand 67 = .ok (.isub, 1) := by decide +kernel
theorem dX2_canStand_68 : decode cX2_canStand 68 = .ok (.invokestatic 34, 3) := by decide +kernel
theorem dX2_canStand_71 : decode cX2_canStand 71 = .ok (.ireturn, 1) := by decide +kernel
theorem dX2_canStand_72 : decode cX2_canStand 72 = .ok (.iload_n 0, 1) := by decide +kernel
theorem dX2_canStand_73 : decode cX2_canStand 73 = .ok (.iconst 1, 1) := by decide +kernel
theorem dX2_canStand_74 : decode cX2_canStand 74 = .ok (.bipush 9, 2) := by decide +kernel
theorem dX2_canStand_76 : decode cX2_canStand 76 = .ok (.invokestatic 34, 3) := by decide +kernel
theorem dX2_canStand_79 : decode cX2_canStand 79 = .ok (.ireturn, 1) := by decide +kernel
theorem dX2_canStand_80 : decode cX2_canStand 80 = .ok (.iload_n 0, 1) := by decide +kernel
theorem dX2_canStand_81 : decode cX2_canStand 81 = .ok (.iconst 0, 1) := by decide +kernel
theorem dX2_canStand_82 : decode cX2_canStand 82 = .ok (.iconst 3, 1) := by decide +kernel
theorem dX2_canStand_83 : decode cX2_canStand 83 = .ok (.invokestatic 34, 3) := by decide +kernel
theorem dX2_canStand_86 : decode cX2_canStand 86 = .ok (.ireturn, 1) := by decide +kernel
theorem dX3_init_0 : decode cX3_init 0 = .ok (.aload_n 0, 1) := by decide +kernel
theorem dX3_init_1 : decode cX3_init 1 = .ok (.invokespecial 3, 3) := by decide +kernel
theorem dX3_init_4 : decode cX3_init 4 = .ok (.aload_n 0, 1) := by decide +kernel
theorem dX3_init_5 : decode cX3_init 5 = .ok (.iconst 4, 1) := by decide +kernel
theorem dX3_init_6 : decode cX3_init 6 = .ok (.newarray .int, 2) := by decide +kernel
theorem dX3_init_8 : decode cX3_init 8 = .ok (.putfield 9, 3) := by decide +kernel
theorem dX3_init_11 : decode cX3_init 11 = .ok (.aload_n 0, 1) := by decide +kernel
theorem dX3_init_12 : decode cX3_init 12 = .ok (.iconst 4, 1) := by decide +kernel
theorem dX3_init_13 : decode cX3_init 13 = .ok (.newarray .int, 2) := by decide +kernel
theorem dX3_init_15 : decode cX3_init 15 = .ok (.putfield 15, 3) := by decide +kernel
theorem dX3_init_18 : decode cX3_init 18 = .ok (.return_, 1) := by decide +kernel
theorem dX3_add_0 : decode cX3_add 0 = .ok (.aload_n 0, 1) := by decide +kernel
theorem dX3_add_1 : decode cX3_add 1 = .ok (.getfield 18, 3) := by decide +kernel
theorem dX3_add_4 : decode cX3_add 4 = .ok (.ifCond .lt 57, 3) := by decide +kernel
theorem dX3_add_7 : decode cX3_add 7 = .ok (.aload_n 0, 1) := by decide +kernel
theorem dX3_add_8 : decode cX3_add 8 = .ok (.getfield 18, 3) := by decide +kernel
theorem dX3_add_11 : decode cX3_add 11 = .ok (.aload_n 0, 1) := by decide +kernel
theorem dX3_add_12 : decode cX3_add 12 = .ok (.getfield 9, 3) := by decide +kernel
theorem dX3_add_15 : decode cX3_add 15 = .ok (.arraylength, 1) := by decide +kernel
theorem dX3_add_16 : decode cX3_add 16 = .ok (.if_icmp .ge 45, 3) := by decide +kernel
theorem dX3_add_19 : decode cX3_add 19 = .ok (.aload_n 0, 1) := by decide +kernel
theorem dX3_add_20 : decode cX3_add 20 = .ok (.getfield 18, 3) := by decide +kernel
theorem dX3_add_23 : decode cX3_add 23 = .ok (.aload_n 0, 1) := by decide +kernel
theorem dX3_add_24 : decode cX3_add 24 = .ok (.getfield 15, 3) := by decide +kernel
theorem dX3_add_27 : decode cX3_add 27 = .ok (.arraylength, 1) := by decide +kernel
theorem dX3_add_28 : decode cX3_add 28 = .ok (.if_icmp .ge 33, 3) := by decide +kernel
theorem dX3_add_31 : decode cX3_add 31 = .ok (.aload_n 0, 1) := by decide +kernel
theorem dX3_add_32 : decode cX3_add 32 = .ok (.getfield 9, 3) := by decide +kernel
theorem dX3_add_35 : decode cX3_add 35 = .ok (.aload_n 0, 1) := by decide +kernel
theorem dX3_add_36 : decode cX3_add 36 = .ok (.getfield 18, 3) := by decide +kernel
theorem dX3_add_39 : decode cX3_add 39 = .ok (.iload_n 1, 1) := by decide +kernel
theorem dX3_add_40 : decode cX3_add 40 = .ok (.iastore, 1) := by decide +kernel
theorem dX3_add_41 : decode cX3_add 41 = .ok (.aload_n 0, 1) := by decide +kernel
theorem dX3_add_42 : decode cX3_add 42 = .ok (.getfield 15, 3) := by decide +kernel
theorem dX3_add_45 : decode cX3_add 45 = .ok (.aload_n 0, 1) := by decide +kernel
theorem dX3_add_46 : decode cX3_add 46 = .ok (.getfield 18, 3) := by decide +kernel
theorem dX3_add_49 : decode cX3_add 49 = .ok (.iload_n 2, 1) := by decide +kernel
theorem dX3_add_50 : decode cX3_add 50 = .ok (.iastore, 1) := by decide +kernel
theorem dX3_add_51 : decode cX3_add 51 = .ok (.aload_n 0, 1) := by decide +kernel
theorem dX3_add_52 : decode cX3_add 52 = .ok (.dup, 1) := by decide +kernel
theorem dX3_add_53 : decode cX3_add 53 = .ok (.getfield 18, 3) := by decide +kernel
theorem dX3_add_56 : decode cX3_add 56 = .ok (.iconst 1, 1) := by decide +kernel
theorem dX3_add_57 : decode cX3_add 57 = .ok (.iadd, 1) := by decide +kernel
theorem dX3_add_58 : decode cX3_add 58 = .ok (.putfield 18, 3) := by decide +kernel
theorem dX3_add_61 : decode cX3_add 61 = .ok (.return_, 1) := by decide +kernel
theorem dX3_has_0 : decode cX3_has 0 = .ok (.iload_n 1, 1) := by decide +kernel
theorem dX3_has_1 : decode cX3_has 1 = .ok (.ifCond .lt 15, 3) := by decide +kernel
theorem dX3_has_4 : decode cX3_has 4 = .ok (.iload_n 1, 1) := by decide +kernel
theorem dX3_has_5 : decode cX3_has 5 = .ok (.aload_n 0, 1) := by decide +kernel
theorem dX3_has_6 : decode cX3_has 6 = .ok (.getfield 18, 3) := by decide +kernel
theorem dX3_has_9 : decode cX3_has 9 = .ok (.if_icmp .ge 7, 3) := by decide +kernel
theorem dX3_has_12 : decode cX3_has 12 = .ok (.iconst 1, 1) := by decide +kernel
theorem dX3_has_13 : decode cX3_has 13 = .ok (.goto 4, 3) := by decide +kernel
theorem dX3_has_16 : decode cX3_has 16 = .ok (.iconst 0, 1) := by decide +kernel
theorem dX3_has_17 : decode cX3_has 17 = .ok (.ireturn, 1) := by decide +kernel
theorem dX3_depthOf_0 : decode cX3_depthOf 0 = .ok (.iload_n 1, 1) := by decide +kernel
theorem dX3_depthOf_1 : decode cX3_depthOf 1 = .ok (.ifCond .lt 21, 3) := by decide +kernel
theorem dX3_depthOf_4 : decode cX3_depthOf 4 = .ok (.iload_n 1, 1) := by decide +kernel
theorem dX3_depthOf_5 : decode cX3_depthOf 5 = .ok (.aload_n 0, 1) := by decide +kernel
theorem dX3_depthOf_6 : decode cX3_depthOf 6 = .ok (.getfield 9, 3) := by decide +kernel
theorem dX3_depthOf_9 : decode cX3_depthOf 9 = .ok (.arraylength, 1) := by decide +kernel
theorem dX3_depthOf_10 : decode cX3_depthOf 10 = .ok (.if_icmp .ge 12, 3) := by decide +kernel
theorem dX3_depthOf_13 : decode cX3_depthOf 13 = .ok (.aload_n 0, 1) := by decide +kernel
theorem dX3_depthOf_14 : decode cX3_depthOf 14 = .ok (.getfield 9, 3) := by decide +kernel
theorem dX3_depthOf_17 : decode cX3_depthOf 17 = .ok (.iload_n 1, 1) := by decide +kernel
theorem dX3_depthOf_18 : decode cX3_depthOf 18 = .ok (.iaload, 1) := by decide +kernel
theorem dX3_depthOf_19 : decode cX3_depthOf 19 = .ok (.goto 4, 3) := by decide +kernel
theorem dX3_depthOf_22 : decode cX3_depthOf 22 = .ok (.iconst 0, 1) := by decide +kernel
theorem dX3_depthOf_23 : decode cX3_depthOf 23 = .ok (.ireturn, 1) := by decide +kernel
theorem dX3_stoneOf_0 : decode cX3_stoneOf 0 = .ok (.iload_n 1, 1) := by decide +kernel
theorem dX3_stoneOf_1 : decode cX3_stoneOf 1 = .ok (.ifCond .lt 21, 3) := by decide +kernel
theorem dX3_stoneOf_4 : decode cX3_stoneOf 4 = .ok (.iload_n 1, 1) := by decide +kernel
theorem dX3_stoneOf_5 : decode cX3_stoneOf 5 = .ok (.aload_n 0, 1) := by decide +kernel
theorem dX3_stoneOf_6 : decode cX3_stoneOf 6 = .ok (.getfield 15, 3) := by decide +kernel
theorem dX3_stoneOf_9 : decode cX3_stoneOf 9 = .ok (.arraylength, 1) := by decide +kernel
theorem dX3_stoneOf_10 : decode cX3_stoneOf 10 = .ok (.if_icmp .ge 12, 3) := by decide +kernel
theorem dX3_stoneOf_13 : decode cX3_stoneOf 13 = .ok (.aload_n 0, 1) := by decide +kernel
theorem dX3_stoneOf_14 : decode cX3_stoneOf 14 = .ok (.getfield 15, 3) := by decide +kernel
theorem dX3_stoneOf_17 : decode cX3_stoneOf 17 = .ok (.iload_n 1, 1) := by decide +kernel
theorem dX3_stoneOf_18 : decode cX3_stoneOf 18 = .ok (.iaload, 1) := by decide +kernel
theorem dX3_stoneOf_19 : decode cX3_stoneOf 19 = .ok (.goto 4, 3) := by decide +kernel
theorem dX3_stoneOf_22 : decode cX3_stoneOf 22 = .ok (.iconst 0, 1) := by decide +kernel
theorem dX3_stoneOf_23 : decode cX3_stoneOf 23 = .ok (.ireturn, 1) := by decide +kernel
theorem dX3_wearIn_0 : decode cX3_wearIn 0 = .ok (.aload_n 0, 1) := by decide +kernel
theorem dX3_wearIn_1 : decode cX3_wearIn 1 = .ok (.iload_n 1, 1) := by decide +kernel
theorem dX3_wearIn_2 : decode cX3_wearIn 2 = .ok (.invokevirtual 22, 3) := by decide +kernel
theorem dX3_wearIn_5 : decode cX3_wearIn 5 = .ok (.iload_n 2, 1) := by decide +kernel
theorem dX3_wearIn_6 : decode cX3_wearIn 6 = .ok (.ifCond .eq 7, 3) := by decide +kernel
theorem dX3_wearIn_9 : decode cX3_wearIn 9 = .ok (.iconst 0, 1) := by decide +kernel
theorem dX3_wearIn_10 : decode cX3_wearIn 10 = .ok (.goto 4, 3) := by decide +kernel
theorem dX3_wearIn_13 : decode cX3_wearIn 13 = .ok (.iconst 1, 1) := by decide +kernel
theorem dX3_wearIn_14 : decode cX3_wearIn 14 = .ok (.iadd, 1) := by decide +kernel
theorem dX3_wearIn_15 : decode cX3_wearIn 15 = .ok (.ireturn, 1) := by decide +kernel
theorem dX4_init_0 : decode cX4_init 0 = .ok (.aload_n 0, 1) := by decide +kernel
theorem dX4_init_1 : decode cX4_init 1 = .ok (.invokespecial 1, 3) := by decide +kernel
theorem dX4_init_4 : decode cX4_init 4 = .ok (.aload_n 0, 1) := by decide +kernel
theorem dX4_init_5 : decode cX4_init 5 = .ok (.new 7, 3) := by decide +kernel
theorem dX4_init_8 : decode cX4_init 8 = .ok (.dup, 1) := by decide +kernel
theorem dX4_init_9 : decode cX4_init 9 = .ok (.invokespecial 9, 3) := by decide +kernel
theorem dX4_init_12 : decode cX4_init 12 = .ok (.putfield 10, 3) := by decide +kernel
theorem dX4_init_15 : decode cX4_init 15 = .ok (.aload_n 0, 1) := by decide +kernel
theorem dX4_init_16 : decode cX4_init 16 = .ok (.new 16, 3) := by decide +kernel
theorem dX4_init_19 : decode cX4_init 19 = .ok (.dup, 1) := by decide +kernel
theorem dX4_init_20 : decode cX4_init 20 = .ok (.invokespecial 18, 3) := by decide +kernel
theorem dX4_init_23 : decode cX4_init 23 = .ok (.putfield 19, 3) := by decide +kernel
theorem dX4_init_26 : decode cX4_init 26 = .ok (.aload_n 0, 1) := by decide +kernel
theorem dX4_init_27 : decode cX4_init 27 = .ok (.new 23, 3) := by decide +kernel
theorem dX4_init_30 : decode cX4_init 30 = .ok (.dup, 1) := by decide +kernel
theorem dX4_init_31 : decode cX4_init 31 = .ok (.invokespecial 25, 3) := by decide +kernel
theorem dX4_init_34 : decode cX4_init 34 = .ok (.putfield 26, 3) := by decide +kernel
theorem dX4_init_37 : decode cX4_init 37 = .ok (.aload_n 0, 1) := by decide +kernel
theorem dX4_init_38 : decode cX4_init 38 = .ok (.new 30, 3) := by decide +kernel
theorem dX4_init_41 : decode cX4_init 41 = .ok (.dup, 1) := by decide +kernel
theorem dX4_init_42 : decode cX4_init 42 = .ok (.invokespecial 32, 3) := by decide +kernel
theorem dX4_init_45 : decode cX4_init 45 = .ok (.putfield 33, 3) := by decide +kernel
theorem dX4_init_48 : decode cX4_init 48 = .ok (.aload_n 0, 1) := by decide +kernel
theorem dX4_init_49 : decode cX4_init 49 = .ok (.new 23, 3) := by decide +kernel
theorem dX4_init_52 : decode cX4_init 52 = .ok (.dup, 1) := by decide +kernel
theorem dX4_init_53 : decode cX4_init 53 = .ok (.invokespecial 25, 3) := by decide +kernel
theorem dX4_init_56 : decode cX4_init 56 = .ok (.putfield 37, 3) := by decide +kernel
theorem dX4_init_59 : decode cX4_init 59 = .ok (.aload_n 0, 1) := by decide +kernel
theorem dX4_init_60 : decode cX4_init 60 = .ok (.new 23, 3) := by decide +kernel
theorem dX4_init_63 : decode cX4_init 63 = .ok (.dup, 1) := by decide +kernel
theorem dX4_init_64 : decode cX4_init 64 = .ok (.invokespecial 25, 3) := by decide +kernel
theorem dX4_init_67 : decode cX4_init 67 = .ok (.putfield 40, 3) := by decide +kernel
theorem dX4_init_70 : decode cX4_init 70 = .ok (.aload_n 0, 1) := by decide +kernel
theorem dX4_init_71 : decode cX4_init 71 = .ok (.new 23, 3) := by decide +kernel
theorem dX4_init_74 : decode cX4_init 74 = .ok (.dup, 1) := by decide +kernel
theorem dX4_init_75 : decode cX4_init 75 = .ok (.invokespecial 25, 3) := by decide +kernel
theorem dX4_init_78 : decode cX4_init 78 = .ok (.putfield 43, 3) := by decide +kernel
theorem dX4_init_81 : decode cX4_init 81 = .ok (.aload_n 0, 1) := by decide +kernel
theorem dX4_init_82 : decode cX4_init 82 = .ok (.new 23, 3) := by decide +kernel
theorem dX4_init_85 : decode cX4_init 85 = .ok (.dup, 1) := by decide +kernel
theorem dX4_init_86 : decode cX4_init 86 = .ok (.invokespecial 25, 3) := by decide +kernel
theorem dX4_init_89 : decode cX4_init 89 = .ok (.putfield 46, 3) := by decide +kernel
theorem dX4_init_92 : decode cX4_init 92 = .ok (.aload_n 0, 1) := by decide +kernel
theorem dX4_init_93 : decode cX4_init 93 = .ok (.bipush 16, 2) := by decide +kernel
theorem dX4_init_95 : decode cX4_init 95 = .ok (.newarray .int, 2) := by decide +kernel
theorem dX4_init_97 : decode cX4_init 97 = .ok (.putfield 49, 3) := by decide +kernel
theorem dX4_init_100 : decode cX4_init 100 = .ok (.aload_n 0, 1) := by decide +kernel
theorem dX4_init_101 : decode cX4_init 101 = .ok (.bipush 16, 2) := by decide +kernel
theorem dX4_init_103 : decode cX4_init 103 = .ok (.newarray .int, 2) := by decide +kernel
theorem dX4_init_105 : decode cX4_init 105 = .ok (.putfield 53, 3) := by decide +kernel
theorem dX4_init_108 : decode cX4_init 108 = .ok (.return_, 1) := by decide +kernel
theorem dX4_write_0 : decode cX4_write 0 = .ok (.iload_n 1, 1) := by decide +kernel
theorem dX4_write_1 : decode cX4_write 1 = .ok (.ifCond .lt 10, 3) := by decide +kernel
theorem dX4_write_4 : decode cX4_write 4 = .ok (.iload_n 1, 1) := by decide +kernel
theorem dX4_write_5 : decode cX4_write 5 = .ok (.sipush 255, 3) := by decide +kernel
theorem dX4_write_8 : decode cX4_write 8 = .ok (.if_icmp .le 6, 3) := by decide +kernel
theorem dX4_write_11 : decode cX4_write 11 = .ok (.bipush (-2), 2) := by decide +kernel
theorem dX4_write_13 : decode cX4_write 13 = .ok (.ireturn, 1) := by decide +kernel
theorem dX4_write_14 : decode cX4_write 14 = .ok (.aload_n 0, 1) := by decide +kernel
theorem dX4_write_15 : decode cX4_write 15 = .ok (.getfield 10, 3) := by decide +kernel
theorem dX4_write_18 : decode cX4_write 18 = .ok (.iload_n 1, 1) := by decide +kernel
theorem dX4_write_19 : decode cX4_write 19 = .ok (.invokevirtual 56, 3) := by decide +kernel
theorem dX4_write_22 : decode cX4_write 22 = .ok (.ifCond .eq 13, 3) := by decide +kernel
theorem dX4_write_25 : decode cX4_write 25 = .ok (.aload_n 0, 1) := by decide +kernel
theorem dX4_write_26 : decode cX4_write 26 = .ok (.getfield 10, 3) := by decide +kernel
theorem dX4_write_29 : decode cX4_write 29 = .ok (.getfield 60, 3) := by decide +kernel
theorem dX4_write_32 : decode cX4_write 32 = .ok (.goto 5, 3) := by decide +kernel
theorem dX4_write_35 : decode cX4_write 35 = .ok (.bipush (-4), 2) := by decide +kernel
theorem dX4_write_37 : decode cX4_write 37 = .ok (.ireturn, 1) := by decide +kernel
theorem dX4_wipe_0 : decode cX4_wipe 0 = .ok (.aload_n 0, 1) := by decide +kernel
theorem dX4_wipe_1 : decode cX4_wipe 1 = .ok (.getfield 10, 3) := by decide +kernel
theorem dX4_wipe_4 : decode cX4_wipe 4 = .ok (.getfield 60, 3) := by decide +kernel
theorem dX4_wipe_7 : decode cX4_wipe 7 = .ok (.istore_n 1, 1) := by decide +kernel
theorem dX4_wipe_8 : decode cX4_wipe 8 = .ok (.aload_n 0, 1) := by decide +kernel
theorem dX4_wipe_9 : decode cX4_wipe 9 = .ok (.getfield 10, 3) := by decide +kernel
theorem dX4_wipe_12 : decode cX4_wipe 12 = .ok (.iconst 0, 1) := by decide +kernel
theorem dX4_wipe_13 : decode cX4_wipe 13 = .ok (.putfield 60, 3) := by decide +kernel
theorem dX4_wipe_16 : decode cX4_wipe 16 = .ok (.iload_n 1, 1) := by decide +kernel
theorem dX4_wipe_17 : decode cX4_wipe 17 = .ok (.ireturn, 1) := by decide +kernel
theorem dX4_fault_0 : decode cX4_fault 0 = .ok (.aload_n 0, 1) := by decide +kernel
theorem dX4_fault_1 : decode cX4_fault 1 = .ok (.getfield 10, 3) := by decide +kernel
theorem dX4_fault_4 : decode cX4_fault 4 = .ok (.invokevirtual 64, 3) := by decide +kernel
theorem dX4_fault_7 : decode cX4_fault 7 = .ok (.ireturn, 1) := by decide +kernel
theorem dX4_land_0 : decode cX4_land 0 = .ok (.aload_n 0, 1) := by decide +kernel
theorem dX4_land_1 : decode cX4_land 1 = .ok (.getfield 10, 3) := by decide +kernel
theorem dX4_land_4 : decode cX4_land 4 = .ok (.invokevirtual 64, 3) := by decide +kernel
theorem dX4_land_7 : decode cX4_land 7 = .ok (.bipush (-9), 2) := by decide +kernel
theorem dX4_land_9 : decode cX4_land 9 = .ok (.if_icmp .eq 6, 3) := by decide +kernel
theorem dX4_land_12 : decode cX4_land 12 = .ok (.bipush (-3), 2) := by decide +kernel
theorem dX4_land_14 : decode cX4_land 14 = .ok (.ireturn, 1) := by decide +kernel
theorem dX4_land_15 : decode cX4_land 15 = .ok (.aload_n 0, 1) := by decide +kernel
theorem dX4_land_16 : decode cX4_land 16 = .ok (.getfield 19, 3) := by decide +kernel
theorem dX4_land_19 : decode cX4_land 19 = .ok (.iconst 0, 1) := by decide +kernel
theorem dX4_land_20 : decode cX4_land 20 = .ok (.putfield 68, 3) := by decide +kernel
theorem dX4_land_23 : decode cX4_land 23 = .ok (.aload_n 0, 1) := by decide +kernel
theorem dX4_land_24 : decode cX4_land 24 = .ok (.getfield 26, 3) := by decide +kernel
theorem dX4_land_27 : decode cX4_land 27 = .ok (.invokevirtual 71, 3) := by decide +kernel
theorem dX4_land_30 : decode cX4_land 30 = .ok (.aload_n 0, 1) := by decide +kernel
theorem dX4_land_31 : decode cX4_land 31 = .ok (.getfield 33, 3) := by decide +kernel
theorem dX4_land_34 : decode cX4_land 34 = .ok (.iconst 0, 1) := by decide +kernel
theorem dX4_land_35 : decode cX4_land 35 = .ok (.putfield 74, 3) := by decide +kernel
theorem dX4_land_38 : decode cX4_land 38 = .ok (.aload_n 0, 1) := by decide +kernel
theorem dX4_land_39 : decode cX4_land 39 = .ok (.iconst 0, 1) := by decide +kernel
theorem dX4_land_40 : decode cX4_land 40 = .ok (.putfield 75, 3) := by decide +kernel
theorem dX4_land_43 : decode cX4_land 43 = .ok (.iconst 1, 1) := by decide +kernel
theorem dX4_land_44 : decode cX4_land 44 = .ok (.istore_n 1, 1) := by decide +kernel
theorem dX4_land_45 : decode cX4_land 45 = .ok (.iload_n 1, 1) := by decide +kernel
theorem dX4_land_46 : decode cX4_land 46 = .ok (.aload_n 0, 1) := by decide +kernel
theorem dX4_land_47 : decode cX4_land 47 = .ok (.getfield 10, 3) := by decide +kernel
theorem dX4_land_50 : decode cX4_land 50 = .ok (.getfield 60, 3) := by decide +kernel
theorem dX4_land_53 : decode cX4_land 53 = .ok (.if_icmp .ge 14, 3) := by decide +kernel
theorem dX4_land_56 : decode cX4_land 56 = .ok (.aload_n 0, 1) := by decide +kernel
theorem dX4_land_57 : decode cX4_land 57 = .ok (.iload_n 1, 1) := by decide +kernel
theorem dX4_land_58 : decode cX4_land 58 = .ok (.invokevirtual 78, 3) := by decide +kernel
theorem dX4_land_61 : decode cX4_land 61 = .ok (.iinc 1 1, 3) := by decide +kernel
theorem dX4_land_64 : decode cX4_land 64 = .ok (.goto (-19), 3) := by decide +kernel
theorem dX4_land_67 : decode cX4_land 67 = .ok (.aload_n 0, 1) := by decide +kernel
theorem dX4_land_68 : decode cX4_land 68 = .ok (.aload_n 0, 1) := by decide +kernel
theorem dX4_land_69 : decode cX4_land 69 = .ok (.getfield 26, 3) := by decide +kernel
theorem dX4_land_72 : decode cX4_land 72 = .ok (.invokevirtual 82, 3) := by decide +kernel
theorem dX4_land_75 : decode cX4_land 75 = .ok (.putfield 85, 3) := by decide +kernel
theorem dX4_land_78 : decode cX4_land 78 = .ok (.bipush 10, 2) := by decide +kernel
theorem dX4_land_80 : decode cX4_land 80 = .ok (.aload_n 0, 1) := by decide +kernel
theorem dX4_land_81 : decode cX4_land 81 = .ok (.getfield 19, 3) := by decide +kernel
theorem dX4_land_84 : decode cX4_land 84 = .ok (.getfield 68, 3) := by decide +kernel
theorem dX4_land_87 : decode cX4_land 87 = .ok (.imul, 1) := by decide +kernel
theorem dX4_land_88 : decode cX4_land 88 = .ok (.aload_n 0, 1) := by decide +kernel
theorem dX4_land_89 : decode cX4_land 89 = .ok (.getfield 26, 3) := by decide +kernel
theorem dX4_land_92 : decode cX4_land 92 = .ok (.getfield 88, 3) := by decide +kernel
theorem dX4_land_95 : decode cX4_land 95 = .ok (.iadd, 1) := by decide +kernel
theorem dX4_land_96 : decode cX4_land 96 = .ok (.ireturn, 1) := by decide +kernel
theorem dX4_tellPart_0 : decode cX4_tellPart 0 = .ok (.aload_n 0, 1) := by decide +kernel
theorem dX4_tellPart_1 : decode cX4_tellPart 1 = .ok (.getfield 10, 3) := by decide +kernel
theorem dX4_tellPart_4 : decode cX4_tellPart 4 = .ok (.iload_n 1, 1) := by decide +kernel
theorem dX4_tellPart_5 : decode cX4_tellPart 5 = .ok (.invokevirtual 89, 3) := by decide +kernel
theorem dX4_tellPart_8 : decode cX4_tellPart 8 = .ok (.istore_n 2, 1) := by decide +kernel
theorem dX4_tellPart_9 : decode cX4_tellPart 9 = .ok (.iload_n 2, 1) := by decide +kernel
theorem dX4_tellPart_10 : decode cX4_tellPart 10 = .ok (.bipush 87, 2) := by decide +kernel
theorem dX4_tellPart_12 : decode cX4_tellPart 12 = .ok (.if_icmp .ne 33, 3) := by decide +kernel
theorem dX4_tellPart_15 : decode cX4_tellPart 15 = .ok (.aload_n 0, 1) := by decide +kernel
theorem dX4_tellPart_16 : decode cX4_tellPart 16 = .ok (.getfield 19, 3) := by decide +kernel
theorem dX4_tellPart_19 : decode cX4_tellPart 19 = .ok (.aload_n 0, 1) := by decide +kernel
theorem dX4_tellPart_20 : decode cX4_tellPart 20 = .ok (.getfield 10, 3) := by decide +kernel
theorem dX4_tellPart_23 : decode cX4_tellPart 23 = .ok (.iload_n 1, 1) := by decide +kernel
theorem dX4_tellPart_24 : decode cX4_tellPart 24 = .ok (.iconst 1, 1) := by decide +kernel
theorem dX4_tellPart_25 : decode cX4_tellPart 25 = .ok (.iadd, 1) := by decide +kernel
theorem dX4_tellPart_26 : decode cX4_tellPart 26 = .ok (.invokevirtual 93, 3) := by decide +kernel
theorem dX4_tellPart_29 : decode cX4_tellPart 29 = .ok (.aload_n 0, 1) := by decide +kernel
theorem dX4_tellPart_30 : decode cX4_tellPart 30 = .ok (.getfield 10, 3) := by decide +kernel
theorem dX4_tellPart_33 : decode cX4_tellPart 33 = .ok (.iload_n 1, 1) := by decide +kernel
theorem dX4_tellPart_34 : decode cX4_tellPart 34 = .ok (.iconst 2, 1) := by decide +kernel
theorem dX4_tellPart_35 : decode cX4_tellPart 35 = .ok (.iadd, 1) := by decide +kernel
theorem dX4_tellPart_36 : decode cX4_tellPart 36 = .ok (.invokevirtual 93, 3) := by decide +kernel
theorem dX4_tellPart_39 : decode cX4_tellPart 39 = .ok (.invokevirtual 96, 3) := by decide +kernel
theorem dX4_tellPart_42 : decode cX4_tellPart 42 = .ok (.goto 58, 3) := by decide +kernel
theorem dX4_tellPart_45 : decode cX4_tellPart 45 = .ok (.iload_n 2, 1) := by decide +kernel
theorem dX4_tellPart_46 : decode cX4_tellPart 46 = .ok (.bipush 83, 2) := by decide +kernel
theorem dX4_tellPart_48 : decode cX4_tellPart 48 = .ok (.if_icmp .ne 52, 3) := by decide +kernel
theorem dX4_tellPart_51 : decode cX4_tellPart 51 = .ok (.aload_n 0, 1) := by decide +kernel
theorem dX4_tellPart_52 : decode cX4_tellPart 52 = .ok (.getfield 26, 3) := by decide +kernel
theorem dX4_tellPart_55 : decode cX4_tellPart 55 = .ok (.aload_n 0, 1) := by decide +kernel
theorem dX4_tellPart_56 : decode cX4_tellPart 56 = .ok (.getfield 10, 3) := by decide +kernel
theorem dX4_tellPart_59 : decode cX4_tellPart 59 = .ok (.iload_n 1, 1) := by decide +kernel
theorem dX4_tellPart_60 : decode cX4_tellPart 60 = .ok (.iconst 1, 1) := by decide +kernel
theorem dX4_tellPart_61 : decode cX4_tellPart 61 = .ok (.iadd, 1) := by decide +kernel
theorem dX4_tellPart_62 : decode cX4_tellPart 62 = .ok (.invokevirtual 93, 3) := by decide +kernel
theorem dX4_tellPart_65 : decode cX4_tellPart 65 = .ok (.aload_n 0, 1) := by decide +kernel
theorem dX4_tellPart_66 : decode cX4_tellPart 66 = .ok (.getfield 10, 3) := by decide +kernel
theorem dX4_tellPart_69 : decode cX4_tellPart 69 = .ok (.iload_n 1, 1) := by decide +kernel
theorem dX4_tellPart_70 : decode cX4_tellPart 70 = .ok (.iconst 2, 1) := by decide +kernel
theorem dX4_tellPart_71 : decode cX4_tellPart 71 = .ok (.iadd, 1) := by decide +kernel
theorem dX4_tellPart_72 : decode cX4_tellPart 72 = .ok (.invokevirtual 93, 3) := by decide +kernel
theorem dX4_tellPart_75 : decode cX4_tellPart 75 = .ok (.aload_n 0, 1) := by decide +kernel
theorem dX4_tellPart_76 : decode cX4_tellPart 76 = .ok (.getfield 10, 3) := by decide +kernel
theorem dX4_tellPart_79 : decode cX4_tellPart 79 = .ok (.iload_n 1, 1) := by decide +kernel
theorem dX4_tellPart_80 : decode cX4_tellPart 80 = .ok (.iconst 3, 1) := by decide +kernel
theorem dX4_tellPart_81 : decode cX4_tellPart 81 = .ok (.iadd, 1) := by decide +kernel
theorem dX4_tellPart_82 : decode cX4_tellPart 82 = .ok (.invokevirtual 93, 3) := by decide +kernel
theorem dX4_tellPart_85 : decode cX4_tellPart 85 = .ok (.aload_n 0, 1) := by decide +kernel
theorem dX4_tellPart_86 : decode cX4_tellPart 86 = .ok (.getfield 10, 3) := by decide +kernel
theorem dX4_tellPart_89 : decode cX4_tellPart 89 = .ok (.iload_n 1, 1) := by decide +kernel
theorem dX4_tellPart_90 : decode cX4_tellPart 90 = .ok (.iconst 4, 1) := by decide +kernel
theorem dX4_tellPart_91 : decode cX4_tellPart 91 = .ok (.iadd, 1) := by decide +kernel
theorem dX4_tellPart_92 : decode cX4_tellPart 92 = .ok (.invokevirtual 93, 3) := by decide +kernel
theorem dX4_tellPart_95 : decode cX4_tellPart 95 = .ok (.iconst 0, 1) := by decide +kernel
theorem dX4_tellPart_96 : decode cX4_tellPart 96 = .ok (.invokevirtual 100, 3) := by decide +kernel
theorem dX4_tellPart_99 : decode cX4_tellPart 99 = .ok (.pop, 1) := by decide +kernel
theorem dX4_tellPart_100 : decode cX4_tellPart 100 = .ok (.return_, 1) := by decide +kernel
theorem dX4_about_0 : decode cX4_about 0 = .ok (.iload_n 1, 1) := by decide +kernel
theorem dX4_about_1 : decode cX4_about 1 = .ok (.tableswitch 120 0 8 #[51, 59, 67, 75, 83, 91, 96, 104, 112], 51) := by decide +kernel
theorem dX4_about_52 : decode cX4_about 52 = .ok (.aload_n 0, 1) := by decide +kernel
theorem dX4_about_53 : decode cX4_about 53 = .ok (.getfield 19, 3) := by decide +kernel
theorem dX4_about_56 : decode cX4_about 56 = .ok (.getfield 68, 3) := by decide +kernel
theorem dX4_about_59 : decode cX4_about 59 = .ok (.ireturn, 1) := by decide +kernel
theorem dX4_about_60 : decode cX4_about 60 = .ok (.aload_n 0, 1) := by decide +kernel
theorem dX4_about_61 : decode cX4_about 61 = .ok (.getfield 26, 3) := by decide +kernel
theorem dX4_about_64 : decode cX4_about 64 = .ok (.getfield 88, 3) := by decide +kernel
theorem dX4_about_67 : decode cX4_about 67 = .ok (.ireturn, 1) := by decide +kernel
theorem dX4_about_68 : decode cX4_about 68 = .ok (.aload_n 0, 1) := by decide +kernel
theorem dX4_about_69 : decode cX4_about 69 = .ok (.getfield 26, 3) := by decide +kernel
theorem dX4_about_72 : decode cX4_about 72 = .ok (.getfield 103, 3) := by decide +kernel
theorem dX4_about_75 : decode cX4_about 75 = .ok (.ireturn, 1) := by decide +kernel
theorem dX4_about_76 : decode cX4_about 76 = .ok (.aload_n 0, 1) := by decide +kernel
theorem dX4_about_77 : decode cX4_about 77 = .ok (.getfield 26, 3) := by decide +kernel
theorem dX4_about_80 : decode cX4_about 80 = .ok (.getfield 106, 3) := by decide +kernel
theorem dX4_about_83 : decode cX4_about 83 = .ok (.ireturn, 1) := by decide +kernel
theorem dX4_about_84 : decode cX4_about 84 = .ok (.aload_n 0, 1) := by decide +kernel
theorem dX4_about_85 : decode cX4_about 85 = .ok (.getfield 26, 3) := by decide +kernel
theorem dX4_about_88 : decode cX4_about 88 = .ok (.getfield 109, 3) := by decide +kernel
theorem dX4_about_91 : decode cX4_about 91 = .ok (.ireturn, 1) := by decide +kernel
theorem dX4_about_92 : decode cX4_about 92 = .ok (.aload_n 0, 1) := by decide +kernel
theorem dX4_about_93 : decode cX4_about 93 = .ok (.getfield 85, 3) := by decide +kernel
theorem dX4_about_96 : decode cX4_about 96 = .ok (.ireturn, 1) := by decide +kernel
theorem dX4_about_97 : decode cX4_about 97 = .ok (.aload_n 0, 1) := by decide +kernel
theorem dX4_about_98 : decode cX4_about 98 = .ok (.getfield 26, 3) := by decide +kernel
theorem dX4_about_101 : decode cX4_about 101 = .ok (.invokevirtual 82, 3) := by decide +kernel
theorem dX4_about_104 : decode cX4_about 104 = .ok (.ireturn, 1) := by decide +kernel
theorem dX4_about_105 : decode cX4_about 105 = .ok (.aload_n 0, 1) := by decide +kernel
theorem dX4_about_106 : decode cX4_about 106 = .ok (.getfield 33, 3) := by decide +kernel
theorem dX4_about_109 : decode cX4_about 109 = .ok (.getfield 74, 3) := by decide +kernel
theorem dX4_about_112 : decode cX4_about 112 = .ok (.ireturn, 1) := by decide +kernel
theorem dX4_about_113 : decode cX4_about 113 = .ok (.aload_n 0, 1) := by decide +kernel
theorem dX4_about_114 : decode cX4_about 114 = .ok (.getfield 10, 3) := by decide +kernel
theorem dX4_about_117 : decode cX4_about 117 = .ok (.getfield 60, 3) := by decide +kernel
theorem dX4_about_120 : decode cX4_about 120 = .ok (.ireturn, 1) := by decide +kernel
theorem dX4_about_121 : decode cX4_about 121 = .ok (.bipush (-2), 2) := by decide +kernel
theorem dX4_about_123 : decode cX4_about 123 = .ok (.ireturn, 1) := by decide +kernel
theorem dX4_well_0 : decode cX4_well 0 = .ok (.aload_n 0, 1) := by decide +kernel
theorem dX4_well_1 : decode cX4_well 1 = .ok (.getfield 19, 3) := by decide +kernel
theorem dX4_well_4 : decode cX4_well 4 = .ok (.iload_n 1, 1) := by decide +kernel
theorem dX4_well_5 : decode cX4_well 5 = .ok (.invokevirtual 112, 3) := by decide +kernel
theorem dX4_well_8 : decode cX4_well 8 = .ok (.ifCond .ne 5, 3) := by decide +kernel
theorem dX4_well_11 : decode cX4_well 11 = .ok (.iconst (-1), 1) := by decide +kernel
theorem dX4_well_12 : decode cX4_well 12 = .ok (.ireturn, 1) := by decide +kernel
theorem dX4_well_13 : decode cX4_well 13 = .ok (.iload_n 2, 1) := by decide +kernel
theorem dX4_well_14 : decode cX4_well 14 = .ok (.tableswitch 74 0 3 #[30, 39, 48, 65], 30) := by decide +kernel
theorem dX4_well_44 : decode cX4_well 44 = .ok (.aload_n 0, 1) := by decide +kernel
theorem dX4_well_45 : decode cX4_well 45 = .ok (.getfield 19, 3) := by decide +kernel
theorem dX4_well_48 : decode cX4_well 48 = .ok (.iload_n 1, 1) := by decide +kernel
theorem dX4_well_49 : decode cX4_well 49 = .ok (.invokevirtual 115, 3) := by decide +kernel
theorem dX4_well_52 : decode cX4_well 52 = .ok (.ireturn, 1) := by decide +kernel
theorem dX4_well_53 : decode cX4_well 53 = .ok (.aload_n 0, 1) := by decide +kernel
theorem dX4_well_54 : decode cX4_well 54 = .ok (.getfield 19, 3) := by decide +kernel
theorem dX4_well_57 : decode cX4_well 57 = .ok (.iload_n 1, 1) := by decide +kernel
theorem dX4_well_58 : decode cX4_well 58 = .ok (.invokevirtual 118, 3) := by decide +kernel
theorem dX4_well_61 : decode cX4_well 61 = .ok (.ireturn, 1) := by decide +kernel
theorem dX4_well_62 : decode cX4_well 62 = .ok (.aload_n 0, 1) := by decide +kernel
theorem dX4_well_63 : decode cX4_well 63 = .ok (.getfield 26, 3) := by decide +kernel
theorem dX4_well_66 : decode cX4_well 66 = .ok (.iload_n 1, 1) := by decide +kernel
theorem dX4_well_67 : decode cX4_well 67 = .ok (.invokevirtual 121, 3) := by decide +kernel
theorem dX4_well_70 : decode cX4_well 70 = .ok (.ifCond .eq 7, 3) := by decide +kernel
theorem dX4_well_73 : decode cX4_well 73 = .ok (.iconst 1, 1) := by decide +kernel
theorem dX4_well_74 : decode cX4_well 74 = .ok (.goto 4, 3) := by decide +kernel
theorem dX4_well_77 : decode cX4_well 77 = .ok (.iconst 0, 1) := by decide +kernel
theorem dX4_well_78 : decode cX4_well 78 = .ok (.ireturn, 1) := by decide +kernel
theorem dX4_well_79 : decode cX4_well 79 = .ok (.aload_n 0, 1) := by decide +kernel
theorem dX4_well_80 : decode cX4_well 80 = .ok (.getfield 26, 3) := by decide +kernel
theorem dX4_well_83 : decode cX4_well 83 = .ok (.iload_n 1, 1) := by decide +kernel
theorem dX4_well_84 : decode cX4_well 84 = .ok (.invokevirtual 124, 3) := by decide +kernel
theorem dX4_well_87 : decode cX4_well 87 = .ok (.ireturn, 1) := by decide +kernel
theorem dX4_well_88 : decode cX4_well 88 = .ok (.bipush (-2), 2) := by decide +kernel
theorem dX4_well_90 : decode cX4_well 90 = .ok (.ireturn, 1) := by decide +kernel
theorem dX4_song_0 : decode cX4_song 0 = .ok (.aload_n 0, 1) := by decide +kernel
theorem dX4_song_1 : decode cX4_song 1 = .ok (.getfield 26, 3) := by decide +kernel
theorem dX4_song_4 : decode cX4_song 4 = .ok (.iload_n 1, 1) := by decide +kernel
theorem dX4_song_5 : decode cX4_song 5 = .ok (.invokevirtual 127, 3) := by decide +kernel
theorem dX4_song_8 : decode cX4_song 8 = .ok (.ifCond .ne 5, 3) := by decide +kernel
theorem dX4_song_11 : decode cX4_song 11 = .ok (.iconst (-1), 1) := by decide +kernel
theorem dX4_song_12 : decode cX4_song 12 = .ok (.ireturn, 1) := by decide +kernel
theorem dX4_song_13 : decode cX4_song 13 = .ok (.iload_n 2, 1) := by decide +kernel
theorem dX4_song_14 : decode cX4_song 14 = .ok (.iconst 0, 1) := by decide +kernel
theorem dX4_song_15 : decode cX4_song 15 = .ok (.iconst 5, 1) := by decide +kernel
theorem dX4_song_16 : decode cX4_song 16 = .ok (.invokestatic 128, 3) := by decide +kernel
theorem dX4_song_19 : decode cX4_song 19 = .ok (.ifCond .eq 15, 3) := by decide +kernel
theorem dX4_song_22 : decode cX4_song 22 = .ok (.aload_n 0, 1) := by decide +kernel
theorem dX4_song_23 : decode cX4_song 23 = .ok (.getfield 26, 3) := by decide +kernel
theorem dX4_song_26 : decode cX4_song 26 = .ok (.iload_n 1, 1) := by decide +kernel
theorem dX4_song_27 : decode cX4_song 27 = .ok (.iload_n 2, 1) := by decide +kernel
theorem dX4_song_28 : decode cX4_song 28 = .ok (.invokevirtual 132, 3) := by decide +kernel
theorem dX4_song_31 : decode cX4_song 31 = .ok (.goto 5, 3) := by decide +kernel
theorem dX4_song_34 : decode cX4_song 34 = .ok (.bipush (-2), 2) := by decide +kernel
theorem dX4_song_36 : decode cX4_song 36 = .ok (.ireturn, 1) := by decide +kernel
theorem dX4_year_0 : decode cX4_year 0 = .ok (.aload_n 0, 1) := by decide +kernel
theorem dX4_year_1 : decode cX4_year 1 = .ok (.getfield 33, 3) := by decide +kernel
theorem dX4_year_4 : decode cX4_year 4 = .ok (.aload_n 0, 1) := by decide +kernel
theorem dX4_year_5 : decode cX4_year 5 = .ok (.getfield 26, 3) := by decide +kernel
theorem dX4_year_8 : decode cX4_year 8 = .ok (.invokevirtual 136, 3) := by decide +kernel
theorem dX4_year_11 : decode cX4_year 11 = .ok (.aload_n 0, 1) := by decide +kernel
theorem dX4_year_12 : decode cX4_year 12 = .ok (.getfield 26, 3) := by decide +kernel
theorem dX4_year_15 : decode cX4_year 15 = .ok (.aload_n 0, 1) := by decide +kernel
theorem dX4_year_16 : decode cX4_year 16 = .ok (.getfield 19, 3) := by decide +kernel
theorem dX4_year_19 : decode cX4_year 19 = .ok (.invokevirtual 140, 3) := by decide +kernel
theorem dX4_year_22 : decode cX4_year 22 = .ok (.ireturn, 1) := by decide +kernel
theorem dX4_sing_0 : decode cX4_sing 0 = .ok (.aload_n 0, 1) := by decide +kernel
theorem dX4_sing_1 : decode cX4_sing 1 = .ok (.getfield 26, 3) := by decide +kernel
theorem dX4_sing_4 : decode cX4_sing 4 = .ok (.iload_n 1, 1) := by decide +kernel
theorem dX4_sing_5 : decode cX4_sing 5 = .ok (.invokevirtual 127, 3) := by decide +kernel
theorem dX4_sing_8 : decode cX4_sing 8 = .ok (.ifCond .ne 5, 3) := by decide +kernel
theorem dX4_sing_11 : decode cX4_sing 11 = .ok (.iconst (-1), 1) := by decide +kernel
theorem dX4_sing_12 : decode cX4_sing 12 = .ok (.ireturn, 1) := by decide +kernel
theorem dX4_sing_13 : decode cX4_sing 13 = .ok (.iload_n 2, 1) := by decide +kernel
theorem dX4_sing_14 : decode cX4_sing 14 = .ok (.iconst 0, 1) := by decide +kernel
theorem dX4_sing_15 : decode cX4_sing 15 = .ok (.iconst 1, 1) := by decide +kernel
theorem dX4_sing_16 : decode cX4_sing 16 = .ok (.invokestatic 128, 3) := by decide +kernel
theorem dX4_sing_19 : decode cX4_sing 19 = .ok (.ifCond .eq 23, 3) := by decide +kernel
theorem dX4_sing_22 : decode cX4_sing 22 = .ok (.iload_n 3, 1) := by decide +kernel
theorem dX4_sing_23 : decode cX4_sing 23 = .ok (.iconst 1, 1) := by decide +kernel
theorem dX4_sing_24 : decode cX4_sing 24 = .ok (.bipush 9, 2) := by decide +kernel
theorem dX4_sing_26 : decode cX4_sing 26 = .ok (.invokestatic 128, 3) := by decide +kernel
theorem dX4_sing_29 : decode cX4_sing 29 = .ok (.ifCond .eq 13, 3) := by decide +kernel
theorem dX4_sing_32 : decode cX4_sing 32 = .ok (.iload 4, 2) := by decide +kernel
theorem dX4_sing_34 : decode cX4_sing 34 = .ok (.iconst 0, 1) := by decide +kernel
theorem dX4_sing_35 : decode cX4_sing 35 = .ok (.iconst 3, 1) := by decide +kernel
theorem dX4_sing_36 : decode cX4_sing 36 = .ok (.invokestatic 128, 3) := by decide +kernel
theorem dX4_sing_39 : decode cX4_sing 39 = .ok (.ifCond .ne 6, 3) := by decide +kernel
theorem dX4_sing_42 : decode cX4_sing 42 = .ok (.bipush (-2), 2) := by decide +kernel
theorem dX4_sing_44 : decode cX4_sing 44 = .ok (.ireturn, 1) := by decide +kernel
theorem dX4_sing_45 : decode cX4_sing 45 = .ok (.aload_n 0, 1) := by decide +kernel
theorem dX4_sing_46 : decode cX4_sing 46 = .ok (.getfield 26, 3) := by decide +kernel
theorem dX4_sing_49 : decode cX4_sing 49 = .ok (.iload_n 1, 1) := by decide +kernel
theorem dX4_sing_50 : decode cX4_sing 50 = .ok (.iload_n 2, 1) := by decide +kernel
theorem dX4_sing_51 : decode cX4_sing 51 = .ok (.aload_n 0, 1) := by decide +kernel
theorem dX4_sing_52 : decode cX4_sing 52 = .ok (.getfield 19, 3) := by decide +kernel
theorem dX4_sing_55 : decode cX4_sing 55 = .ok (.invokevirtual 144, 3) := by decide +kernel
theorem dX4_sing_58 : decode cX4_sing 58 = .ok (.ifCond .ne 6, 3) := by decide +kernel
theorem dX4_sing_61 : decode cX4_sing 61 = .ok (.bipush (-3), 2) := by decide +kernel
theorem dX4_sing_63 : decode cX4_sing 63 = .ok (.ireturn, 1) := by decide +kernel
theorem dX4_sing_64 : decode cX4_sing 64 = .ok (.aload_n 0, 1) := by decide +kernel
theorem dX4_sing_65 : decode cX4_sing 65 = .ok (.getfield 26, 3) := by decide +kernel
theorem dX4_sing_68 : decode cX4_sing 68 = .ok (.getfield 88, 3) := by decide +kernel
theorem dX4_sing_71 : decode cX4_sing 71 = .ok (.bipush 8, 2) := by decide +kernel
theorem dX4_sing_73 : decode cX4_sing 73 = .ok (.if_icmp .lt 6, 3) := by decide +kernel
theorem dX4_sing_76 : decode cX4_sing 76 = .ok (.bipush (-4), 2) := by decide +kernel
theorem dX4_sing_78 : decode cX4_sing 78 = .ok (.ireturn, 1) := by decide +kernel
theorem dX4_sing_79 : decode cX4_sing 79 = .ok (.aload_n 0, 1) := by decide +kernel
theorem dX4_sing_80 : decode cX4_sing 80 = .ok (.getfield 33, 3) := by decide +kernel
theorem dX4_sing_83 : decode cX4_sing 83 = .ok (.aload_n 0, 1) := by decide +kernel
theorem dX4_sing_84 : decode cX4_sing 84 = .ok (.getfield 26, 3) := by decide +kernel
theorem dX4_sing_87 : decode cX4_sing 87 = .ok (.invokevirtual 136, 3) := by decide +kernel
theorem dX4_sing_90 : decode cX4_sing 90 = .ok (.aload_n 0, 1) := by decide +kernel
theorem dX4_sing_91 : decode cX4_sing 91 = .ok (.getfield 26, 3) := by decide +kernel
theorem dX4_sing_94 : decode cX4_sing 94 = .ok (.iload_n 1, 1) := by decide +kernel
theorem dX4_sing_95 : decode cX4_sing 95 = .ok (.iload_n 2, 1) := by decide +kernel
theorem dX4_sing_96 : decode cX4_sing 96 = .ok (.iload_n 3, 1) := by decide +kernel
theorem dX4_sing_97 : decode cX4_sing 97 = .ok (.iload 4, 2) := by decide +kernel
theorem dX4_sing_99 : decode cX4_sing 99 = .ok (.aload_n 0, 1) := by decide +kernel
theorem dX4_sing_100 : decode cX4_sing 100 = .ok (.getfield 19, 3) := by decide +kernel
theorem dX4_sing_103 : decode cX4_sing 103 = .ok (.invokevirtual 148, 3) := by decide +kernel
theorem dX4_sing_106 : decode cX4_sing 106 = .ok (.ireturn, 1) := by decide +kernel
theorem dX4_lid_0 : decode cX4_lid 0 = .ok (.aload_n 0, 1) := by decide +kernel
theorem dX4_lid_1 : decode cX4_lid 1 = .ok (.getfield 19, 3) := by decide +kernel
theorem dX4_lid_4 : decode cX4_lid 4 = .ok (.iload_n 1, 1) := by decide +kernel
theorem dX4_lid_5 : decode cX4_lid 5 = .ok (.invokevirtual 112, 3) := by decide +kernel
theorem dX4_lid_8 : decode cX4_lid 8 = .ok (.ifCond .ne 5, 3) := by decide +kernel
theorem dX4_lid_11 : decode cX4_lid 11 = .ok (.iconst (-1), 1) := by decide +kernel
theorem dX4_lid_12 : decode cX4_lid 12 = .ok (.ireturn, 1) := by decide +kernel
theorem dX4_lid_13 : decode cX4_lid 13 = .ok (.aload_n 0, 1) := by decide +kernel
theorem dX4_lid_14 : decode cX4_lid 14 = .ok (.getfield 33, 3) := by decide +kernel
theorem dX4_lid_17 : decode cX4_lid 17 = .ok (.aload_n 0, 1) := by decide +kernel
theorem dX4_lid_18 : decode cX4_lid 18 = .ok (.getfield 26, 3) := by decide +kernel
theorem dX4_lid_21 : decode cX4_lid 21 = .ok (.invokevirtual 136, 3) := by decide +kernel
theorem dX4_lid_24 : decode cX4_lid 24 = .ok (.aload_n 0, 1) := by decide +kernel
theorem dX4_lid_25 : decode cX4_lid 25 = .ok (.getfield 26, 3) := by decide +kernel
theorem dX4_lid_28 : decode cX4_lid 28 = .ok (.dup, 1) := by decide +kernel
theorem dX4_lid_29 : decode cX4_lid 29 = .ok (.getfield 109, 3) := by decide +kernel
theorem dX4_lid_32 : decode cX4_lid 32 = .ok (.iconst 1, 1) := by decide +kernel
theorem dX4_lid_33 : decode cX4_lid 33 = .ok (.iload_n 1, 1) := by decide +kernel
theorem dX4_lid_34 : decode cX4_lid 34 = .ok (.ishl, 1) := by decide +kernel
theorem dX4_lid_35 : decode cX4_lid 35 = .ok (.ixor, 1) := by decide +kernel
theorem dX4_lid_36 : decode cX4_lid 36 = .ok (.putfield 109, 3) := by decide +kernel
theorem dX4_lid_39 : decode cX4_lid 39 = .ok (.aload_n 0, 1) := by decide +kernel
theorem dX4_lid_40 : decode cX4_lid 40 = .ok (.getfield 26, 3) := by decide +kernel
theorem dX4_lid_43 : decode cX4_lid 43 = .ok (.iload_n 1, 1) := by decide +kernel
theorem dX4_lid_44 : decode cX4_lid 44 = .ok (.invokevirtual 121, 3) := by decide +kernel
theorem dX4_lid_47 : decode cX4_lid 47 = .ok (.ifCond .eq 7, 3) := by decide +kernel
theorem dX4_lid_50 : decode cX4_lid 50 = .ok (.iconst 1, 1) := by decide +kernel
theorem dX4_lid_51 : decode cX4_lid 51 = .ok (.goto 4, 3) := by decide +kernel
theorem dX4_lid_54 : decode cX4_lid 54 = .ok (.iconst 0, 1) := by decide +kernel
theorem dX4_lid_55 : decode cX4_lid 55 = .ok (.ireturn, 1) := by decide +kernel
theorem dX4_undo_0 : decode cX4_undo 0 = .ok (.aload_n 0, 1) := by decide +kernel
theorem dX4_undo_1 : decode cX4_undo 1 = .ok (.getfield 33, 3) := by decide +kernel
theorem dX4_undo_4 : decode cX4_undo 4 = .ok (.aload_n 0, 1) := by decide +kernel
theorem dX4_undo_5 : decode cX4_undo 5 = .ok (.getfield 26, 3) := by decide +kernel
theorem dX4_undo_8 : decode cX4_undo 8 = .ok (.invokevirtual 152, 3) := by decide +kernel
theorem dX4_undo_11 : decode cX4_undo 11 = .ok (.ifCond .eq 13, 3) := by decide +kernel
theorem dX4_undo_14 : decode cX4_undo 14 = .ok (.aload_n 0, 1) := by decide +kernel
theorem dX4_undo_15 : decode cX4_undo 15 = .ok (.getfield 33, 3) := by decide +kernel
theorem dX4_undo_18 : decode cX4_undo 18 = .ok (.getfield 74, 3) := by decide +kernel
theorem dX4_undo_21 : decode cX4_undo 21 = .ok (.goto 5, 3) := by decide +kernel
theorem dX4_undo_24 : decode cX4_undo 24 = .ok (.bipush (-3), 2) := by decide +kernel
theorem dX4_undo_26 : decode cX4_undo 26 = .ok (.ireturn, 1) := by decide +kernel
theorem dX4_heard_0 : decode cX4_heard 0 = .ok (.aload_n 0, 1) := by decide +kernel
theorem dX4_heard_1 : decode cX4_heard 1 = .ok (.getfield 19, 3) := by decide +kernel
theorem dX4_heard_4 : decode cX4_heard 4 = .ok (.iload_n 1, 1) := by decide +kernel
theorem dX4_heard_5 : decode cX4_heard 5 = .ok (.invokevirtual 112, 3) := by decide +kernel
theorem dX4_heard_8 : decode cX4_heard 8 = .ok (.ifCond .ne 5, 3) := by decide +kernel
theorem dX4_heard_11 : decode cX4_heard 11 = .ok (.iconst (-1), 1) := by decide +kernel
theorem dX4_heard_12 : decode cX4_heard 12 = .ok (.ireturn, 1) := by decide +kernel
theorem dX4_heard_13 : decode cX4_heard 13 = .ok (.iload_n 2, 1) := by decide +kernel
theorem dX4_heard_14 : decode cX4_heard 14 = .ok (.iconst 0, 1) := by decide +kernel
theorem dX4_heard_15 : decode cX4_heard 15 = .ok (.bipush 9, 2) := by decide +kernel
theorem dX4_heard_17 : decode cX4_heard 17 = .ok (.invokestatic 128, 3) := by decide +kernel
theorem dX4_heard_20 : decode cX4_heard 20 = .ok (.ifCond .eq 13, 3) := by decide +kernel
theorem dX4_heard_23 : decode cX4_heard 23 = .ok (.aload_n 0, 1) := by decide +kernel
theorem dX4_heard_24 : decode cX4_heard 24 = .ok (.iload_n 1, 1) := by decide +kernel
theorem dX4_heard_25 : decode cX4_heard 25 = .ok (.iload_n 2, 1) := by decide +kernel
theorem dX4_heard_26 : decode cX4_heard 26 = .ok (.iload_n 3, 1) := by decide +kernel
theorem dX4_heard_27 : decode cX4_heard 27 = .ok (.invokevirtual 156, 3) := by decide +kernel
theorem dX4_heard_30 : decode cX4_heard 30 = .ok (.goto 5, 3) := by decide +kernel
theorem dX4_heard_33 : decode cX4_heard 33 = .ok (.bipush (-2), 2) := by decide +kernel
theorem dX4_heard_35 : decode cX4_heard 35 = .ok (.ireturn, 1) := by decide +kernel
theorem dX4_heardBy_0 : decode cX4_heardBy 0 = .ok (.aload_n 0, 1) := by decide +kernel
theorem dX4_heardBy_1 : decode cX4_heardBy 1 = .ok (.getfield 26, 3) := by decide +kernel
theorem dX4_heardBy_4 : decode cX4_heardBy 4 = .ok (.iload_n 1, 1) := by decide +kernel
theorem dX4_heardBy_5 : decode cX4_heardBy 5 = .ok (.invokevirtual 121, 3) := by decide +kernel
theorem dX4_heardBy_8 : decode cX4_heardBy 8 = .ok (.ifCond .eq 5, 3) := by decide +kernel
theorem dX4_heardBy_11 : decode cX4_heardBy 11 = .ok (.iconst 0, 1) := by decide +kernel
theorem dX4_heardBy_12 : decode cX4_heardBy 12 = .ok (.ireturn, 1) := by decide +kernel
theorem dX4_heardBy_13 : decode cX4_heardBy 13 = .ok (.aload_n 0, 1) := by decide +kernel
theorem dX4_heardBy_14 : decode cX4_heardBy 14 = .ok (.getfield 19, 3) := by decide +kernel
theorem dX4_heardBy_17 : decode cX4_heardBy 17 = .ok (.iload_n 1, 1) := by decide +kernel
theorem dX4_heardBy_18 : decode cX4_heardBy 18 = .ok (.invokevirtual 115, 3) := by decide +kernel
theorem dX4_heardBy_21 : decode cX4_heardBy 21 = .ok (.istore 4, 2) := by decide +kernel
theorem dX4_heardBy_23 : decode cX4_heardBy 23 = .ok (.iload_n 2, 1) := by decide +kernel
theorem dX4_heardBy_24 : decode cX4_heardBy 24 = .ok (.iload 4, 2) := by decide +kernel
theorem dX4_heardBy_26 : decode cX4_heardBy 26 = .ok (.invokestatic 160, 3) := by decide +kernel
theorem dX4_heardBy_29 : decode cX4_heardBy 29 = .ok (.istore 5, 2) := by decide +kernel
theorem dX4_heardBy_31 : decode cX4_heardBy 31 = .ok (.iconst 0, 1) := by decide +kernel
theorem dX4_heardBy_32 : decode cX4_heardBy 32 = .ok (.istore 6, 2) := by decide +kernel
theorem dX4_heardBy_34 : decode cX4_heardBy 34 = .ok (.iconst 0, 1) := by decide +kernel
theorem dX4_heardBy_35 : decode cX4_heardBy 35 = .ok (.istore 7, 2) := by decide +kernel
theorem dX4_heardBy_37 : decode cX4_heardBy 37 = .ok (.iload 7, 2) := by decide +kernel
theorem dX4_heardBy_39 : decode cX4_heardBy 39 = .ok (.aload_n 0, 1) := by decide +kernel
theorem dX4_heardBy_40 : decode cX4_heardBy 40 = .ok (.getfield 26, 3) := by decide +kernel
theorem dX4_heardBy_43 : decode cX4_heardBy 43 = .ok (.getfield 88, 3) := by decide +kernel
theorem dX4_heardBy_46 : decode cX4_heardBy 46 = .ok (.if_icmp .ge 100, 3) := by decide +kernel
theorem dX4_heardBy_49 : decode cX4_heardBy 49 = .ok (.aload_n 0, 1) := by decide +kernel
theorem dX4_heardBy_50 : decode cX4_heardBy 50 = .ok (.getfield 26, 3) := by decide +kernel
theorem dX4_heardBy_53 : decode cX4_heardBy 53 = .ok (.iload 7, 2) := by decide +kernel
theorem dX4_heardBy_55 : decode cX4_heardBy 55 = .ok (.iconst 4, 1) := by decide +kernel
theorem dX4_heardBy_56 : decode cX4_heardBy 56 = .ok (.invokevirtual 132, 3) := by decide +kernel
theorem dX4_heardBy_59 : decode cX4_heardBy 59 = .ok (.iload 4, 2) := by decide +kernel
theorem dX4_heardBy_61 : decode cX4_heardBy 61 = .ok (.invokestatic 160, 3) := by decide +kernel
theorem dX4_heardBy_64 : decode cX4_heardBy 64 = .ok (.iload 5, 2) := by decide +kernel
theorem dX4_heardBy_66 : decode cX4_heardBy 66 = .ok (.isub, 1) := by decide +kernel
theorem dX4_heardBy_67 : decode cX4_heardBy 67 = .ok (.invokestatic 165, 3) := by decide +kernel
theorem dX4_heardBy_70 : decode cX4_heardBy 70 = .ok (.istore 8, 2) := by decide +kernel
theorem dX4_heardBy_72 : decode cX4_heardBy 72 = .ok (.iload_n 3, 1) := by decide +kernel
theorem dX4_heardBy_73 : decode cX4_heardBy 73 = .ok (.ifCond .eq 17, 3) := by decide +kernel
theorem dX4_heardBy_76 : decode cX4_heardBy 76 = .ok (.aload_n 0, 1) := by decide +kernel
theorem dX4_heardBy_77 : decode cX4_heardBy 77 = .ok (.getfield 26, 3) := by decide +kernel
theorem dX4_heardBy_80 : decode cX4_heardBy 80 = .ok (.iload 7, 2) := by decide +kernel
theorem dX4_heardBy_82 : decode cX4_heardBy 82 = .ok (.iconst 3, 1) := by decide +kernel
theorem dX4_heardBy_83 : decode cX4_heardBy 83 = .ok (.invokevirtual 132, 3) := by decide +kernel
theorem dX4_heardBy_86 : decode cX4_heardBy 86 = .ok (.iconst 2, 1) := by decide +kernel
theorem dX4_heardBy_87 : decode cX4_heardBy 87 = .ok (.if_icmp .ge 7, 3) := by decide +kernel
theorem dX4_heardBy_90 : decode cX4_heardBy 90 = .ok (.iconst 1, 1) := by decide +kernel
theorem dX4_heardBy_91 : decode cX4_heardBy 91 = .ok (.goto 4, 3) := by decide +kernel
theorem dX4_heardBy_94 : decode cX4_heardBy 94 = .ok (.iconst 0, 1) := by decide +kernel
theorem dX4_heardBy_95 : decode cX4_heardBy 95 = .ok (.istore 9, 2) := by decide +kernel
theorem dX4_heardBy_97 : decode cX4_heardBy 97 = .ok (.aload_n 0, 1) := by decide +kernel
theorem dX4_heardBy_98 : decode cX4_heardBy 98 = .ok (.getfield 26, 3) := by decide +kernel
theorem dX4_heardBy_101 : decode cX4_heardBy 101 = .ok (.iload 7, 2) := by decide +kernel
theorem dX4_heardBy_103 : decode cX4_heardBy 103 = .ok (.iconst 1, 1) := by decide +kernel
theorem dX4_heardBy_104 : decode cX4_heardBy 104 = .ok (.invokevirtual 132, 3) := by decide +kernel
theorem dX4_heardBy_107 : decode cX4_heardBy 107 = .ok (.iload_n 1, 1) := by decide +kernel
theorem dX4_heardBy_108 : decode cX4_heardBy 108 = .ok (.if_icmp .ne 32, 3) := by decide +kernel
theorem dX4_heardBy_111 : decode cX4_heardBy 111 = .ok (.iload 9, 2) := by decide +kernel
theorem dX4_heardBy_113 : decode cX4_heardBy 113 = .ok (.ifCond .eq 27, 3) := by decide +kernel
theorem dX4_heardBy_116 : decode cX4_heardBy 116 = .ok (.aload_n 0, 1) := by decide +kernel
theorem dX4_heardBy_117 : decode cX4_heardBy 117 = .ok (.getfield 26, 3) := by decide +kernel
theorem dX4_heardBy_120 : decode cX4_heardBy 120 = .ok (.iload 7, 2) := by decide +kernel
theorem dX4_heardBy_122 : decode cX4_heardBy 122 = .ok (.iconst 2, 1) := by decide +kernel
theorem dX4_heardBy_123 : decode cX4_heardBy 123 = .ok (.invokevirtual 132, 3) := by decide +kernel
theorem dX4_heardBy_126 : decode cX4_heardBy 126 = .ok (.iload 8, 2) := by decide +kernel
theorem dX4_heardBy_128 : decode cX4_heardBy 128 = .ok (.if_icmp .le 12, 3) := by decide +kernel
theorem dX4_heardBy_131 : decode cX4_heardBy 131 = .ok (.iload 6, 2) := by decide +kernel
theorem dX4_heardBy_133 : decode cX4_heardBy 133 = .ok (.iconst 1, 1) := by decide +kernel
theorem dX4_heardBy_134 : decode cX4_heardBy 134 = .ok (.iload 7, 2) := by decide +kernel
theorem dX4_heardBy_136 : decode cX4_heardBy 136 = .ok (.ishl, 1) := by decide +kernel
theorem dX4_heardBy_137 : decode cX4_heardBy 137 = .ok (.ior, 1) := by decide +kernel
theorem dX4_heardBy_138 : decode cX4_heardBy 138 = .ok (.istore 6, 2) := by decide +kernel
theorem dX4_heardBy_140 : decode cX4_heardBy 140 = .ok (.iinc 7 1, 3) := by decide +kernel
theorem dX4_heardBy_143 : decode cX4_heardBy 143 = .ok (.goto (-106), 3) := by decide +kernel
theorem dX4_heardBy_146 : decode cX4_heardBy 146 = .ok (.iload 6, 2) := by decide +kernel
theorem dX4_heardBy_148 : decode cX4_heardBy 148 = .ok (.ireturn, 1) := by decide +kernel
theorem dX4_songLasts_0 : decode cX4_songLasts 0 = .ok (.aload_n 0, 1) := by decide +kernel
theorem dX4_songLasts_1 : decode cX4_songLasts 1 = .ok (.getfield 26, 3) := by decide +kernel
theorem dX4_songLasts_4 : decode cX4_songLasts 4 = .ok (.iload_n 1, 1) := by decide +kernel
theorem dX4_songLasts_5 : decode cX4_songLasts 5 = .ok (.invokevirtual 127, 3) := by decide +kernel
theorem dX4_songLasts_8 : decode cX4_songLasts 8 = .ok (.ifCond .ne 5, 3) := by decide +kernel
theorem dX4_songLasts_11 : decode cX4_songLasts 11 = .ok (.iconst (-1), 1) := by decide +kernel
theorem dX4_songLasts_12 : decode cX4_songLasts 12 = .ok (.ireturn, 1) := by decide +kernel
theorem dX4_songLasts_13 : decode cX4_songLasts 13 = .ok (.aload_n 0, 1) := by decide +kernel
theorem dX4_songLasts_14 : decode cX4_songLasts 14 = .ok (.getfield 43, 3) := by decide +kernel
theorem dX4_songLasts_17 : decode cX4_songLasts 17 = .ok (.aload_n 0, 1) := by decide +kernel
theorem dX4_songLasts_18 : decode cX4_songLasts 18 = .ok (.getfield 26, 3) := by decide +kernel
theorem dX4_songLasts_21 : decode cX4_songLasts 21 = .ok (.invokevirtual 168, 3) := by decide +kernel
theorem dX4_songLasts_24 : decode cX4_songLasts 24 = .ok (.iload_n 1, 1) := by decide +kernel
theorem dX4_songLasts_25 : decode cX4_songLasts 25 = .ok (.istore_n 2, 1) := by decide +kernel
theorem dX4_songLasts_26 : decode cX4_songLasts 26 = .ok (.iconst 1, 1) := by decide +kernel
theorem dX4_songLasts_27 : decode cX4_songLasts 27 = .ok (.istore_n 3, 1) := by decide +kernel
theorem dX4_songLasts_28 : decode cX4_songLasts 28 = .ok (.iload_n 3, 1) := by decide +kernel
theorem dX4_songLasts_29 : decode cX4_songLasts 29 = .ok (.bipush 99, 2) := by decide +kernel
theorem dX4_songLasts_31 : decode cX4_songLasts 31 = .ok (.if_icmp .ge 53, 3) := by decide +kernel
theorem dX4_songLasts_34 : decode cX4_songLasts 34 = .ok (.aload_n 0, 1) := by decide +kernel
theorem dX4_songLasts_35 : decode cX4_songLasts 35 = .ok (.getfield 43, 3) := by decide +kernel
theorem dX4_songLasts_38 : decode cX4_songLasts 38 = .ok (.aload_n 0, 1) := by decide +kernel
theorem dX4_songLasts_39 : decode cX4_songLasts 39 = .ok (.getfield 19, 3) := by decide +kernel
theorem dX4_songLasts_42 : decode cX4_songLasts 42 = .ok (.invokevirtual 171, 3) := by decide +kernel
theorem dX4_songLasts_45 : decode cX4_songLasts 45 = .ok (.aload_n 0, 1) := by decide +kernel
theorem dX4_songLasts_46 : decode cX4_songLasts 46 = .ok (.getfield 43, 3) := by decide +kernel
theorem dX4_songLasts_49 : decode cX4_songLasts 49 = .ok (.iload_n 2, 1) := by decide +kernel
theorem dX4_songLasts_50 : decode cX4_songLasts 50 = .ok (.iconst 2, 1) := by decide +kernel
theorem dX4_songLasts_51 : decode cX4_songLasts 51 = .ok (.invokevirtual 132, 3) := by decide +kernel
theorem dX4_songLasts_54 : decode cX4_songLasts 54 = .ok (.ifCond .gt 5, 3) := by decide +kernel
theorem dX4_songLasts_57 : decode cX4_songLasts 57 = .ok (.iload_n 3, 1) := by decide +kernel
theorem dX4_songLasts_58 : decode cX4_songLasts 58 = .ok (.ireturn, 1) := by decide +kernel
theorem dX4_songLasts_59 : decode cX4_songLasts 59 = .ok (.iload_n 2, 1) := by decide +kernel
theorem dX4_songLasts_60 : decode cX4_songLasts 60 = .ok (.aload_n 0, 1) := by decide +kernel
theorem dX4_songLasts_61 : decode cX4_songLasts 61 = .ok (.getfield 43, 3) := by decide +kernel
theorem dX4_songLasts_64 : decode cX4_songLasts 64 = .ok (.iload_n 2, 1) := by decide +kernel
theorem dX4_songLasts_65 : decode cX4_songLasts 65 = .ok (.invokevirtual 175, 3) := by decide +kernel
theorem dX4_songLasts_68 : decode cX4_songLasts 68 = .ok (.isub, 1) := by decide +kernel
theorem dX4_songLasts_69 : decode cX4_songLasts 69 = .ok (.istore_n 2, 1) := by decide +kernel
theorem dX4_songLasts_70 : decode cX4_songLasts 70 = .ok (.aload_n 0, 1) := by decide +kernel
theorem dX4_songLasts_71 : decode cX4_songLasts 71 = .ok (.getfield 43, 3) := by decide +kernel
theorem dX4_songLasts_74 : decode cX4_songLasts 74 = .ok (.invokevirtual 178, 3) := by decide +kernel
theorem dX4_songLasts_77 : decode cX4_songLasts 77 = .ok (.pop, 1) := by decide +kernel
theorem dX4_songLasts_78 : decode cX4_songLasts 78 = .ok (.iinc 3 1, 3) := by decide +kernel
theorem dX4_songLasts_81 : decode cX4_songLasts 81 = .ok (.goto (-53), 3) := by decide +kernel
theorem dX4_songLasts_84 : decode cX4_songLasts 84 = .ok (.bipush 99, 2) := by decide +kernel
theorem dX4_songLasts_86 : decode cX4_songLasts 86 = .ok (.ireturn, 1) := by decide +kernel
theorem dX4_lawLasts_0 : decode cX4_lawLasts 0 = .ok (.iload_n 1, 1) := by decide +kernel
theorem dX4_lawLasts_1 : decode cX4_lawLasts 1 = .ok (.iconst 0, 1) := by decide +kernel
theorem dX4_lawLasts_2 : decode cX4_lawLasts 2 = .ok (.iconst 5, 1) := by decide +kernel
theorem dX4_lawLasts_3 : decode cX4_lawLasts 3 = .ok (.invokestatic 128, 3) := by decide +kernel
theorem dX4_lawLasts_6 : decode cX4_lawLasts 6 = .ok (.ifCond .ne 6, 3) := by decide +kernel
theorem dX4_lawLasts_9 : decode cX4_lawLasts 9 = .ok (.bipush (-2), 2) := by decide +kernel
theorem dX4_lawLasts_11 : decode cX4_lawLasts 11 = .ok (.ireturn, 1) := by decide +kernel
theorem dX4_lawLasts_12 : decode cX4_lawLasts 12 = .ok (.aload_n 0, 1) := by decide +kernel
theorem dX4_lawLasts_13 : decode cX4_lawLasts 13 = .ok (.getfield 43, 3) := by decide +kernel
theorem dX4_lawLasts_16 : decode cX4_lawLasts 16 = .ok (.aload_n 0, 1) := by decide +kernel
theorem dX4_lawLasts_17 : decode cX4_lawLasts 17 = .ok (.getfield 26, 3) := by decide +kernel
theorem dX4_lawLasts_20 : decode cX4_lawLasts 20 = .ok (.invokevirtual 168, 3) := by decide +kernel
theorem dX4_lawLasts_23 : decode cX4_lawLasts 23 = .ok (.iconst 0, 1) := by decide +kernel
theorem dX4_lawLasts_24 : decode cX4_lawLasts 24 = .ok (.istore_n 2, 1) := by decide +kernel
theorem dX4_lawLasts_25 : decode cX4_lawLasts 25 = .ok (.iload_n 2, 1) := by decide +kernel
theorem dX4_lawLasts_26 : decode cX4_lawLasts 26 = .ok (.bipush 99, 2) := by decide +kernel
theorem dX4_lawLasts_28 : decode cX4_lawLasts 28 = .ok (.if_icmp .ge 37, 3) := by decide +kernel
theorem dX4_lawLasts_31 : decode cX4_lawLasts 31 = .ok (.aload_n 0, 1) := by decide +kernel
theorem dX4_lawLasts_32 : decode cX4_lawLasts 32 = .ok (.getfield 43, 3) := by decide +kernel
theorem dX4_lawLasts_35 : decode cX4_lawLasts 35 = .ok (.invokevirtual 82, 3) := by decide +kernel
theorem dX4_lawLasts_38 : decode cX4_lawLasts 38 = .ok (.iload_n 1, 1) := by decide +kernel
theorem dX4_lawLasts_39 : decode cX4_lawLasts 39 = .ok (.ishr, 1) := by decide +kernel
theorem dX4_lawLasts_40 : decode cX4_lawLasts 40 = .ok (.iconst 1, 1) := by decide +kernel
theorem dX4_lawLasts_41 : decode cX4_lawLasts 41 = .ok (.iand, 1) := by decide +kernel
theorem dX4_lawLasts_42 : decode cX4_lawLasts 42 = .ok (.ifCond .ne 5, 3) := by decide +kernel
theorem dX4_lawLasts_45 : decode cX4_lawLasts 45 = .ok (.iload_n 2, 1) := by decide +kernel
theorem dX4_lawLasts_46 : decode cX4_lawLasts 46 = .ok (.ireturn, 1) := by decide +kernel
theorem dX4_lawLasts_47 : decode cX4_lawLasts 47 = .ok (.aload_n 0, 1) := by decide +kernel
theorem dX4_lawLasts_48 : decode cX4_lawLasts 48 = .ok (.getfield 43, 3) := by decide +kernel
theorem dX4_lawLasts_51 : decode cX4_lawLasts 51 = .ok (.aload_n 0, 1) := by decide +kernel
theorem dX4_lawLasts_52 : decode cX4_lawLasts 52 = .ok (.getfield 19, 3) := by decide +kernel
theorem dX4_lawLasts_55 : decode cX4_lawLasts 55 = .ok (.invokevirtual 140, 3) := by decide +kernel
theorem dX4_lawLasts_58 : decode cX4_lawLasts 58 = .ok (.pop, 1) := by decide +kernel
theorem dX4_lawLasts_59 : decode cX4_lawLasts 59 = .ok (.iinc 2 1, 3) := by decide +kernel
theorem dX4_lawLasts_62 : decode cX4_lawLasts 62 = .ok (.goto (-37), 3) := by decide +kernel
theorem dX4_lawLasts_65 : decode cX4_lawLasts 65 = .ok (.bipush 99, 2) := by decide +kernel
theorem dX4_lawLasts_67 : decode cX4_lawLasts 67 = .ok (.ireturn, 1) := by decide +kernel
theorem dX4_lost_0 : decode cX4_lost 0 = .ok (.iload_n 1, 1) := by decide +kernel
theorem dX4_lost_1 : decode cX4_lost 1 = .ok (.iconst 0, 1) := by decide +kernel
theorem dX4_lost_2 : decode cX4_lost 2 = .ok (.bipush 30, 2) := by decide +kernel
theorem dX4_lost_4 : decode cX4_lost 4 = .ok (.invokestatic 128, 3) := by decide +kernel
theorem dX4_lost_7 : decode cX4_lost 7 = .ok (.ifCond .ne 6, 3) := by decide +kernel
theorem dX4_lost_10 : decode cX4_lost 10 = .ok (.bipush (-2), 2) := by decide +kernel
theorem dX4_lost_12 : decode cX4_lost 12 = .ok (.ireturn, 1) := by decide +kernel
theorem dX4_lost_13 : decode cX4_lost 13 = .ok (.aload_n 0, 1) := by decide +kernel
theorem dX4_lost_14 : decode cX4_lost 14 = .ok (.getfield 43, 3) := by decide +kernel
theorem dX4_lost_17 : decode cX4_lost 17 = .ok (.aload_n 0, 1) := by decide +kernel
theorem dX4_lost_18 : decode cX4_lost 18 = .ok (.getfield 26, 3) := by decide +kernel
theorem dX4_lost_21 : decode cX4_lost 21 = .ok (.invokevirtual 168, 3) := by decide +kernel
theorem dX4_lost_24 : decode cX4_lost 24 = .ok (.aload_n 0, 1) := by decide +kernel
theorem dX4_lost_25 : decode cX4_lost 25 = .ok (.getfield 43, 3) := by decide +kernel
theorem dX4_lost_28 : decode cX4_lost 28 = .ok (.iload_n 1, 1) := by decide +kernel
theorem dX4_lost_29 : decode cX4_lost 29 = .ok (.aload_n 0, 1) := by decide +kernel
theorem dX4_lost_30 : decode cX4_lost 30 = .ok (.getfield 19, 3) := by decide +kernel
theorem dX4_lost_33 : decode cX4_lost 33 = .ok (.invokevirtual 181, 3) := by decide +kernel
theorem dX4_lost_36 : decode cX4_lost 36 = .ok (.aload_n 0, 1) := by decide +kernel
theorem dX4_lost_37 : decode cX4_lost 37 = .ok (.getfield 85, 3) := by decide +kernel
theorem dX4_lost_40 : decode cX4_lost 40 = .ok (.aload_n 0, 1) := by decide +kernel
theorem dX4_lost_41 : decode cX4_lost 41 = .ok (.getfield 43, 3) := by decide +kernel
theorem dX4_lost_44 : decode cX4_lost 44 = .ok (.invokevirtual 82, 3) := by decide +kernel
theorem dX4_lost_47 : decode cX4_lost 47 = .ok (.iconst (-1), 1) := by decide +kernel
theorem dX4_lost_48 : decode cX4_lost 48 = .ok (.ixor, 1) := by decide +kernel
theorem dX4_lost_49 : decode cX4_lost 49 = .ok (.iand, 1) := by decide +kernel
theorem dX4_lost_50 : decode cX4_lost 50 = .ok (.ireturn, 1) := by decide +kernel
theorem dX4_plan_0 : decode cX4_plan 0 = .ok (.iload_n 1, 1) := by decide +kernel
theorem dX4_plan_1 : decode cX4_plan 1 = .ok (.iconst 1, 1) := by decide +kernel
theorem dX4_plan_2 : decode cX4_plan 2 = .ok (.iconst 2, 1) := by decide +kernel
theorem dX4_plan_3 : decode cX4_plan 3 = .ok (.invokestatic 128, 3) := by decide +kernel
theorem dX4_plan_6 : decode cX4_plan 6 = .ok (.ifCond .eq 12, 3) := by decide +kernel
theorem dX4_plan_9 : decode cX4_plan 9 = .ok (.iload_n 2, 1) := by decide +kernel
theorem dX4_plan_10 : decode cX4_plan 10 = .ok (.iconst 0, 1) := by decide +kernel
theorem dX4_plan_11 : decode cX4_plan 11 = .ok (.iconst 1, 1) := by decide +kernel
theorem dX4_plan_12 : decode cX4_plan 12 = .ok (.invokestatic 128, 3) := by decide +kernel
theorem dX4_plan_15 : decode cX4_plan 15 = .ok (.ifCond .ne 6, 3) := by decide +kernel
theorem dX4_plan_18 : decode cX4_plan 18 = .ok (.bipush (-2), 2) := by decide +kernel
theorem dX4_plan_20 : decode cX4_plan 20 = .ok (.ireturn, 1) := by decide +kernel
theorem dX4_plan_21 : decode cX4_plan 21 = .ok (.bipush (-100), 2) := by decide +kernel
theorem dX4_plan_23 : decode cX4_plan 23 = .ok (.istore_n 3, 1) := by decide +kernel
theorem dX4_plan_24 : decode cX4_plan 24 = .ok (.iconst 0, 1) := by decide +kernel
theorem dX4_plan_25 : decode cX4_plan 25 = .ok (.istore 4, 2) := by decide +kernel
theorem dX4_plan_27 : decode cX4_plan 27 = .ok (.aload_n 0, 1) := by decide +kernel
theorem dX4_plan_28 : decode cX4_plan 28 = .ok (.getfield 26, 3) := by decide +kernel
theorem dX4_plan_31 : decode cX4_plan 31 = .ok (.invokestatic 185, 3) := by decide +kernel
theorem dX4_plan_34 : decode cX4_plan 34 = .ok (.istore 5, 2) := by decide +kernel
theorem dX4_plan_36 : decode cX4_plan 36 = .ok (.iconst 0, 1) := by decide +kernel
theorem dX4_plan_37 : decode cX4_plan 37 = .ok (.istore 6, 2) := by decide +kernel
theorem dX4_plan_39 : decode cX4_plan 39 = .ok (.iload 6, 2) := by decide +kernel
theorem dX4_plan_41 : decode cX4_plan 41 = .ok (.iload 5, 2) := by decide +kernel
theorem dX4_plan_43 : decode cX4_plan 43 = .ok (.if_icmp .ge 86, 3) := by decide +kernel
theorem dX4_plan_46 : decode cX4_plan 46 = .ok (.aload_n 0, 1) := by decide +kernel
theorem dX4_plan_47 : decode cX4_plan 47 = .ok (.getfield 43, 3) := by decide +kernel
theorem dX4_plan_50 : decode cX4_plan 50 = .ok (.aload_n 0, 1) := by decide +kernel
theorem dX4_plan_51 : decode cX4_plan 51 = .ok (.getfield 26, 3) := by decide +kernel
theorem dX4_plan_54 : decode cX4_plan 54 = .ok (.invokevirtual 168, 3) := by decide +kernel
theorem dX4_plan_57 : decode cX4_plan 57 = .ok (.aload_n 0, 1) := by decide +kernel
theorem dX4_plan_58 : decode cX4_plan 58 = .ok (.aload_n 0, 1) := by decide +kernel
theorem dX4_plan_59 : decode cX4_plan 59 = .ok (.getfield 43, 3) := by decide +kernel
theorem dX4_plan_62 : decode cX4_plan 62 = .ok (.iload 6, 2) := by decide +kernel
theorem dX4_plan_64 : decode cX4_plan 64 = .ok (.invokevirtual 189, 3) := by decide +kernel
theorem dX4_plan_67 : decode cX4_plan 67 = .ok (.ifCond .eq 56, 3) := by decide +kernel
theorem dX4_plan_70 : decode cX4_plan 70 = .ok (.aload_n 0, 1) := by decide +kernel
theorem dX4_plan_71 : decode cX4_plan 71 = .ok (.getfield 43, 3) := by decide +kernel
theorem dX4_plan_74 : decode cX4_plan 74 = .ok (.aload_n 0, 1) := by decide +kernel
theorem dX4_plan_75 : decode cX4_plan 75 = .ok (.getfield 19, 3) := by decide +kernel
theorem dX4_plan_78 : decode cX4_plan 78 = .ok (.invokevirtual 140, 3) := by decide +kernel
theorem dX4_plan_81 : decode cX4_plan 81 = .ok (.pop, 1) := by decide +kernel
theorem dX4_plan_82 : decode cX4_plan 82 = .ok (.iload 6, 2) := by decide +kernel
theorem dX4_plan_84 : decode cX4_plan 84 = .ok (.invokestatic 193, 3) := by decide +kernel
theorem dX4_plan_87 : decode cX4_plan 87 = .ok (.iload_n 1, 1) := by decide +kernel
theorem dX4_plan_88 : decode cX4_plan 88 = .ok (.iconst 1, 1) := by decide +kernel
theorem dX4_plan_89 : decode cX4_plan 89 = .ok (.if_icmp .ne 14, 3) := by decide +kernel
theorem dX4_plan_92 : decode cX4_plan 92 = .ok (.aload_n 0, 1) := by decide +kernel
theorem dX4_plan_93 : decode cX4_plan 93 = .ok (.aload_n 0, 1) := by decide +kernel
theorem dX4_plan_94 : decode cX4_plan 94 = .ok (.getfield 43, 3) := by decide +kernel
theorem dX4_plan_97 : decode cX4_plan 97 = .ok (.invokevirtual 196, 3) := by decide +kernel
theorem dX4_plan_100 : decode cX4_plan 100 = .ok (.goto 7, 3) := by decide +kernel
theorem dX4_plan_103 : decode cX4_plan 103 = .ok (.aload_n 0, 1) := by decide +kernel
theorem dX4_plan_104 : decode cX4_plan 104 = .ok (.invokevirtual 199, 3) := by decide +kernel
theorem dX4_plan_107 : decode cX4_plan 107 = .ok (.iadd, 1) := by decide +kernel
theorem dX4_plan_108 : decode cX4_plan 108 = .ok (.istore 7, 2) := by decide +kernel
theorem dX4_plan_110 : decode cX4_plan 110 = .ok (.iload 7, 2) := by decide +kernel
theorem dX4_plan_112 : decode cX4_plan 112 = .ok (.iload_n 3, 1) := by decide +kernel
theorem dX4_plan_113 : decode cX4_plan 113 = .ok (.if_icmp .le 10, 3) := by decide +kernel
theorem dX4_plan_116 : decode cX4_plan 116 = .ok (.iload 7, 2) := by decide +kernel
theorem dX4_plan_118 : decode cX4_plan 118 = .ok (.istore_n 3, 1) := by decide +kernel
theorem dX4_plan_119 : decode cX4_plan 119 = .ok (.iload 6, 2) := by decide +kernel
theorem dX4_plan_121 : decode cX4_plan 121 = .ok (.istore 4, 2) := by decide +kernel
theorem dX4_plan_123 : decode cX4_plan 123 = .ok (.iinc 6 1, 3) := by decide +kernel
theorem dX4_plan_126 : decode cX4_plan 126 = .ok (.goto (-87), 3) := by decide +kernel
theorem dX4_plan_129 : decode cX4_plan 129 = .ok (.iload_n 2, 1) := by decide +kernel
theorem dX4_plan_130 : decode cX4_plan 130 = .ok (.ifCond .ne 10, 3) := by decide +kernel
theorem dX4_plan_133 : decode cX4_plan 133 = .ok (.iload_n 3, 1) := by decide +kernel
theorem dX4_plan_134 : decode cX4_plan 134 = .ok (.invokestatic 202, 3) := by decide +kernel
theorem dX4_plan_137 : decode cX4_plan 137 = .ok (.goto 5, 3) := by decide +kernel
theorem dX4_plan_140 : decode cX4_plan 140 = .ok (.iload 4, 2) := by decide +kernel
theorem dX4_plan_142 : decode cX4_plan 142 = .ok (.ireturn, 1) := by decide +kernel
theorem dX4_bestSecondWorth_0 : decode cX4_bestSecondWorth 0 = .ok (.bipush (-100), 2) := by decide +kernel
theorem dX4_bestSecondWorth_2 : decode cX4_bestSecondWorth 2 = .ok (.istore_n 1, 1) := by decide +kernel
theorem dX4_bestSecondWorth_3 : decode cX4_bestSecondWorth 3 = .ok (.aload_n 0, 1) := by decide +kernel
theorem dX4_bestSecondWorth_4 : decode cX4_bestSecondWorth 4 = .ok (.getfield 43, 3) := by decide +kernel
theorem dX4_bestSecondWorth_7 : decode cX4_bestSecondWorth 7 = .ok (.invokestatic 185, 3) := by decide +kernel
theorem dX4_bestSecondWorth_10 : decode cX4_bestSecondWorth 10 = .ok (.istore_n 2, 1) := by decide +kernel
theorem dX4_bestSecondWorth_11 : decode cX4_bestSecondWorth 11 = .ok (.iconst 0, 1) := by decide +kernel
theorem dX4_bestSecondWorth_12 : decode cX4_bestSecondWorth 12 = .ok (.istore_n 3, 1) := by decide +kernel
theorem dX4_bestSecondWorth_13 : decode cX4_bestSecondWorth 13 = .ok (.iload_n 3, 1) := by decide +kernel
theorem dX4_bestSecondWorth_14 : decode cX4_bestSecondWorth 14 = .ok (.iload_n 2, 1) := by decide +kernel
theorem dX4_bestSecondWorth_15 : decode cX4_bestSecondWorth 15 = .ok (.if_icmp .ge 62, 3) := by decide +kernel
theorem dX4_bestSecondWorth_18 : decode cX4_bestSecondWorth 18 = .ok (.aload_n 0, 1) := by decide +kernel
theorem dX4_bestSecondWorth_19 : decode cX4_bestSecondWorth 19 = .ok (.getfield 46, 3) := by decide +kernel
theorem dX4_bestSecondWorth_22 : decode cX4_bestSecondWorth 22 = .ok (.aload_n 0, 1) := by decide +kernel
theorem dX4_bestSecondWorth_23 : decode cX4_bestSecondWorth 23 = .ok (.getfield 43, 3) := by decide +kernel
theorem dX4_bestSecondWorth_26 : decode cX4_bestSecondWorth 26 = .ok (.invokevirtual 168, 3) := by decide +kernel
theorem dX4_bestSecondWorth_29 : decode cX4_bestSecondWorth 29 = .ok (.aload_n 0, 1) := by decide +kernel
theorem dX4_bestSecondWorth_30 : decode cX4_bestSecondWorth 30 = .ok (.aload_n 0, 1) := by decide +kernel
theorem dX4_bestSecondWorth_31 : decode cX4_bestSecondWorth 31 = .ok (.getfield 46, 3) := by decide +kernel
theorem dX4_bestSecondWorth_34 : decode cX4_bestSecondWorth 34 = .ok (.iload_n 3, 1) := by decide +kernel
theorem dX4_bestSecondWorth_35 : decode cX4_bestSecondWorth 35 = .ok (.invokevirtual 189, 3) := by decide +kernel
theorem dX4_bestSecondWorth_38 : decode cX4_bestSecondWorth 38 = .ok (.ifCond .eq 33, 3) := by decide +kernel
theorem dX4_bestSecondWorth_41 : decode cX4_bestSecondWorth 41 = .ok (.aload_n 0, 1) := by decide +kernel
theorem dX4_bestSecondWorth_42 : decode cX4_bestSecondWorth 42 = .ok (.getfield 46, 3) := by decide +kernel
theorem dX4_bestSecondWorth_45 : decode cX4_bestSecondWorth 45 = .ok (.aload_n 0, 1) := by decide +kernel
theorem dX4_bestSecondWorth_46 : decode cX4_bestSecondWorth 46 = .ok (.getfield 19, 3) := by decide +kernel
theorem dX4_bestSecondWorth_49 : decode cX4_bestSecondWorth 49 = .ok (.invokevirtual 140, 3) := by decide +kernel
theorem dX4_bestSecondWorth_52 : decode cX4_bestSecondWorth 52 = .ok (.pop, 1) := by decide +kernel
theorem dX4_bestSecondWorth_53 : decode cX4_bestSecondWorth 53 = .ok (.iload_n 1, 1) := by decide +kernel
theorem dX4_bestSecondWorth_54 : decode cX4_bestSecondWorth 54 = .ok (.iload_n 3, 1) := by decide +kernel
theorem dX4_bestSecondWorth_55 : decode cX4_bestSecondWorth 55 = .ok (.invokestatic 193, 3) := by decide +kernel
theorem dX4_bestSecondWorth_58 : decode cX4_bestSecondWorth 58 = .ok (.aload_n 0, 1) := by decide +kernel
theorem dX4_bestSecondWorth_59 : decode cX4_bestSecondWorth 59 = .ok (.aload_n 0, 1) := by decide +kernel
theorem dX4_bestSecondWorth_60 : decode cX4_bestSecondWorth 60 = .ok (.getfield 46, 3) := by decide +kernel
theorem dX4_bestSecondWorth_63 : decode cX4_bestSecondWorth 63 = .ok (.invokevirtual 196, 3) := by decide +kernel
theorem dX4_bestSecondWorth_66 : decode cX4_bestSecondWorth 66 = .ok (.iadd, 1) := by decide +kernel
theorem dX4_bestSecondWorth_67 : decode cX4_bestSecondWorth 67 = .ok (.invokestatic 205, 3) := by decide +kernel
theorem dX4_bestSecondWorth_70 : decode cX4_bestSecondWorth 70 = .ok (.istore_n 1, 1) := by decide +kernel
theorem dX4_bestSecondWorth_71 : decode cX4_bestSecondWorth 71 = .ok (.iinc 3 1, 3) := by decide +kernel
theorem dX4_bestSecondWorth_74 : decode cX4_bestSecondWorth 74 = .ok (.goto (-61), 3) := by decide +kernel
theorem dX4_bestSecondWorth_77 : decode cX4_bestSecondWorth 77 = .ok (.iload_n 1, 1) := by decide +kernel
theorem dX4_bestSecondWorth_78 : decode cX4_bestSecondWorth 78 = .ok (.ireturn, 1) := by decide +kernel
theorem dX4_deedsOf_0 : decode cX4_deedsOf 0 = .ok (.iconst 1, 1) := by decide +kernel
theorem dX4_deedsOf_1 : decode cX4_deedsOf 1 = .ok (.iconst 2, 1) := by decide +kernel
theorem dX4_deedsOf_2 : decode cX4_deedsOf 2 = .ok (.aload_n 0, 1) := by decide +kernel
theorem dX4_deedsOf_3 : decode cX4_deedsOf 3 = .ok (.getfield 88, 3) := by decide +kernel
theorem dX4_deedsOf_6 : decode cX4_deedsOf 6 = .ok (.imul, 1) := by decide +kernel
theorem dX4_deedsOf_7 : decode cX4_deedsOf 7 = .ok (.iadd, 1) := by decide +kernel
theorem dX4_deedsOf_8 : decode cX4_deedsOf 8 = .ok (.ireturn, 1) := by decide +kernel
theorem dX4_isDone_0 : decode cX4_isDone 0 = .ok (.iload_n 2, 1) := by decide +kernel
theorem dX4_isDone_1 : decode cX4_isDone 1 = .ok (.ifCond .ne 5, 3) := by decide +kernel
theorem dX4_isDone_4 : decode cX4_isDone 4 = .ok (.iconst 1, 1) := by decide +kernel
theorem dX4_isDone_5 : decode cX4_isDone 5 = .ok (.ireturn, 1) := by decide +kernel
theorem dX4_isDone_6 : decode cX4_isDone 6 = .ok (.iload_n 2, 1) := by decide +kernel
theorem dX4_isDone_7 : decode cX4_isDone 7 = .ok (.iconst 1, 1) := by decide +kernel
theorem dX4_isDone_8 : decode cX4_isDone 8 = .ok (.isub, 1) := by decide +kernel
theorem dX4_isDone_9 : decode cX4_isDone 9 = .ok (.iconst 2, 1) := by decide +kernel
theorem dX4_isDone_10 : decode cX4_isDone 10 = .ok (.idiv, 1) := by decide +kernel
theorem dX4_isDone_11 : decode cX4_isDone 11 = .ok (.istore_n 3, 1) := by decide +kernel
theorem dX4_isDone_12 : decode cX4_isDone 12 = .ok (.iload_n 2, 1) := by decide +kernel
theorem dX4_isDone_13 : decode cX4_isDone 13 = .ok (.iconst 1, 1) := by decide +kernel
theorem dX4_isDone_14 : decode cX4_isDone 14 = .ok (.isub, 1) := by decide +kernel
theorem dX4_isDone_15 : decode cX4_isDone 15 = .ok (.iconst 2, 1) := by decide +kernel
theorem dX4_isDone_16 : decode cX4_isDone 16 = .ok (.irem, 1) := by decide +kernel
theorem dX4_isDone_17 : decode cX4_isDone 17 = .ok (.istore 4, 2) := by decide +kernel
theorem dX4_isDone_19 : decode cX4_isDone 19 = .ok (.aload_n 1, 1) := by decide +kernel
theorem dX4_isDone_20 : decode cX4_isDone 20 = .ok (.iload_n 3, 1) := by decide +kernel
theorem dX4_isDone_21 : decode cX4_isDone 21 = .ok (.invokevirtual 127, 3) := by decide +kernel
theorem dX4_isDone_24 : decode cX4_isDone 24 = .ok (.ifCond .eq 26, 3) := by decide +kernel
theorem dX4_isDone_27 : decode cX4_isDone 27 = .ok (.aload_n 1, 1) := by decide +kernel
theorem dX4_isDone_28 : decode cX4_isDone 28 = .ok (.iload_n 3, 1) := by decide +kernel
theorem dX4_isDone_29 : decode cX4_isDone 29 = .ok (.iload 4, 2) := by decide +kernel
theorem dX4_isDone_31 : decode cX4_isDone 31 = .ok (.aload_n 0, 1) := by decide +kernel
theorem dX4_isDone_32 : decode cX4_isDone 32 = .ok (.getfield 19, 3) := by decide +kernel
theorem dX4_isDone_35 : decode cX4_isDone 35 = .ok (.invokevirtual 144, 3) := by decide +kernel
theorem dX4_isDone_38 : decode cX4_isDone 38 = .ok (.ifCond .eq 12, 3) := by decide +kernel
theorem dX4_isDone_41 : decode cX4_isDone 41 = .ok (.aload_n 1, 1) := by decide +kernel
theorem dX4_isDone_42 : decode cX4_isDone 42 = .ok (.getfield 88, 3) := by decide +kernel
theorem dX4_isDone_45 : decode cX4_isDone 45 = .ok (.bipush 8, 2) := by decide +kernel
theorem dX4_isDone_47 : decode cX4_isDone 47 = .ok (.if_icmp .lt 5, 3) := by decide +kernel
theorem dX4_isDone_50 : decode cX4_isDone 50 = .ok (.iconst 0, 1) := by decide +kernel
theorem dX4_isDone_51 : decode cX4_isDone 51 = .ok (.ireturn, 1) := by decide +kernel
theorem dX4_isDone_52 : decode cX4_isDone 52 = .ok (.aload_n 1, 1) := by decide +kernel
theorem dX4_isDone_53 : decode cX4_isDone 53 = .ok (.iload_n 3, 1) := by decide +kernel
theorem dX4_isDone_54 : decode cX4_isDone 54 = .ok (.iload 4, 2) := by decide +kernel
theorem dX4_isDone_56 : decode cX4_isDone 56 = .ok (.bipush 6, 2) := by decide +kernel
theorem dX4_isDone_58 : decode cX4_isDone 58 = .ok (.aload_n 1, 1) := by decide +kernel
theorem dX4_isDone_59 : decode cX4_isDone 59 = .ok (.iload_n 3, 1) := by decide +kernel
theorem dX4_isDone_60 : decode cX4_isDone 60 = .ok (.iconst 3, 1) := by decide +kernel
theorem dX4_isDone_61 : decode cX4_isDone 61 = .ok (.invokevirtual 132, 3) := by decide +kernel
theorem dX4_isDone_64 : decode cX4_isDone 64 = .ok (.aload_n 0, 1) := by decide +kernel
theorem dX4_isDone_65 : decode cX4_isDone 65 = .ok (.getfield 19, 3) := by decide +kernel
theorem dX4_isDone_68 : decode cX4_isDone 68 = .ok (.invokevirtual 148, 3) := by decide +kernel
theorem dX4_isDone_71 : decode cX4_isDone 71 = .ok (.pop, 1) := by decide +kernel
theorem dX4_isDone_72 : decode cX4_isDone 72 = .ok (.iconst 1, 1) := by decide +kernel
theorem dX4_isDone_73 : decode cX4_isDone 73 = .ok (.ireturn, 1) := by decide +kernel
theorem dX4_worthOfDeed_0 : decode cX4_worthOfDeed 0 = .ok (.iload_n 0, 1) := by decide +kernel
theorem dX4_worthOfDeed_1 : decode cX4_worthOfDeed 1 = .ok (.ifCond .ne 7, 3) := by decide +kernel
theorem dX4_worthOfDeed_4 : decode cX4_worthOfDeed 4 = .ok (.iconst 0, 1) := by decide +kernel
theorem dX4_worthOfDeed_5 : decode cX4_worthOfDeed 5 = .ok (.goto 4, 3) := by decide +kernel
theorem dX4_worthOfDeed_8 : decode cX4_worthOfDeed 8 = .ok (.iconst (-1), 1) := by decide +kernel
theorem dX4_worthOfDeed_9 : decode cX4_worthOfDeed 9 = .ok (.ireturn, 1) := by decide +kernel
theorem dX4_worthBehindPlan_0 : decode cX4_worthBehindPlan 0 = .ok (.aload_n 1, 1) := by decide +kernel
theorem dX4_worthBehindPlan_1 : decode cX4_worthBehindPlan 1 = .ok (.iconst 3, 1) := by decide +kernel
theorem dX4_worthBehindPlan_2 : decode cX4_worthBehindPlan 2 = .ok (.aload_n 0, 1) := by decide +kernel
theorem dX4_worthBehindPlan_3 : decode cX4_worthBehindPlan 3 = .ok (.getfield 19, 3) := by decide +kernel
theorem dX4_worthBehindPlan_6 : decode cX4_worthBehindPlan 6 = .ok (.invokevirtual 181, 3) := by decide +kernel
theorem dX4_worthBehindPlan_9 : decode cX4_worthBehindPlan 9 = .ok (.iconst 3, 1) := by decide +kernel
theorem dX4_worthBehindPlan_10 : decode cX4_worthBehindPlan 10 = .ok (.aload_n 0, 1) := by decide +kernel
theorem dX4_worthBehindPlan_11 : decode cX4_worthBehindPlan 11 = .ok (.aload_n 1, 1) := by decide +kernel
theorem dX4_worthBehindPlan_12 : decode cX4_worthBehindPlan 12 = .ok (.invokevirtual 208, 3) := by decide +kernel
theorem dX4_worthBehindPlan_15 : decode cX4_worthBehindPlan 15 = .ok (.imul, 1) := by decide +kernel
theorem dX4_worthBehindPlan_16 : decode cX4_worthBehindPlan 16 = .ok (.ireturn, 1) := by decide +kernel
theorem dX4_lawsOfWorth_0 : decode cX4_lawsOfWorth 0 = .ok (.iload_n 0, 1) := by decide +kernel
theorem dX4_lawsOfWorth_1 : decode cX4_lawsOfWorth 1 = .ok (.iconst 2, 1) := by decide +kernel
theorem dX4_lawsOfWorth_2 : decode cX4_lawsOfWorth 2 = .ok (.iadd, 1) := by decide +kernel
theorem dX4_lawsOfWorth_3 : decode cX4_lawsOfWorth 3 = .ok (.iconst 3, 1) := by decide +kernel
theorem dX4_lawsOfWorth_4 : decode cX4_lawsOfWorth 4 = .ok (.idiv, 1) := by decide +kernel
theorem dX4_lawsOfWorth_5 : decode cX4_lawsOfWorth 5 = .ok (.ireturn, 1) := by decide +kernel
theorem dX4_landLawsIn_0 : decode cX4_landLawsIn 0 = .ok (.aload_n 0, 1) := by decide +kernel
theorem dX4_landLawsIn_1 : decode cX4_landLawsIn 1 = .ok (.getfield 85, 3) := by decide +kernel
theorem dX4_landLawsIn_4 : decode cX4_landLawsIn 4 = .ok (.aload_n 1, 1) := by decide +kernel
theorem dX4_landLawsIn_5 : decode cX4_landLawsIn 5 = .ok (.invokevirtual 82, 3) := by decide +kernel
theorem dX4_landLawsIn_8 : decode cX4_landLawsIn 8 = .ok (.iand, 1) := by decide +kernel
theorem dX4_landLawsIn_9 : decode cX4_landLawsIn 9 = .ok (.invokestatic 211, 3) := by decide +kernel
theorem dX4_landLawsIn_12 : decode cX4_landLawsIn 12 = .ok (.ireturn, 1) := by decide +kernel
theorem dX4_landLawsBehind_0 : decode cX4_landLawsBehind 0 = .ok (.aload_n 0, 1) := by decide +kernel
theorem dX4_landLawsBehind_1 : decode cX4_landLawsBehind 1 = .ok (.getfield 43, 3) := by decide +kernel
theorem dX4_landLawsBehind_4 : decode cX4_landLawsBehind 4 = .ok (.aload_n 0, 1) := by decide +kernel
theorem dX4_landLawsBehind_5 : decode cX4_landLawsBehind 5 = .ok (.getfield 26, 3) := by decide +kernel
theorem dX4_landLawsBehind_8 : decode cX4_landLawsBehind 8 = .ok (.invokevirtual 168, 3) := by decide +kernel
theorem dX4_landLawsBehind_11 : decode cX4_landLawsBehind 11 = .ok (.aload_n 0, 1) := by decide +kernel
theorem dX4_landLawsBehind_12 : decode cX4_landLawsBehind 12 = .ok (.getfield 43, 3) := by decide +kernel
theorem dX4_landLawsBehind_15 : decode cX4_landLawsBehind 15 = .ok (.iload_n 2, 1) := by decide +kernel
theorem dX4_landLawsBehind_16 : decode cX4_landLawsBehind 16 = .ok (.putfield 109, 3) := by decide +kernel
theorem dX4_landLawsBehind_19 : decode cX4_landLawsBehind 19 = .ok (.aload_n 0, 1) := by decide +kernel
theorem dX4_landLawsBehind_20 : decode cX4_landLawsBehind 20 = .ok (.getfield 43, 3) := by decide +kernel
theorem dX4_landLawsBehind_23 : decode cX4_landLawsBehind 23 = .ok (.iload_n 1, 1) := by decide +kernel
theorem dX4_landLawsBehind_24 : decode cX4_landLawsBehind 24 = .ok (.aload_n 0, 1) := by decide +kernel
theorem dX4_landLawsBehind_25 : decode cX4_landLawsBehind 25 = .ok (.getfield 19, 3) := by decide +kernel
theorem dX4_landLawsBehind_28 : decode cX4_landLawsBehind 28 = .ok (.invokevirtual 181, 3) := by decide +kernel
theorem dX4_landLawsBehind_31 : decode cX4_landLawsBehind 31 = .ok (.aload_n 0, 1) := by decide +kernel
theorem dX4_landLawsBehind_32 : decode cX4_landLawsBehind 32 = .ok (.aload_n 0, 1) := by decide +kernel
theorem dX4_landLawsBehind_33 : decode cX4_landLawsBehind 33 = .ok (.getfield 43, 3) := by decide +kernel
theorem dX4_landLawsBehind_36 : decode cX4_landLawsBehind 36 = .ok (.invokevirtual 208, 3) := by decide +kernel
theorem dX4_landLawsBehind_39 : decode cX4_landLawsBehind 39 = .ok (.ireturn, 1) := by decide +kernel
theorem dX4_bestLid_0 : decode cX4_bestLid 0 = .ok (.iload_n 1, 1) := by decide +kernel
theorem dX4_bestLid_1 : decode cX4_bestLid 1 = .ok (.iconst 1, 1) := by decide +kernel
theorem dX4_bestLid_2 : decode cX4_bestLid 2 = .ok (.bipush 9, 2) := by decide +kernel
theorem dX4_bestLid_4 : decode cX4_bestLid 4 = .ok (.invokestatic 128, 3) := by decide +kernel
theorem dX4_bestLid_7 : decode cX4_bestLid 7 = .ok (.ifCond .ne 6, 3) := by decide +kernel
theorem dX4_bestLid_10 : decode cX4_bestLid 10 = .ok (.bipush (-2), 2) := by decide +kernel
theorem dX4_bestLid_12 : decode cX4_bestLid 12 = .ok (.ireturn, 1) := by decide +kernel
theorem dX4_bestLid_13 : decode cX4_bestLid 13 = .ok (.bipush (-9), 2) := by decide +kernel
theorem dX4_bestLid_15 : decode cX4_bestLid 15 = .ok (.istore_n 2, 1) := by decide +kernel
theorem dX4_bestLid_16 : decode cX4_bestLid 16 = .ok (.aload_n 0, 1) := by decide +kernel
theorem dX4_bestLid_17 : decode cX4_bestLid 17 = .ok (.iload_n 1, 1) := by decide +kernel
theorem dX4_bestLid_18 : decode cX4_bestLid 18 = .ok (.aload_n 0, 1) := by decide +kernel
theorem dX4_bestLid_19 : decode cX4_bestLid 19 = .ok (.getfield 26, 3) := by decide +kernel
theorem dX4_bestLid_22 : decode cX4_bestLid 22 = .ok (.getfield 109, 3) := by decide +kernel
theorem dX4_bestLid_25 : decode cX4_bestLid 25 = .ok (.invokevirtual 216, 3) := by decide +kernel
theorem dX4_bestLid_28 : decode cX4_bestLid 28 = .ok (.istore_n 3, 1) := by decide +kernel
theorem dX4_bestLid_29 : decode cX4_bestLid 29 = .ok (.iconst 0, 1) := by decide +kernel
theorem dX4_bestLid_30 : decode cX4_bestLid 30 = .ok (.istore 4, 2) := by decide +kernel
theorem dX4_bestLid_32 : decode cX4_bestLid 32 = .ok (.iload 4, 2) := by decide +kernel
theorem dX4_bestLid_34 : decode cX4_bestLid 34 = .ok (.aload_n 0, 1) := by decide +kernel
theorem dX4_bestLid_35 : decode cX4_bestLid 35 = .ok (.getfield 19, 3) := by decide +kernel
theorem dX4_bestLid_38 : decode cX4_bestLid 38 = .ok (.getfield 68, 3) := by decide +kernel
theorem dX4_bestLid_41 : decode cX4_bestLid 41 = .ok (.if_icmp .ge 56, 3) := by decide +kernel
theorem dX4_bestLid_44 : decode cX4_bestLid 44 = .ok (.aload_n 0, 1) := by decide +kernel
theorem dX4_bestLid_45 : decode cX4_bestLid 45 = .ok (.getfield 26, 3) := by decide +kernel
theorem dX4_bestLid_48 : decode cX4_bestLid 48 = .ok (.iload 4, 2) := by decide +kernel
theorem dX4_bestLid_50 : decode cX4_bestLid 50 = .ok (.invokevirtual 121, 3) := by decide +kernel
theorem dX4_bestLid_53 : decode cX4_bestLid 53 = .ok (.ifCond .eq 7, 3) := by decide +kernel
theorem dX4_bestLid_56 : decode cX4_bestLid 56 = .ok (.iconst 0, 1) := by decide +kernel
theorem dX4_bestLid_57 : decode cX4_bestLid 57 = .ok (.goto 20, 3) := by decide +kernel
theorem dX4_bestLid_60 : decode cX4_bestLid 60 = .ok (.aload_n 0, 1) := by decide +kernel
theorem dX4_bestLid_61 : decode cX4_bestLid 61 = .ok (.iload_n 1, 1) := by decide +kernel
theorem dX4_bestLid_62 : decode cX4_bestLid 62 = .ok (.aload_n 0, 1) := by decide +kernel
theorem dX4_bestLid_63 : decode cX4_bestLid 63 = .ok (.getfield 26, 3) := by decide +kernel
theorem dX4_bestLid_66 : decode cX4_bestLid 66 = .ok (.getfield 109, 3) := by decide +kernel
theorem dX4_bestLid_69 : decode cX4_bestLid 69 = .ok (.iconst 1, 1) := by decide +kernel
theorem dX4_bestLid_70 : decode cX4_bestLid 70 = .ok (.iload 4, 2) := by decide +kernel
theorem dX4_bestLid_72 : decode cX4_bestLid 72 = .ok (.ishl, 1) := by decide +kernel
theorem dX4_bestLid_73 : decode cX4_bestLid 73 = .ok (.ior, 1) := by decide +kernel
theorem dX4_bestLid_74 : decode cX4_bestLid 74 = .ok (.invokevirtual 216, 3) := by decide +kernel
theorem dX4_bestLid_77 : decode cX4_bestLid 77 = .ok (.istore 5, 2) := by decide +kernel
theorem dX4_bestLid_79 : decode cX4_bestLid 79 = .ok (.iload 5, 2) := by decide +kernel
theorem dX4_bestLid_81 : decode cX4_bestLid 81 = .ok (.iload_n 3, 1) := by decide +kernel
theorem dX4_bestLid_82 : decode cX4_bestLid 82 = .ok (.if_icmp .le 9, 3) := by decide +kernel
theorem dX4_bestLid_85 : decode cX4_bestLid 85 = .ok (.iload 5, 2) := by decide +kernel
theorem dX4_bestLid_87 : decode cX4_bestLid 87 = .ok (.istore_n 3, 1) := by decide +kernel
theorem dX4_bestLid_88 : decode cX4_bestLid 88 = .ok (.iload 4, 2) := by decide +kernel
theorem dX4_bestLid_90 : decode cX4_bestLid 90 = .ok (.istore_n 2, 1) := by decide +kernel
theorem dX4_bestLid_91 : decode cX4_bestLid 91 = .ok (.iinc 4 1, 3) := by decide +kernel
theorem dX4_bestLid_94 : decode cX4_bestLid 94 = .ok (.goto (-62), 3) := by decide +kernel
theorem dX4_bestLid_97 : decode cX4_bestLid 97 = .ok (.iload_n 2, 1) := by decide +kernel
theorem dX4_bestLid_98 : decode cX4_bestLid 98 = .ok (.ireturn, 1) := by decide +kernel
theorem dX4_lamps_0 : decode cX4_lamps 0 = .ok (.aload_n 0, 1) := by decide +kernel
theorem dX4_lamps_1 : decode cX4_lamps 1 = .ok (.getfield 26, 3) := by decide +kernel
theorem dX4_lamps_4 : decode cX4_lamps 4 = .ok (.invokevirtual 82, 3) := by decide +kernel
theorem dX4_lamps_7 : decode cX4_lamps 7 = .ok (.istore_n 1, 1) := by decide +kernel
theorem dX4_lamps_8 : decode cX4_lamps 8 = .ok (.aload_n 0, 1) := by decide +kernel
theorem dX4_lamps_9 : decode cX4_lamps 9 = .ok (.invokevirtual 219, 3) := by decide +kernel
theorem dX4_lamps_12 : decode cX4_lamps 12 = .ok (.lstore_n 2, 1) := by decide +kernel
theorem dX4_lamps_13 : decode cX4_lamps 13 = .ok (.lconst 1, 1) := by decide +kernel
theorem dX4_lamps_14 : decode cX4_lamps 14 = .ok (.lstore 4, 2) := by decide +kernel
theorem dX4_lamps_16 : decode cX4_lamps 16 = .ok (.iconst 0, 1) := by decide +kernel
theorem dX4_lamps_17 : decode cX4_lamps 17 = .ok (.istore 6, 2) := by decide +kernel
theorem dX4_lamps_19 : decode cX4_lamps 19 = .ok (.iload 6, 2) := by decide +kernel
theorem dX4_lamps_21 : decode cX4_lamps 21 = .ok (.bipush 6, 2) := by decide +kernel
theorem dX4_lamps_23 : decode cX4_lamps 23 = .ok (.if_icmp .gt 31, 3) := by decide +kernel
theorem dX4_lamps_26 : decode cX4_lamps 26 = .ok (.lload 4, 2) := by decide +kernel
theorem dX4_lamps_28 : decode cX4_lamps 28 = .ok (.iload_n 1, 1) := by decide +kernel
theorem dX4_lamps_29 : decode cX4_lamps 29 = .ok (.lushr, 1) := by decide +kernel
theorem dX4_lamps_30 : decode cX4_lamps 30 = .ok (.lconst 1, 1) := by decide +kernel
theorem dX4_lamps_31 : decode cX4_lamps 31 = .ok (.land, 1) := by decide +kernel
theorem dX4_lamps_32 : decode cX4_lamps 32 = .ok (.lconst 1, 1) := by decide +kernel
theorem dX4_lamps_33 : decode cX4_lamps 33 = .ok (.lcmp, 1) := by decide +kernel
theorem dX4_lamps_34 : decode cX4_lamps 34 = .ok (.ifCond .ne 6, 3) := by decide +kernel
theorem dX4_lamps_37 : decode cX4_lamps 37 = .ok (.iload 6, 2) := by decide +kernel
theorem dX4_lamps_39 : decode cX4_lamps 39 = .ok (.ireturn, 1) := by decide +kernel
theorem dX4_lamps_40 : decode cX4_lamps 40 = .ok (.lload 4, 2) := by decide +kernel
theorem dX4_lamps_42 : decode cX4_lamps 42 = .ok (.lload_n 2, 1) := by decide +kernel
theorem dX4_lamps_43 : decode cX4_lamps 43 = .ok (.invokestatic 223, 3) := by decide +kernel
theorem dX4_lamps_46 : decode cX4_lamps 46 = .ok (.lstore 4, 2) := by decide +kernel
theorem dX4_lamps_48 : decode cX4_lamps 48 = .ok (.iinc 6 1, 3) := by decide +kernel
theorem dX4_lamps_51 : decode cX4_lamps 51 = .ok (.goto (-32), 3) := by decide +kernel
theorem dX4_lamps_54 : decode cX4_lamps 54 = .ok (.bipush (-9), 2) := by decide +kernel
theorem dX4_lamps_56 : decode cX4_lamps 56 = .ok (.ireturn, 1) := by decide +kernel
theorem dX4_lawsByOneLamp_0 : decode cX4_lawsByOneLamp 0 = .ok (.lconst 0, 1) := by decide +kernel
theorem dX4_lawsByOneLamp_1 : decode cX4_lawsByOneLamp 1 = .ok (.lstore_n 1, 1) := by decide +kernel
theorem dX4_lawsByOneLamp_2 : decode cX4_lawsByOneLamp 2 = .ok (.iconst 0, 1) := by decide +kernel
theorem dX4_lawsByOneLamp_3 : decode cX4_lawsByOneLamp 3 = .ok (.istore_n 3, 1) := by decide +kernel
theorem dX4_lawsByOneLamp_4 : decode cX4_lawsByOneLamp 4 = .ok (.iload_n 3, 1) := by decide +kernel
theorem dX4_lawsByOneLamp_5 : decode cX4_lawsByOneLamp 5 = .ok (.aload_n 0, 1) := by decide +kernel
theorem dX4_lawsByOneLamp_6 : decode cX4_lawsByOneLamp 6 = .ok (.getfield 19, 3) := by decide +kernel
theorem dX4_lawsByOneLamp_9 : decode cX4_lawsByOneLamp 9 = .ok (.getfield 68, 3) := by decide +kernel
theorem dX4_lawsByOneLamp_12 : decode cX4_lawsByOneLamp 12 = .ok (.if_icmp .ge 45, 3) := by decide +kernel
theorem dX4_lawsByOneLamp_15 : decode cX4_lawsByOneLamp 15 = .ok (.iconst 0, 1) := by decide +kernel
theorem dX4_lawsByOneLamp_16 : decode cX4_lawsByOneLamp 16 = .ok (.istore 4, 2) := by decide +kernel
theorem dX4_lawsByOneLamp_18 : decode cX4_lawsByOneLamp 18 = .ok (.iload 4, 2) := by decide +kernel
theorem dX4_lawsByOneLamp_20 : decode cX4_lawsByOneLamp 20 = .ok (.bipush 9, 2) := by decide +kernel
theorem dX4_lawsByOneLamp_22 : decode cX4_lawsByOneLamp 22 = .ok (.if_icmp .gt 29, 3) := by decide +kernel
theorem dX4_lawsByOneLamp_25 : decode cX4_lawsByOneLamp 25 = .ok (.lload_n 1, 1) := by decide +kernel
theorem dX4_lawsByOneLamp_26 : decode cX4_lawsByOneLamp 26 = .ok (.lconst 1, 1) := by decide +kernel
theorem dX4_lawsByOneLamp_27 : decode cX4_lawsByOneLamp 27 = .ok (.aload_n 0, 1) := by decide +kernel
theorem dX4_lawsByOneLamp_28 : decode cX4_lawsByOneLamp 28 = .ok (.getfield 26, 3) := by decide +kernel
theorem dX4_lawsByOneLamp_31 : decode cX4_lawsByOneLamp 31 = .ok (.aload_n 0, 1) := by decide +kernel
theorem dX4_lawsByOneLamp_32 : decode cX4_lawsByOneLamp 32 = .ok (.iload_n 3, 1) := by decide +kernel
theorem dX4_lawsByOneLamp_33 : decode cX4_lawsByOneLamp 33 = .ok (.iload 4, 2) := by decide +kernel
theorem dX4_lawsByOneLamp_35 : decode cX4_lawsByOneLamp 35 = .ok (.iconst 0, 1) := by decide +kernel
theorem dX4_lawsByOneLamp_36 : decode cX4_lawsByOneLamp 36 = .ok (.invokevirtual 156, 3) := by decide +kernel
theorem dX4_lawsByOneLamp_39 : decode cX4_lawsByOneLamp 39 = .ok (.invokevirtual 227, 3) := by decide +kernel
theorem dX4_lawsByOneLamp_42 : decode cX4_lawsByOneLamp 42 = .ok (.lshl, 1) := by decide +kernel
theorem dX4_lawsByOneLamp_43 : decode cX4_lawsByOneLamp 43 = .ok (.lor, 1) := by decide +kernel
theorem dX4_lawsByOneLamp_44 : decode cX4_lawsByOneLamp 44 = .ok (.lstore_n 1, 1) := by decide +kernel
theorem dX4_lawsByOneLamp_45 : decode cX4_lawsByOneLamp 45 = .ok (.iinc 4 1, 3) := by decide +kernel
theorem dX4_lawsByOneLamp_48 : decode cX4_lawsByOneLamp 48 = .ok (.goto (-30), 3) := by decide +kernel
theorem dX4_lawsByOneLamp_51 : decode cX4_lawsByOneLamp 51 = .ok (.iinc 3 1, 3) := by decide +kernel
theorem dX4_lawsByOneLamp_54 : decode cX4_lawsByOneLamp 54 = .ok (.goto (-50), 3) := by decide +kernel
theorem dX4_lawsByOneLamp_57 : decode cX4_lawsByOneLamp 57 = .ok (.lload_n 1, 1) := by decide +kernel
theorem dX4_lawsByOneLamp_58 : decode cX4_lawsByOneLamp 58 = .ok (.lreturn, 1) := by decide +kernel
theorem dX4_joined_0 : decode cX4_joined 0 = .ok (.lconst 0, 1) := by decide +kernel
theorem dX4_joined_1 : decode cX4_joined 1 = .ok (.lstore 4, 2) := by decide +kernel
theorem dX4_joined_3 : decode cX4_joined 3 = .ok (.iconst 0, 1) := by decide +kernel
theorem dX4_joined_4 : decode cX4_joined 4 = .ok (.istore 6, 2) := by decide +kernel
theorem dX4_joined_6 : decode cX4_joined 6 = .ok (.iload 6, 2) := by decide +kernel
theorem dX4_joined_8 : decode cX4_joined 8 = .ok (.bipush 64, 2) := by decide +kernel
theorem dX4_joined_10 : decode cX4_joined 10 = .ok (.if_icmp .ge 31, 3) := by decide +kernel
theorem dX4_joined_13 : decode cX4_joined 13 = .ok (.lload_n 0, 1) := by decide +kernel
theorem dX4_joined_14 : decode cX4_joined 14 = .ok (.iload 6, 2) := by decide +kernel
theorem dX4_joined_16 : decode cX4_joined 16 = .ok (.lushr, 1) := by decide +kernel
theorem dX4_joined_17 : decode cX4_joined 17 = .ok (.lconst 1, 1) := by decide +kernel
theorem dX4_joined_18 : decode cX4_joined 18 = .ok (.land, 1) := by decide +kernel
theorem dX4_joined_19 : decode cX4_joined 19 = .ok (.lconst 1, 1) := by decide +kernel
theorem dX4_joined_20 : decode cX4_joined 20 = .ok (.lcmp, 1) := by decide +kernel
theorem dX4_joined_21 : decode cX4_joined 21 = .ok (.ifCond .ne 14, 3) := by decide +kernel
theorem dX4_joined_24 : decode cX4_joined 24 = .ok (.lload 4, 2) := by decide +kernel
theorem dX4_joined_26 : decode cX4_joined 26 = .ok (.iload 6, 2) := by decide +kernel
theorem dX4_joined_28 : decode cX4_joined 28 = .ok (.lload_n 2, 1) := by decide +kernel
theorem dX4_joined_29 : decode cX4_joined 29 = .ok (.invokestatic 230, 3) := by decide +kernel
theorem dX4_joined_32 : decode cX4_joined 32 = .ok (.lor, 1) := by decide +kernel
theorem dX4_joined_33 : decode cX4_joined 33 = .ok (.lstore 4, 2) := by decide +kernel
theorem dX4_joined_35 : decode cX4_joined 35 = .ok (.iinc 6 1, 3) := by decide +kernel
theorem dX4_joined_38 : decode cX4_joined 38 = .ok (.goto (-32), 3) := by decide +kernel
theorem dX4_joined_41 : decode cX4_joined 41 = .ok (.lload 4, 2) := by decide +kernel
theorem dX4_joined_43 : decode cX4_joined 43 = .ok (.lreturn, 1) := by decide +kernel
theorem dX4_joinedWithEach_0 : decode cX4_joinedWithEach 0 = .ok (.lconst 0, 1) := by decide +kernel
theorem dX4_joinedWithEach_1 : decode cX4_joinedWithEach 1 = .ok (.lstore_n 3, 1) := by decide +kernel
theorem dX4_joinedWithEach_2 : decode cX4_joinedWithEach 2 = .ok (.iconst 0, 1) := by decide +kernel
theorem dX4_joinedWithEach_3 : decode cX4_joinedWithEach 3 = .ok (.istore 5, 2) := by decide +kernel
theorem dX4_joinedWithEach_5 : decode cX4_joinedWithEach 5 = .ok (.iload 5, 2) := by decide +kernel
theorem dX4_joinedWithEach_7 : decode cX4_joinedWithEach 7 = .ok (.bipush 64, 2) := by decide +kernel
theorem dX4_joinedWithEach_9 : decode cX4_joinedWithEach 9 = .ok (.if_icmp .ge 29, 3) := by decide +kernel
theorem dX4_joinedWithEach_12 : decode cX4_joinedWithEach 12 = .ok (.lload_n 1, 1) := by decide +kernel
theorem dX4_joinedWithEach_13 : decode cX4_joinedWithEach 13 = .ok (.iload 5, 2) := by decide +kernel
theorem dX4_joinedWithEach_15 : decode cX4_joinedWithEach 15 = .ok (.lushr, 1) := by decide +kernel
theorem dX4_joinedWithEach_16 : decode cX4_joinedWithEach 16 = .ok (.lconst 1, 1) := by decide +kernel
theorem dX4_joinedWithEach_17 : decode cX4_joinedWithEach 17 = .ok (.land, 1) := by decide +kernel
theorem dX4_joinedWithEach_18 : decode cX4_joinedWithEach 18 = .ok (.lconst 1, 1) := by decide +kernel
theorem dX4_joinedWithEach_19 : decode cX4_joinedWithEach 19 = .ok (.lcmp, 1) := by decide +kernel
theorem dX4_joinedWithEach_20 : decode cX4_joinedWithEach 20 = .ok (.ifCond .ne 12, 3) := by decide +kernel
theorem dX4_joinedWithEach_23 : decode cX4_joinedWithEach 23 = .ok (.lload_n 3, 1) := by decide +kernel
theorem dX4_joinedWithEach_24 : decode cX4_joinedWithEach 24 = .ok (.lconst 1, 1) := by decide +kernel
theorem dX4_joinedWithEach_25 : decode cX4_joinedWithEach 25 = .ok (.iload_n 0, 1) := by decide +kernel
theorem dX4_joinedWithEach_26 : decode cX4_joinedWithEach 26 = .ok (.iload 5, 2) := by decide +kernel
theorem dX4_joinedWithEach_28 : decode cX4_joinedWithEach 28 = .ok (.ior, 1) := by decide +kernel
theorem dX4_joinedWithEach_29 : decode cX4_joinedWithEach 29 = .ok (.lshl, 1) := by decide +kernel
theorem dX4_joinedWithEach_30 : decode cX4_joinedWithEach 30 = .ok (.lor, 1) := by decide +kernel
theorem dX4_joinedWithEach_31 : decode cX4_joinedWithEach 31 = .ok (.lstore_n 3, 1) := by decide +kernel
theorem dX4_joinedWithEach_32 : decode cX4_joinedWithEach 32 = .ok (.iinc 5 1, 3) := by decide +kernel
theorem dX4_joinedWithEach_35 : decode cX4_joinedWithEach 35 = .ok (.goto (-30), 3) := by decide +kernel
theorem dX4_joinedWithEach_38 : decode cX4_joinedWithEach 38 = .ok (.lload_n 3, 1) := by decide +kernel
theorem dX4_joinedWithEach_39 : decode cX4_joinedWithEach 39 = .ok (.lreturn, 1) := by decide +kernel
theorem dX4_mostPitch_0 : decode cX4_mostPitch 0 = .ok (.iload_n 1, 1) := by decide +kernel
theorem dX4_mostPitch_1 : decode cX4_mostPitch 1 = .ok (.iconst 0, 1) := by decide +kernel
theorem dX4_mostPitch_2 : decode cX4_mostPitch 2 = .ok (.iconst 5, 1) := by decide +kernel
theorem dX4_mostPitch_3 : decode cX4_mostPitch 3 = .ok (.invokestatic 128, 3) := by decide +kernel
theorem dX4_mostPitch_6 : decode cX4_mostPitch 6 = .ok (.ifCond .ne 6, 3) := by decide +kernel
theorem dX4_mostPitch_9 : decode cX4_mostPitch 9 = .ok (.bipush (-2), 2) := by decide +kernel
theorem dX4_mostPitch_11 : decode cX4_mostPitch 11 = .ok (.ireturn, 1) := by decide +kernel
theorem dX4_mostPitch_12 : decode cX4_mostPitch 12 = .ok (.bipush (-9), 2) := by decide +kernel
theorem dX4_mostPitch_14 : decode cX4_mostPitch 14 = .ok (.istore_n 2, 1) := by decide +kernel
theorem dX4_mostPitch_15 : decode cX4_mostPitch 15 = .ok (.iconst 0, 1) := by decide +kernel
theorem dX4_mostPitch_16 : decode cX4_mostPitch 16 = .ok (.istore_n 3, 1) := by decide +kernel
theorem dX4_mostPitch_17 : decode cX4_mostPitch 17 = .ok (.iconst 0, 1) := by decide +kernel
theorem dX4_mostPitch_18 : decode cX4_mostPitch 18 = .ok (.istore 4, 2) := by decide +kernel
theorem dX4_mostPitch_20 : decode cX4_mostPitch 20 = .ok (.iload 4, 2) := by decide +kernel
theorem dX4_mostPitch_22 : decode cX4_mostPitch 22 = .ok (.iconst 4, 1) := by decide +kernel
theorem dX4_mostPitch_23 : decode cX4_mostPitch 23 = .ok (.if_icmp .ge 45, 3) := by decide +kernel
theorem dX4_mostPitch_26 : decode cX4_mostPitch 26 = .ok (.aload_n 0, 1) := by decide +kernel
theorem dX4_mostPitch_27 : decode cX4_mostPitch 27 = .ok (.getfield 26, 3) := by decide +kernel
theorem dX4_mostPitch_30 : decode cX4_mostPitch 30 = .ok (.iload_n 1, 1) := by decide +kernel
theorem dX4_mostPitch_31 : decode cX4_mostPitch 31 = .ok (.iload 4, 2) := by decide +kernel
theorem dX4_mostPitch_33 : decode cX4_mostPitch 33 = .ok (.invokevirtual 234, 3) := by decide +kernel
theorem dX4_mostPitch_36 : decode cX4_mostPitch 36 = .ok (.istore 5, 2) := by decide +kernel
theorem dX4_mostPitch_38 : decode cX4_mostPitch 38 = .ok (.iload 5, 2) := by decide +kernel
theorem dX4_mostPitch_40 : decode cX4_mostPitch 40 = .ok (.iload_n 3, 1) := by decide +kernel
theorem dX4_mostPitch_41 : decode cX4_mostPitch 41 = .ok (.if_icmp .le 12, 3) := by decide +kernel
theorem dX4_mostPitch_44 : decode cX4_mostPitch 44 = .ok (.iload 5, 2) := by decide +kernel
theorem dX4_mostPitch_46 : decode cX4_mostPitch 46 = .ok (.istore_n 3, 1) := by decide +kernel
theorem dX4_mostPitch_47 : decode cX4_mostPitch 47 = .ok (.iload 4, 2) := by decide +kernel
theorem dX4_mostPitch_49 : decode cX4_mostPitch 49 = .ok (.istore_n 2, 1) := by decide +kernel
theorem dX4_mostPitch_50 : decode cX4_mostPitch 50 = .ok (.goto 12, 3) := by decide +kernel
theorem dX4_mostPitch_53 : decode cX4_mostPitch 53 = .ok (.iload 5, 2) := by decide +kernel
theorem dX4_mostPitch_55 : decode cX4_mostPitch 55 = .ok (.iload_n 3, 1) := by decide +kernel
theorem dX4_mostPitch_56 : decode cX4_mostPitch 56 = .ok (.if_icmp .ne 6, 3) := by decide +kernel
theorem dX4_mostPitch_59 : decode cX4_mostPitch 59 = .ok (.bipush (-9), 2) := by decide +kernel
theorem dX4_mostPitch_61 : decode cX4_mostPitch 61 = .ok (.istore_n 2, 1) := by decide +kernel
theorem dX4_mostPitch_62 : decode cX4_mostPitch 62 = .ok (.iinc 4 1, 3) := by decide +kernel
theorem dX4_mostPitch_65 : decode cX4_mostPitch 65 = .ok (.goto (-45), 3) := by decide +kernel
theorem dX4_mostPitch_68 : decode cX4_mostPitch 68 = .ok (.iload_n 2, 1) := by decide +kernel
theorem dX4_mostPitch_69 : decode cX4_mostPitch 69 = .ok (.ireturn, 1) := by decide +kernel
theorem dX4_truest_0 : decode cX4_truest 0 = .ok (.iload_n 1, 1) := by decide +kernel
theorem dX4_truest_1 : decode cX4_truest 1 = .ok (.iconst 0, 1) := by decide +kernel
theorem dX4_truest_2 : decode cX4_truest 2 = .ok (.iconst 5, 1) := by decide +kernel
theorem dX4_truest_3 : decode cX4_truest 3 = .ok (.invokestatic 128, 3) := by decide +kernel
theorem dX4_truest_6 : decode cX4_truest 6 = .ok (.ifCond .ne 6, 3) := by decide +kernel
theorem dX4_truest_9 : decode cX4_truest 9 = .ok (.bipush (-2), 2) := by decide +kernel
theorem dX4_truest_11 : decode cX4_truest 11 = .ok (.ireturn, 1) := by decide +kernel
theorem dX4_truest_12 : decode cX4_truest 12 = .ok (.bipush (-9), 2) := by decide +kernel
theorem dX4_truest_14 : decode cX4_truest 14 = .ok (.istore_n 2, 1) := by decide +kernel
theorem dX4_truest_15 : decode cX4_truest 15 = .ok (.iconst 0, 1) := by decide +kernel
theorem dX4_truest_16 : decode cX4_truest 16 = .ok (.istore_n 3, 1) := by decide +kernel
theorem dX4_truest_17 : decode cX4_truest 17 = .ok (.iload_n 3, 1) := by decide +kernel
theorem dX4_truest_18 : decode cX4_truest 18 = .ok (.aload_n 0, 1) := by decide +kernel
theorem dX4_truest_19 : decode cX4_truest 19 = .ok (.getfield 26, 3) := by decide +kernel
theorem dX4_truest_22 : decode cX4_truest 22 = .ok (.getfield 88, 3) := by decide +kernel
theorem dX4_truest_25 : decode cX4_truest 25 = .ok (.if_icmp .ge 63, 3) := by decide +kernel
theorem dX4_truest_28 : decode cX4_truest 28 = .ok (.aload_n 0, 1) := by decide +kernel
theorem dX4_truest_29 : decode cX4_truest 29 = .ok (.getfield 26, 3) := by decide +kernel
theorem dX4_truest_32 : decode cX4_truest 32 = .ok (.iload_n 3, 1) := by decide +kernel
theorem dX4_truest_33 : decode cX4_truest 33 = .ok (.iconst 0, 1) := by decide +kernel
theorem dX4_truest_34 : decode cX4_truest 34 = .ok (.invokevirtual 132, 3) := by decide +kernel
theorem dX4_truest_37 : decode cX4_truest 37 = .ok (.iload_n 1, 1) := by decide +kernel
theorem dX4_truest_38 : decode cX4_truest 38 = .ok (.if_icmp .ne 7, 3) := by decide +kernel
theorem dX4_truest_41 : decode cX4_truest 41 = .ok (.iconst 1, 1) := by decide +kernel
theorem dX4_truest_42 : decode cX4_truest 42 = .ok (.goto 4, 3) := by decide +kernel
theorem dX4_truest_45 : decode cX4_truest 45 = .ok (.iconst 0, 1) := by decide +kernel
theorem dX4_truest_46 : decode cX4_truest 46 = .ok (.istore 4, 2) := by decide +kernel
theorem dX4_truest_48 : decode cX4_truest 48 = .ok (.iload 4, 2) := by decide +kernel
theorem dX4_truest_50 : decode cX4_truest 50 = .ok (.ifCond .eq 32, 3) := by decide +kernel
theorem dX4_truest_53 : decode cX4_truest 53 = .ok (.iload_n 2, 1) := by decide +kernel
theorem dX4_truest_54 : decode cX4_truest 54 = .ok (.bipush (-9), 2) := by decide +kernel
theorem dX4_truest_56 : decode cX4_truest 56 = .ok (.if_icmp .eq 24, 3) := by decide +kernel
theorem dX4_truest_59 : decode cX4_truest 59 = .ok (.aload_n 0, 1) := by decide +kernel
theorem dX4_truest_60 : decode cX4_truest 60 = .ok (.getfield 26, 3) := by decide +kernel
theorem dX4_truest_63 : decode cX4_truest 63 = .ok (.iload_n 3, 1) := by decide +kernel
theorem dX4_truest_64 : decode cX4_truest 64 = .ok (.iconst 5, 1) := by decide +kernel
theorem dX4_truest_65 : decode cX4_truest 65 = .ok (.invokevirtual 132, 3) := by decide +kernel
theorem dX4_truest_68 : decode cX4_truest 68 = .ok (.aload_n 0, 1) := by decide +kernel
theorem dX4_truest_69 : decode cX4_truest 69 = .ok (.getfield 26, 3) := by decide +kernel
theorem dX4_truest_72 : decode cX4_truest 72 = .ok (.iload_n 2, 1) := by decide +kernel
theorem dX4_truest_73 : decode cX4_truest 73 = .ok (.iconst 5, 1) := by decide +kernel
theorem dX4_truest_74 : decode cX4_truest 74 = .ok (.invokevirtual 132, 3) := by decide +kernel
theorem dX4_truest_77 : decode cX4_truest 77 = .ok (.if_icmp .ge 5, 3) := by decide +kernel
theorem dX4_truest_80 : decode cX4_truest 80 = .ok (.iload_n 3, 1) := by decide +kernel
theorem dX4_truest_81 : decode cX4_truest 81 = .ok (.istore_n 2, 1) := by decide +kernel
theorem dX4_truest_82 : decode cX4_truest 82 = .ok (.iinc 3 1, 3) := by decide +kernel
theorem dX4_truest_85 : decode cX4_truest 85 = .ok (.goto (-68), 3) := by decide +kernel
theorem dX4_truest_88 : decode cX4_truest 88 = .ok (.iload_n 2, 1) := by decide +kernel
theorem dX4_truest_89 : decode cX4_truest 89 = .ok (.ireturn, 1) := by decide +kernel
theorem dX4_back_0 : decode cX4_back 0 = .ok (.aload_n 0, 1) := by decide +kernel
theorem dX4_back_1 : decode cX4_back 1 = .ok (.getfield 19, 3) := by decide +kernel
theorem dX4_back_4 : decode cX4_back 4 = .ok (.iload_n 1, 1) := by decide +kernel
theorem dX4_back_5 : decode cX4_back 5 = .ok (.invokevirtual 112, 3) := by decide +kernel
theorem dX4_back_8 : decode cX4_back 8 = .ok (.ifCond .ne 5, 3) := by decide +kernel
theorem dX4_back_11 : decode cX4_back 11 = .ok (.iconst (-1), 1) := by decide +kernel
theorem dX4_back_12 : decode cX4_back 12 = .ok (.ireturn, 1) := by decide +kernel
theorem dX4_back_13 : decode cX4_back 13 = .ok (.iload_n 2, 1) := by decide +kernel
theorem dX4_back_14 : decode cX4_back 14 = .ok (.iconst 1, 1) := by decide +kernel
theorem dX4_back_15 : decode cX4_back 15 = .ok (.bipush 9, 2) := by decide +kernel
theorem dX4_back_17 : decode cX4_back 17 = .ok (.invokestatic 128, 3) := by decide +kernel
theorem dX4_back_20 : decode cX4_back 20 = .ok (.ifCond .eq 13, 3) := by decide +kernel
theorem dX4_back_23 : decode cX4_back 23 = .ok (.iload_n 3, 1) := by decide +kernel
theorem dX4_back_24 : decode cX4_back 24 = .ok (.iconst 0, 1) := by decide +kernel
theorem dX4_back_25 : decode cX4_back 25 = .ok (.bipush 9, 2) := by decide +kernel
theorem dX4_back_27 : decode cX4_back 27 = .ok (.invokestatic 128, 3) := by decide +kernel
theorem dX4_back_30 : decode cX4_back 30 = .ok (.ifCond .ne 6, 3) := by decide +kernel
theorem dX4_back_33 : decode cX4_back 33 = .ok (.bipush (-2), 2) := by decide +kernel
theorem dX4_back_35 : decode cX4_back 35 = .ok (.ireturn, 1) := by decide +kernel
theorem dX4_back_36 : decode cX4_back 36 = .ok (.iload_n 2, 1) := by decide +kernel
theorem dX4_back_37 : decode cX4_back 37 = .ok (.iload_n 3, 1) := by decide +kernel
theorem dX4_back_38 : decode cX4_back 38 = .ok (.aload_n 0, 1) := by decide +kernel
theorem dX4_back_39 : decode cX4_back 39 = .ok (.getfield 19, 3) := by decide +kernel
theorem dX4_back_42 : decode cX4_back 42 = .ok (.iload_n 1, 1) := by decide +kernel
theorem dX4_back_43 : decode cX4_back 43 = .ok (.aload_n 0, 1) := by decide +kernel
theorem dX4_back_44 : decode cX4_back 44 = .ok (.getfield 26, 3) := by decide +kernel
theorem dX4_back_47 : decode cX4_back 47 = .ok (.iload_n 1, 1) := by decide +kernel
theorem dX4_back_48 : decode cX4_back 48 = .ok (.invokevirtual 121, 3) := by decide +kernel
theorem dX4_back_51 : decode cX4_back 51 = .ok (.invokevirtual 237, 3) := by decide +kernel
theorem dX4_back_54 : decode cX4_back 54 = .ok (.imul, 1) := by decide +kernel
theorem dX4_back_55 : decode cX4_back 55 = .ok (.iadd, 1) := by decide +kernel
theorem dX4_back_56 : decode cX4_back 56 = .ok (.ireturn, 1) := by decide +kernel
theorem dX4_lords_0 : decode cX4_lords 0 = .ok (.iload_n 1, 1) := by decide +kernel
theorem dX4_lords_1 : decode cX4_lords 1 = .ok (.iconst 1, 1) := by decide +kernel
theorem dX4_lords_2 : decode cX4_lords 2 = .ok (.iconst 3, 1) := by decide +kernel
theorem dX4_lords_3 : decode cX4_lords 3 = .ok (.invokestatic 128, 3) := by decide +kernel
theorem dX4_lords_6 : decode cX4_lords 6 = .ok (.ifCond .eq 12, 3) := by decide +kernel
theorem dX4_lords_9 : decode cX4_lords 9 = .ok (.iload_n 2, 1) := by decide +kernel
theorem dX4_lords_10 : decode cX4_lords 10 = .ok (.iconst 0, 1) := by decide +kernel
theorem dX4_lords_11 : decode cX4_lords 11 = .ok (.iconst 1, 1) := by decide +kernel
theorem dX4_lords_12 : decode cX4_lords 12 = .ok (.invokestatic 128, 3) := by decide +kernel
theorem dX4_lords_15 : decode cX4_lords 15 = .ok (.ifCond .ne 6, 3) := by decide +kernel
theorem dX4_lords_18 : decode cX4_lords 18 = .ok (.bipush (-2), 2) := by decide +kernel
theorem dX4_lords_20 : decode cX4_lords 20 = .ok (.ireturn, 1) := by decide +kernel
theorem dX4_lords_21 : decode cX4_lords 21 = .ok (.aload_n 0, 1) := by decide +kernel
theorem dX4_lords_22 : decode cX4_lords 22 = .ok (.invokevirtual 241, 3) := by decide +kernel
theorem dX4_lords_25 : decode cX4_lords 25 = .ok (.iload_n 1, 1) := by decide +kernel
theorem dX4_lords_26 : decode cX4_lords 26 = .ok (.istore_n 3, 1) := by decide +kernel
theorem dX4_lords_27 : decode cX4_lords 27 = .ok (.iload_n 3, 1) := by decide +kernel
theorem dX4_lords_28 : decode cX4_lords 28 = .ok (.iconst 1, 1) := by decide +kernel
theorem dX4_lords_29 : decode cX4_lords 29 = .ok (.if_icmp .le 25, 3) := by decide +kernel
theorem dX4_lords_32 : decode cX4_lords 32 = .ok (.aload_n 0, 1) := by decide +kernel
theorem dX4_lords_33 : decode cX4_lords 33 = .ok (.iload_n 3, 1) := by decide +kernel
theorem dX4_lords_34 : decode cX4_lords 34 = .ok (.iconst 2, 1) := by decide +kernel
theorem dX4_lords_35 : decode cX4_lords 35 = .ok (.irem, 1) := by decide +kernel
theorem dX4_lords_36 : decode cX4_lords 36 = .ok (.iconst 1, 1) := by decide +kernel
theorem dX4_lords_37 : decode cX4_lords 37 = .ok (.if_icmp .ne 7, 3) := by decide +kernel
theorem dX4_lords_40 : decode cX4_lords 40 = .ok (.iconst 1, 1) := by decide +kernel
theorem dX4_lords_41 : decode cX4_lords 41 = .ok (.goto 4, 3) := by decide +kernel
theorem dX4_lords_44 : decode cX4_lords 44 = .ok (.iconst 0, 1) := by decide +kernel
theorem dX4_lords_45 : decode cX4_lords 45 = .ok (.invokevirtual 244, 3) := by decide +kernel
theorem dX4_lords_48 : decode cX4_lords 48 = .ok (.iinc 3 (-1), 3) := by decide +kernel
theorem dX4_lords_51 : decode cX4_lords 51 = .ok (.goto (-24), 3) := by decide +kernel
theorem dX4_lords_54 : decode cX4_lords 54 = .ok (.bipush (-100), 2) := by decide +kernel
theorem dX4_lords_56 : decode cX4_lords 56 = .ok (.istore_n 3, 1) := by decide +kernel
theorem dX4_lords_57 : decode cX4_lords 57 = .ok (.iconst 0, 1) := by decide +kernel
theorem dX4_lords_58 : decode cX4_lords 58 = .ok (.istore 4, 2) := by decide +kernel
theorem dX4_lords_60 : decode cX4_lords 60 = .ok (.iconst 0, 1) := by decide +kernel
theorem dX4_lords_61 : decode cX4_lords 61 = .ok (.istore 5, 2) := by decide +kernel
theorem dX4_lords_63 : decode cX4_lords 63 = .ok (.iload 5, 2) := by decide +kernel
theorem dX4_lords_65 : decode cX4_lords 65 = .ok (.aload_n 0, 1) := by decide +kernel
theorem dX4_lords_66 : decode cX4_lords 66 = .ok (.getfield 19, 3) := by decide +kernel
theorem dX4_lords_69 : decode cX4_lords 69 = .ok (.getfield 68, 3) := by decide +kernel
theorem dX4_lords_72 : decode cX4_lords 72 = .ok (.if_icmp .gt 40, 3) := by decide +kernel
theorem dX4_lords_75 : decode cX4_lords 75 = .ok (.aload_n 0, 1) := by decide +kernel
theorem dX4_lords_76 : decode cX4_lords 76 = .ok (.aload_n 0, 1) := by decide +kernel
theorem dX4_lords_77 : decode cX4_lords 77 = .ok (.getfield 26, 3) := by decide +kernel
theorem dX4_lords_80 : decode cX4_lords 80 = .ok (.getfield 109, 3) := by decide +kernel
theorem dX4_lords_83 : decode cX4_lords 83 = .ok (.iload 5, 2) := by decide +kernel
theorem dX4_lords_85 : decode cX4_lords 85 = .ok (.invokestatic 248, 3) := by decide +kernel
theorem dX4_lords_88 : decode cX4_lords 88 = .ok (.invokevirtual 251, 3) := by decide +kernel
theorem dX4_lords_91 : decode cX4_lords 91 = .ok (.istore 6, 2) := by decide +kernel
theorem dX4_lords_93 : decode cX4_lords 93 = .ok (.iload 6, 2) := by decide +kernel
theorem dX4_lords_95 : decode cX4_lords 95 = .ok (.iload_n 3, 1) := by decide +kernel
theorem dX4_lords_96 : decode cX4_lords 96 = .ok (.if_icmp .le 10, 3) := by decide +kernel
theorem dX4_lords_99 : decode cX4_lords 99 = .ok (.iload 6, 2) := by decide +kernel
theorem dX4_lords_101 : decode cX4_lords 101 = .ok (.istore_n 3, 1) := by decide +kernel
theorem dX4_lords_102 : decode cX4_lords 102 = .ok (.iload 5, 2) := by decide +kernel
theorem dX4_lords_104 : decode cX4_lords 104 = .ok (.istore 4, 2) := by decide +kernel
theorem dX4_lords_106 : decode cX4_lords 106 = .ok (.iinc 5 1, 3) := by decide +kernel
theorem dX4_lords_109 : decode cX4_lords 109 = .ok (.goto (-46), 3) := by decide +kernel
theorem dX4_lords_112 : decode cX4_lords 112 = .ok (.iload_n 2, 1) := by decide +kernel
theorem dX4_lords_113 : decode cX4_lords 113 = .ok (.ifCond .ne 7, 3) := by decide +kernel
theorem dX4_lords_116 : decode cX4_lords 116 = .ok (.iload_n 3, 1) := by decide +kernel
theorem dX4_lords_117 : decode cX4_lords 117 = .ok (.goto 5, 3) := by decide +kernel
theorem dX4_lords_120 : decode cX4_lords 120 = .ok (.iload 4, 2) := by decide +kernel
theorem dX4_lords_122 : decode cX4_lords 122 = .ok (.ireturn, 1) := by decide +kernel
theorem dX4_weighLids_0 : decode cX4_weighLids 0 = .ok (.iconst 0, 1) := by decide +kernel
theorem dX4_weighLids_1 : decode cX4_weighLids 1 = .ok (.istore_n 1, 1) := by decide +kernel
theorem dX4_weighLids_2 : decode cX4_weighLids 2 = .ok (.iload_n 1, 1) := by decide +kernel
theorem dX4_weighLids_3 : decode cX4_weighLids 3 = .ok (.aload_n 0, 1) := by decide +kernel
theorem dX4_weighLids_4 : decode cX4_weighLids 4 = .ok (.getfield 49, 3) := by decide +kernel
theorem dX4_weighLids_7 : decode cX4_weighLids 7 = .ok (.arraylength, 1) := by decide +kernel
theorem dX4_weighLids_8 : decode cX4_weighLids 8 = .ok (.if_icmp .ge 38, 3) := by decide +kernel
theorem dX4_weighLids_11 : decode cX4_weighLids 11 = .ok (.aload_n 0, 1) := by decide +kernel
theorem dX4_weighLids_12 : decode cX4_weighLids 12 = .ok (.getfield 49, 3) := by decide +kernel
theorem dX4_weighLids_15 : decode cX4_weighLids 15 = .ok (.iload_n 1, 1) := by decide +kernel
theorem dX4_weighLids_16 : decode cX4_weighLids 16 = .ok (.iload_n 1, 1) := by decide +kernel
theorem dX4_weighLids_17 : decode cX4_weighLids 17 = .ok (.iconst 1, 1) := by decide +kernel
theorem dX4_weighLids_18 : decode cX4_weighLids 18 = .ok (.aload_n 0, 1) := by decide +kernel
theorem dX4_weighLids_19 : decode cX4_weighLids 19 = .ok (.getfield 19, 3) := by decide +kernel
theorem dX4_weighLids_22 : decode cX4_weighLids 22 = .ok (.getfield 68, 3) := by decide +kernel
theorem dX4_weighLids_25 : decode cX4_weighLids 25 = .ok (.ishl, 1) := by decide +kernel
theorem dX4_weighLids_26 : decode cX4_weighLids 26 = .ok (.if_icmp .ge 12, 3) := by decide +kernel
theorem dX4_weighLids_29 : decode cX4_weighLids 29 = .ok (.aload_n 0, 1) := by decide +kernel
theorem dX4_weighLids_30 : decode cX4_weighLids 30 = .ok (.iconst 4, 1) := by decide +kernel
theorem dX4_weighLids_31 : decode cX4_weighLids 31 = .ok (.iload_n 1, 1) := by decide +kernel
theorem dX4_weighLids_32 : decode cX4_weighLids 32 = .ok (.invokevirtual 216, 3) := by decide +kernel
theorem dX4_weighLids_35 : decode cX4_weighLids 35 = .ok (.goto 4, 3) := by decide +kernel
theorem dX4_weighLids_38 : decode cX4_weighLids 38 = .ok (.iconst 0, 1) := by decide +kernel
theorem dX4_weighLids_39 : decode cX4_weighLids 39 = .ok (.iastore, 1) := by decide +kernel
theorem dX4_weighLids_40 : decode cX4_weighLids 40 = .ok (.iinc 1 1, 3) := by decide +kernel
theorem dX4_weighLids_43 : decode cX4_weighLids 43 = .ok (.goto (-41), 3) := by decide +kernel
theorem dX4_weighLids_46 : decode cX4_weighLids 46 = .ok (.return_, 1) := by decide +kernel
theorem dX4_weighTurn_0 : decode cX4_weighTurn 0 = .ok (.iconst 0, 1) := by decide +kernel
theorem dX4_weighTurn_1 : decode cX4_weighTurn 1 = .ok (.istore_n 2, 1) := by decide +kernel
theorem dX4_weighTurn_2 : decode cX4_weighTurn 2 = .ok (.iload_n 2, 1) := by decide +kernel
theorem dX4_weighTurn_3 : decode cX4_weighTurn 3 = .ok (.aload_n 0, 1) := by decide +kernel
theorem dX4_weighTurn_4 : decode cX4_weighTurn 4 = .ok (.getfield 53, 3) := by decide +kernel
theorem dX4_weighTurn_7 : decode cX4_weighTurn 7 = .ok (.arraylength, 1) := by decide +kernel
theorem dX4_weighTurn_8 : decode cX4_weighTurn 8 = .ok (.if_icmp .ge 75, 3) := by decide +kernel
theorem dX4_weighTurn_11 : decode cX4_weighTurn 11 = .ok (.aload_n 0, 1) := by decide +kernel
theorem dX4_weighTurn_12 : decode cX4_weighTurn 12 = .ok (.iload_n 2, 1) := by decide +kernel
theorem dX4_weighTurn_13 : decode cX4_weighTurn 13 = .ok (.invokevirtual 251, 3) := by decide +kernel
theorem dX4_weighTurn_16 : decode cX4_weighTurn 16 = .ok (.istore_n 3, 1) := by decide +kernel
theorem dX4_weighTurn_17 : decode cX4_weighTurn 17 = .ok (.iconst 1, 1) := by decide +kernel
theorem dX4_weighTurn_18 : decode cX4_weighTurn 18 = .ok (.istore 4, 2) := by decide +kernel
theorem dX4_weighTurn_20 : decode cX4_weighTurn 20 = .ok (.iload 4, 2) := by decide +kernel
theorem dX4_weighTurn_22 : decode cX4_weighTurn 22 = .ok (.aload_n 0, 1) := by decide +kernel
theorem dX4_weighTurn_23 : decode cX4_weighTurn 23 = .ok (.getfield 19, 3) := by decide +kernel
theorem dX4_weighTurn_26 : decode cX4_weighTurn 26 = .ok (.getfield 68, 3) := by decide +kernel
theorem dX4_weighTurn_29 : decode cX4_weighTurn 29 = .ok (.if_icmp .gt 41, 3) := by decide +kernel
theorem dX4_weighTurn_32 : decode cX4_weighTurn 32 = .ok (.aload_n 0, 1) := by decide +kernel
theorem dX4_weighTurn_33 : decode cX4_weighTurn 33 = .ok (.iload_n 2, 1) := by decide +kernel
theorem dX4_weighTurn_34 : decode cX4_weighTurn 34 = .ok (.iload 4, 2) := by decide +kernel
theorem dX4_weighTurn_36 : decode cX4_weighTurn 36 = .ok (.invokestatic 248, 3) := by decide +kernel
theorem dX4_weighTurn_39 : decode cX4_weighTurn 39 = .ok (.invokevirtual 251, 3) := by decide +kernel
theorem dX4_weighTurn_42 : decode cX4_weighTurn 42 = .ok (.istore 5, 2) := by decide +kernel
theorem dX4_weighTurn_44 : decode cX4_weighTurn 44 = .ok (.iload_n 1, 1) := by decide +kernel
theorem dX4_weighTurn_45 : decode cX4_weighTurn 45 = .ok (.ifCond .eq 12, 3) := by decide +kernel
theorem dX4_weighTurn_48 : decode cX4_weighTurn 48 = .ok (.iload_n 3, 1) := by decide +kernel
theorem dX4_weighTurn_49 : decode cX4_weighTurn 49 = .ok (.iload 5, 2) := by decide +kernel
theorem dX4_weighTurn_51 : decode cX4_weighTurn 51 = .ok (.invokestatic 205, 3) := by decide +kernel
theorem dX4_weighTurn_54 : decode cX4_weighTurn 54 = .ok (.goto 9, 3) := by decide +kernel
theorem dX4_weighTurn_57 : decode cX4_weighTurn 57 = .ok (.iload_n 3, 1) := by decide +kernel
theorem dX4_weighTurn_58 : decode cX4_weighTurn 58 = .ok (.iload 5, 2) := by decide +kernel
theorem dX4_weighTurn_60 : decode cX4_weighTurn 60 = .ok (.invokestatic 160, 3) := by decide +kernel
theorem dX4_weighTurn_63 : decode cX4_weighTurn 63 = .ok (.istore_n 3, 1) := by decide +kernel
theorem dX4_weighTurn_64 : decode cX4_weighTurn 64 = .ok (.iinc 4 1, 3) := by decide +kernel
theorem dX4_weighTurn_67 : decode cX4_weighTurn 67 = .ok (.goto (-47), 3) := by decide +kernel
theorem dX4_weighTurn_70 : decode cX4_weighTurn 70 = .ok (.aload_n 0, 1) := by decide +kernel
theorem dX4_weighTurn_71 : decode cX4_weighTurn 71 = .ok (.getfield 53, 3) := by decide +kernel
theorem dX4_weighTurn_74 : decode cX4_weighTurn 74 = .ok (.iload_n 2, 1) := by decide +kernel
theorem dX4_weighTurn_75 : decode cX4_weighTurn 75 = .ok (.iload_n 3, 1) := by decide +kernel
theorem dX4_weighTurn_76 : decode cX4_weighTurn 76 = .ok (.iastore, 1) := by decide +kernel
theorem dX4_weighTurn_77 : decode cX4_weighTurn 77 = .ok (.iinc 2 1, 3) := by decide +kernel
theorem dX4_weighTurn_80 : decode cX4_weighTurn 80 = .ok (.goto (-78), 3) := by decide +kernel
theorem dX4_weighTurn_83 : decode cX4_weighTurn 83 = .ok (.iconst 0, 1) := by decide +kernel
theorem dX4_weighTurn_84 : decode cX4_weighTurn 84 = .ok (.istore_n 2, 1) := by decide +kernel
theorem dX4_weighTurn_85 : decode cX4_weighTurn 85 = .ok (.iload_n 2, 1) := by decide +kernel
theorem dX4_weighTurn_86 : decode cX4_weighTurn 86 = .ok (.aload_n 0, 1) := by decide +kernel
theorem dX4_weighTurn_87 : decode cX4_weighTurn 87 = .ok (.getfield 49, 3) := by decide +kernel
theorem dX4_weighTurn_90 : decode cX4_weighTurn 90 = .ok (.arraylength, 1) := by decide +kernel
theorem dX4_weighTurn_91 : decode cX4_weighTurn 91 = .ok (.if_icmp .ge 30, 3) := by decide +kernel
theorem dX4_weighTurn_94 : decode cX4_weighTurn 94 = .ok (.iload_n 2, 1) := by decide +kernel
theorem dX4_weighTurn_95 : decode cX4_weighTurn 95 = .ok (.aload_n 0, 1) := by decide +kernel
theorem dX4_weighTurn_96 : decode cX4_weighTurn 96 = .ok (.getfield 53, 3) := by decide +kernel
theorem dX4_weighTurn_99 : decode cX4_weighTurn 99 = .ok (.arraylength, 1) := by decide +kernel
theorem dX4_weighTurn_100 : decode cX4_weighTurn 100 = .ok (.if_icmp .ge 21, 3) := by decide +kernel
theorem dX4_weighTurn_103 : decode cX4_weighTurn 103 = .ok (.aload_n 0, 1) := by decide +kernel
theorem dX4_weighTurn_104 : decode cX4_weighTurn 104 = .ok (.getfield 49, 3) := by decide +kernel
theorem dX4_weighTurn_107 : decode cX4_weighTurn 107 = .ok (.iload_n 2, 1) := by decide +kernel
theorem dX4_weighTurn_108 : decode cX4_weighTurn 108 = .ok (.aload_n 0, 1) := by decide +kernel
theorem dX4_weighTurn_109 : decode cX4_weighTurn 109 = .ok (.getfield 53, 3) := by decide +kernel
theorem dX4_weighTurn_112 : decode cX4_weighTurn 112 = .ok (.iload_n 2, 1) := by decide +kernel
theorem dX4_weighTurn_113 : decode cX4_weighTurn 113 = .ok (.iaload, 1) := by decide +kernel
theorem dX4_weighTurn_114 : decode cX4_weighTurn 114 = .ok (.iastore, 1) := by decide +kernel
theorem dX4_weighTurn_115 : decode cX4_weighTurn 115 = .ok (.iinc 2 1, 3) := by decide +kernel
theorem dX4_weighTurn_118 : decode cX4_weighTurn 118 = .ok (.goto (-33), 3) := by decide +kernel
theorem dX4_weighTurn_121 : decode cX4_weighTurn 121 = .ok (.return_, 1) := by decide +kernel
theorem dX4_worthOfLids_0 : decode cX4_worthOfLids 0 = .ok (.iload_n 1, 1) := by decide +kernel
theorem dX4_worthOfLids_1 : decode cX4_worthOfLids 1 = .ok (.ifCond .lt 21, 3) := by decide +kernel
theorem dX4_worthOfLids_4 : decode cX4_worthOfLids 4 = .ok (.iload_n 1, 1) := by decide +kernel
theorem dX4_worthOfLids_5 : decode cX4_worthOfLids 5 = .ok (.aload_n 0, 1) := by decide +kernel
theorem dX4_worthOfLids_6 : decode cX4_worthOfLids 6 = .ok (.getfield 49, 3) := by decide +kernel
theorem dX4_worthOfLids_9 : decode cX4_worthOfLids 9 = .ok (.arraylength, 1) := by decide +kernel
theorem dX4_worthOfLids_10 : decode cX4_worthOfLids 10 = .ok (.if_icmp .ge 12, 3) := by decide +kernel
theorem dX4_worthOfLids_13 : decode cX4_worthOfLids 13 = .ok (.aload_n 0, 1) := by decide +kernel
theorem dX4_worthOfLids_14 : decode cX4_worthOfLids 14 = .ok (.getfield 49, 3) := by decide +kernel
theorem dX4_worthOfLids_17 : decode cX4_worthOfLids 17 = .ok (.iload_n 1, 1) := by decide +kernel
theorem dX4_worthOfLids_18 : decode cX4_worthOfLids 18 = .ok (.iaload, 1) := by decide +kernel
theorem dX4_worthOfLids_19 : decode cX4_worthOfLids 19 = .ok (.goto 4, 3) := by decide +kernel
theorem dX4_worthOfLids_22 : decode cX4_worthOfLids 22 = .ok (.iconst 0, 1) := by decide +kernel
theorem dX4_worthOfLids_23 : decode cX4_worthOfLids 23 = .ok (.ireturn, 1) := by decide +kernel
theorem dX4_lidsBehind_0 : decode cX4_lidsBehind 0 = .ok (.iload_n 1, 1) := by decide +kernel
theorem dX4_lidsBehind_1 : decode cX4_lidsBehind 1 = .ok (.ifCond .ne 7, 3) := by decide +kernel
theorem dX4_lidsBehind_4 : decode cX4_lidsBehind 4 = .ok (.iload_n 0, 1) := by decide +kernel
theorem dX4_lidsBehind_5 : decode cX4_lidsBehind 5 = .ok (.goto 10, 3) := by decide +kernel
theorem dX4_lidsBehind_8 : decode cX4_lidsBehind 8 = .ok (.iload_n 0, 1) := by decide +kernel
theorem dX4_lidsBehind_9 : decode cX4_lidsBehind 9 = .ok (.iconst 1, 1) := by decide +kernel
theorem dX4_lidsBehind_10 : decode cX4_lidsBehind 10 = .ok (.iload_n 1, 1) := by decide +kernel
theorem dX4_lidsBehind_11 : decode cX4_lidsBehind 11 = .ok (.iconst 1, 1) := by decide +kernel
theorem dX4_lidsBehind_12 : decode cX4_lidsBehind 12 = .ok (.isub, 1) := by decide +kernel
theorem dX4_lidsBehind_13 : decode cX4_lidsBehind 13 = .ok (.ishl, 1) := by decide +kernel
theorem dX4_lidsBehind_14 : decode cX4_lidsBehind 14 = .ok (.ixor, 1) := by decide +kernel
theorem dX4_lidsBehind_15 : decode cX4_lidsBehind 15 = .ok (.ireturn, 1) := by decide +kernel
theorem dX4_rain_0 : decode cX4_rain 0 = .ok (.iload_n 1, 1) := by decide +kernel
theorem dX4_rain_1 : decode cX4_rain 1 = .ok (.iconst 0, 1) := by decide +kernel
theorem dX4_rain_2 : decode cX4_rain 2 = .ok (.iconst 5, 1) := by decide +kernel
theorem dX4_rain_3 : decode cX4_rain 3 = .ok (.invokestatic 128, 3) := by decide +kernel
theorem dX4_rain_6 : decode cX4_rain 6 = .ok (.ifCond .eq 13, 3) := by decide +kernel
theorem dX4_rain_9 : decode cX4_rain 9 = .ok (.iload_n 2, 1) := by decide +kernel
theorem dX4_rain_10 : decode cX4_rain 10 = .ok (.iconst 0, 1) := by decide +kernel
theorem dX4_rain_11 : decode cX4_rain 11 = .ok (.bipush 10, 2) := by decide +kernel
theorem dX4_rain_13 : decode cX4_rain 13 = .ok (.invokestatic 128, 3) := by decide +kernel
theorem dX4_rain_16 : decode cX4_rain 16 = .ok (.ifCond .ne 6, 3) := by decide +kernel
theorem dX4_rain_19 : decode cX4_rain 19 = .ok (.bipush (-2), 2) := by decide +kernel
theorem dX4_rain_21 : decode cX4_rain 21 = .ok (.ireturn, 1) := by decide +kernel
theorem dX4_rain_22 : decode cX4_rain 22 = .ok (.aload_n 0, 1) := by decide +kernel
theorem dX4_rain_23 : decode cX4_rain 23 = .ok (.getfield 26, 3) := by decide +kernel
theorem dX4_rain_26 : decode cX4_rain 26 = .ok (.iload_n 1, 1) := by decide +kernel
theorem dX4_rain_27 : decode cX4_rain 27 = .ok (.invokevirtual 254, 3) := by decide +kernel
theorem dX4_rain_30 : decode cX4_rain 30 = .ok (.ifCond .eq 5, 3) := by decide +kernel
theorem dX4_rain_33 : decode cX4_rain 33 = .ok (.iconst 1, 1) := by decide +kernel
theorem dX4_rain_34 : decode cX4_rain 34 = .ok (.ireturn, 1) := by decide +kernel
theorem dX4_rain_35 : decode cX4_rain 35 = .ok (.iconst 1, 1) := by decide +kernel
theorem dX4_rain_36 : decode cX4_rain 36 = .ok (.istore 4, 2) := by decide +kernel
theorem dX4_rain_38 : decode cX4_rain 38 = .ok (.iconst 1, 1) := by decide +kernel
theorem dX4_rain_39 : decode cX4_rain 39 = .ok (.istore 5, 2) := by decide +kernel
theorem dX4_rain_41 : decode cX4_rain 41 = .ok (.iconst 0, 1) := by decide +kernel
theorem dX4_rain_42 : decode cX4_rain 42 = .ok (.istore 6, 2) := by decide +kernel
theorem dX4_rain_44 : decode cX4_rain 44 = .ok (.iload 6, 2) := by decide +kernel
theorem dX4_rain_46 : decode cX4_rain 46 = .ok (.aload_n 0, 1) := by decide +kernel
theorem dX4_rain_47 : decode cX4_rain 47 = .ok (.getfield 19, 3) := by decide +kernel
theorem dX4_rain_50 : decode cX4_rain 50 = .ok (.getfield 68, 3) := by decide +kernel
theorem dX4_rain_53 : decode cX4_rain 53 = .ok (.if_icmp .ge 35, 3) := by decide +kernel
theorem dX4_rain_56 : decode cX4_rain 56 = .ok (.aload_n 0, 1) := by decide +kernel
theorem dX4_rain_57 : decode cX4_rain 57 = .ok (.getfield 26, 3) := by decide +kernel
theorem dX4_rain_60 : decode cX4_rain 60 = .ok (.iload_n 1, 1) := by decide +kernel
theorem dX4_rain_61 : decode cX4_rain 61 = .ok (.iload 6, 2) := by decide +kernel
theorem dX4_rain_63 : decode cX4_rain 63 = .ok (.invokevirtual 257, 3) := by decide +kernel
theorem dX4_rain_66 : decode cX4_rain 66 = .ok (.ifCond .eq 16, 3) := by decide +kernel
theorem dX4_rain_69 : decode cX4_rain 69 = .ok (.iload 4, 2) := by decide +kernel
theorem dX4_rain_71 : decode cX4_rain 71 = .ok (.bipush 10, 2) := by decide +kernel
theorem dX4_rain_73 : decode cX4_rain 73 = .ok (.imul, 1) := by decide +kernel
theorem dX4_rain_74 : decode cX4_rain 74 = .ok (.istore 4, 2) := by decide +kernel
theorem dX4_rain_76 : decode cX4_rain 76 = .ok (.iload 5, 2) := by decide +kernel
theorem dX4_rain_78 : decode cX4_rain 78 = .ok (.iload_n 2, 1) := by decide +kernel
theorem dX4_rain_79 : decode cX4_rain 79 = .ok (.imul, 1) := by decide +kernel
theorem dX4_rain_80 : decode cX4_rain 80 = .ok (.istore 5, 2) := by decide +kernel
theorem dX4_rain_82 : decode cX4_rain 82 = .ok (.iinc 6 1, 3) := by decide +kernel
theorem dX4_rain_85 : decode cX4_rain 85 = .ok (.goto (-41), 3) := by decide +kernel
theorem dX4_rain_88 : decode cX4_rain 88 = .ok (.iload 4, 2) := by decide +kernel
theorem dX4_rain_90 : decode cX4_rain 90 = .ok (.iload 4, 2) := by decide +kernel
theorem dX4_rain_92 : decode cX4_rain 92 = .ok (.iload 5, 2) := by decide +kernel
theorem dX4_rain_94 : decode cX4_rain 94 = .ok (.isub, 1) := by decide +kernel
theorem dX4_rain_95 : decode cX4_rain 95 = .ok (.invokestatic 261, 3) := by decide +kernel
theorem dX4_rain_98 : decode cX4_rain 98 = .ok (.istore 6, 2) := by decide +kernel
theorem dX4_rain_100 : decode cX4_rain 100 = .ok (.iload_n 3, 1) := by decide +kernel
theorem dX4_rain_101 : decode cX4_rain 101 = .ok (.ifCond .eq 11, 3) := by decide +kernel
theorem dX4_rain_104 : decode cX4_rain 104 = .ok (.iload 4, 2) := by decide +kernel
theorem dX4_rain_106 : decode cX4_rain 106 = .ok (.iload 5, 2) := by decide +kernel
theorem dX4_rain_108 : decode cX4_rain 108 = .ok (.isub, 1) := by decide +kernel
theorem dX4_rain_109 : decode cX4_rain 109 = .ok (.goto 5, 3) := by decide +kernel
theorem dX4_rain_112 : decode cX4_rain 112 = .ok (.iload 4, 2) := by decide +kernel
theorem dX4_rain_114 : decode cX4_rain 114 = .ok (.istore 7, 2) := by decide +kernel
theorem dX4_rain_116 : decode cX4_rain 116 = .ok (.iload 6, 2) := by decide +kernel
theorem dX4_rain_118 : decode cX4_rain 118 = .ok (.ifCond .le 11, 3) := by decide +kernel
theorem dX4_rain_121 : decode cX4_rain 121 = .ok (.iload 7, 2) := by decide +kernel
theorem dX4_rain_123 : decode cX4_rain 123 = .ok (.iload 6, 2) := by decide +kernel
theorem dX4_rain_125 : decode cX4_rain 125 = .ok (.idiv, 1) := by decide +kernel
theorem dX4_rain_126 : decode cX4_rain 126 = .ok (.goto 5, 3) := by decide +kernel
theorem dX4_rain_129 : decode cX4_rain 129 = .ok (.iload 7, 2) := by decide +kernel
theorem dX4_rain_131 : decode cX4_rain 131 = .ok (.ireturn, 1) := by decide +kernel
theorem dX4_greatestDivisor_0 : decode cX4_greatestDivisor 0 = .ok (.iload_n 0, 1) := by decide +kernel
theorem dX4_greatestDivisor_1 : decode cX4_greatestDivisor 1 = .ok (.istore_n 2, 1) := by decide +kernel
theorem dX4_greatestDivisor_2 : decode cX4_greatestDivisor 2 = .ok (.iload_n 1, 1) := by decide +kernel
theorem dX4_greatestDivisor_3 : decode cX4_greatestDivisor 3 = .ok (.istore_n 3, 1) := by decide +kernel
theorem dX4_greatestDivisor_4 : decode cX4_greatestDivisor 4 = .ok (.iconst 0, 1) := by decide +kernel
theorem dX4_greatestDivisor_5 : decode cX4_greatestDivisor 5 = .ok (.istore 4, 2) := by decide +kernel
theorem dX4_greatestDivisor_7 : decode cX4_greatestDivisor 7 = .ok (.iload 4, 2) := by decide +kernel
theorem dX4_greatestDivisor_9 : decode cX4_greatestDivisor 9 = .ok (.bipush 100, 2) := by decide +kernel
theorem dX4_greatestDivisor_11 : decode cX4_greatestDivisor 11 = .ok (.if_icmp .ge 23, 3) := by decide +kernel
theorem dX4_greatestDivisor_14 : decode cX4_greatestDivisor 14 = .ok (.iload_n 3, 1) := by decide +kernel
theorem dX4_greatestDivisor_15 : decode cX4_greatestDivisor 15 = .ok (.ifCond .eq 19, 3) := by decide +kernel
theorem dX4_greatestDivisor_18 : decode cX4_greatestDivisor 18 = .ok (.iload_n 2, 1) := by decide +kernel
theorem dX4_greatestDivisor_19 : decode cX4_greatestDivisor 19 = .ok (.iload_n 3, 1) := by decide +kernel
theorem dX4_greatestDivisor_20 : decode cX4_greatestDivisor 20 = .ok (.irem, 1) := by decide +kernel
theorem dX4_greatestDivisor_21 : decode cX4_greatestDivisor 21 = .ok (.istore 5, 2) := by decide +kernel
theorem dX4_greatestDivisor_23 : decode cX4_greatestDivisor 23 = .ok (.iload_n 3, 1) := by decide +kernel
theorem dX4_greatestDivisor_24 : decode cX4_greatestDivisor 24 = .ok (.istore_n 2, 1) := by decide +kernel
theorem dX4_greatestDivisor_25 : decode cX4_greatestDivisor 25 = .ok (.iload 5, 2) := by decide +kernel
theorem dX4_greatestDivisor_27 : decode cX4_greatestDivisor 27 = .ok (.istore_n 3, 1) := by decide +kernel
theorem dX4_greatestDivisor_28 : decode cX4_greatestDivisor 28 = .ok (.iinc 4 1, 3) := by decide +kernel
theorem dX4_greatestDivisor_31 : decode cX4_greatestDivisor 31 = .ok (.goto (-24), 3) := by decide +kernel
theorem dX4_greatestDivisor_34 : decode cX4_greatestDivisor 34 = .ok (.iload_n 2, 1) := by decide +kernel
theorem dX4_greatestDivisor_35 : decode cX4_greatestDivisor 35 = .ok (.ireturn, 1) := by decide +kernel
theorem dX4_seed_0 : decode cX4_seed 0 = .ok (.aload_n 0, 1) := by decide +kernel
theorem dX4_seed_1 : decode cX4_seed 1 = .ok (.getfield 264, 3) := by decide +kernel
theorem dX4_seed_4 : decode cX4_seed 4 = .ok (.lstore_n 3, 1) := by decide +kernel
theorem dX4_seed_5 : decode cX4_seed 5 = .ok (.aload_n 0, 1) := by decide +kernel
theorem dX4_seed_6 : decode cX4_seed 6 = .ok (.lload_n 1, 1) := by decide +kernel
theorem dX4_seed_7 : decode cX4_seed 7 = .ok (.putfield 264, 3) := by decide +kernel
theorem dX4_seed_10 : decode cX4_seed 10 = .ok (.lload_n 3, 1) := by decide +kernel
theorem dX4_seed_11 : decode cX4_seed 11 = .ok (.lreturn, 1) := by decide +kernel
theorem dX4_rains_0 : decode cX4_rains 0 = .ok (.iload_n 1, 1) := by decide +kernel
theorem dX4_rains_1 : decode cX4_rains 1 = .ok (.iconst 1, 1) := by decide +kernel
theorem dX4_rains_2 : decode cX4_rains 2 = .ok (.bipush 20, 2) := by decide +kernel
theorem dX4_rains_4 : decode cX4_rains 4 = .ok (.invokestatic 128, 3) := by decide +kernel
theorem dX4_rains_7 : decode cX4_rains 7 = .ok (.ifCond .eq 13, 3) := by decide +kernel
theorem dX4_rains_10 : decode cX4_rains 10 = .ok (.iload_n 2, 1) := by decide +kernel
theorem dX4_rains_11 : decode cX4_rains 11 = .ok (.iconst 0, 1) := by decide +kernel
theorem dX4_rains_12 : decode cX4_rains 12 = .ok (.bipush 10, 2) := by decide +kernel
theorem dX4_rains_14 : decode cX4_rains 14 = .ok (.invokestatic 128, 3) := by decide +kernel
theorem dX4_rains_17 : decode cX4_rains 17 = .ok (.ifCond .ne 6, 3) := by decide +kernel
theorem dX4_rains_20 : decode cX4_rains 20 = .ok (.bipush (-2), 2) := by decide +kernel
theorem dX4_rains_22 : decode cX4_rains 22 = .ok (.ireturn, 1) := by decide +kernel
theorem dX4_rains_23 : decode cX4_rains 23 = .ok (.aload_n 0, 1) := by decide +kernel
theorem dX4_rains_24 : decode cX4_rains 24 = .ok (.getfield 43, 3) := by decide +kernel
theorem dX4_rains_27 : decode cX4_rains 27 = .ok (.aload_n 0, 1) := by decide +kernel
theorem dX4_rains_28 : decode cX4_rains 28 = .ok (.getfield 26, 3) := by decide +kernel
theorem dX4_rains_31 : decode cX4_rains 31 = .ok (.invokevirtual 168, 3) := by decide +kernel
theorem dX4_rains_34 : decode cX4_rains 34 = .ok (.iconst 0, 1) := by decide +kernel
theorem dX4_rains_35 : decode cX4_rains 35 = .ok (.istore_n 3, 1) := by decide +kernel
theorem dX4_rains_36 : decode cX4_rains 36 = .ok (.iload_n 3, 1) := by decide +kernel
theorem dX4_rains_37 : decode cX4_rains 37 = .ok (.iload_n 1, 1) := by decide +kernel
theorem dX4_rains_38 : decode cX4_rains 38 = .ok (.if_icmp .ge 71, 3) := by decide +kernel
theorem dX4_rains_41 : decode cX4_rains 41 = .ok (.aload_n 0, 1) := by decide +kernel
theorem dX4_rains_42 : decode cX4_rains 42 = .ok (.getfield 43, 3) := by decide +kernel
theorem dX4_rains_45 : decode cX4_rains 45 = .ok (.aload_n 0, 1) := by decide +kernel
theorem dX4_rains_46 : decode cX4_rains 46 = .ok (.getfield 19, 3) := by decide +kernel
theorem dX4_rains_49 : decode cX4_rains 49 = .ok (.invokevirtual 140, 3) := by decide +kernel
theorem dX4_rains_52 : decode cX4_rains 52 = .ok (.pop, 1) := by decide +kernel
theorem dX4_rains_53 : decode cX4_rains 53 = .ok (.iconst 0, 1) := by decide +kernel
theorem dX4_rains_54 : decode cX4_rains 54 = .ok (.istore 4, 2) := by decide +kernel
theorem dX4_rains_56 : decode cX4_rains 56 = .ok (.iload 4, 2) := by decide +kernel
theorem dX4_rains_58 : decode cX4_rains 58 = .ok (.aload_n 0, 1) := by decide +kernel
theorem dX4_rains_59 : decode cX4_rains 59 = .ok (.getfield 19, 3) := by decide +kernel
theorem dX4_rains_62 : decode cX4_rains 62 = .ok (.getfield 68, 3) := by decide +kernel
theorem dX4_rains_65 : decode cX4_rains 65 = .ok (.if_icmp .ge 38, 3) := by decide +kernel
theorem dX4_rains_68 : decode cX4_rains 68 = .ok (.aload_n 0, 1) := by decide +kernel
theorem dX4_rains_69 : decode cX4_rains 69 = .ok (.getfield 43, 3) := by decide +kernel
theorem dX4_rains_72 : decode cX4_rains 72 = .ok (.iload 4, 2) := by decide +kernel
theorem dX4_rains_74 : decode cX4_rains 74 = .ok (.invokevirtual 121, 3) := by decide +kernel
theorem dX4_rains_77 : decode cX4_rains 77 = .ok (.ifCond .ne 20, 3) := by decide +kernel
theorem dX4_rains_80 : decode cX4_rains 80 = .ok (.aload_n 0, 1) := by decide +kernel
theorem dX4_rains_81 : decode cX4_rains 81 = .ok (.iload_n 2, 1) := by decide +kernel
theorem dX4_rains_82 : decode cX4_rains 82 = .ok (.invokevirtual 268, 3) := by decide +kernel
theorem dX4_rains_85 : decode cX4_rains 85 = .ok (.ifCond .eq 12, 3) := by decide +kernel
theorem dX4_rains_88 : decode cX4_rains 88 = .ok (.aload_n 0, 1) := by decide +kernel
theorem dX4_rains_89 : decode cX4_rains 89 = .ok (.getfield 43, 3) := by decide +kernel
theorem dX4_rains_92 : decode cX4_rains 92 = .ok (.iload 4, 2) := by decide +kernel
theorem dX4_rains_94 : decode cX4_rains 94 = .ok (.invokevirtual 271, 3) := by decide +kernel
theorem dX4_rains_97 : decode cX4_rains 97 = .ok (.iinc 4 1, 3) := by decide +kernel
theorem dX4_rains_100 : decode cX4_rains 100 = .ok (.goto (-44), 3) := by decide +kernel
theorem dX4_rains_103 : decode cX4_rains 103 = .ok (.iinc 3 1, 3) := by decide +kernel
theorem dX4_rains_106 : decode cX4_rains 106 = .ok (.goto (-70), 3) := by decide +kernel
theorem dX4_rains_109 : decode cX4_rains 109 = .ok (.aload_n 0, 1) := by decide +kernel
theorem dX4_rains_110 : decode cX4_rains 110 = .ok (.getfield 43, 3) := by decide +kernel
theorem dX4_rains_113 : decode cX4_rains 113 = .ok (.invokevirtual 82, 3) := by decide +kernel
theorem dX4_rains_116 : decode cX4_rains 116 = .ok (.ireturn, 1) := by decide +kernel
theorem dX4_isFloodedBySeed_0 : decode cX4_isFloodedBySeed 0 = .ok (.aload_n 0, 1) := by decide +kernel
theorem dX4_isFloodedBySeed_1 : decode cX4_isFloodedBySeed 1 = .ok (.aload_n 0, 1) := by decide +kernel
theorem dX4_isFloodedBySeed_2 : decode cX4_isFloodedBySeed 2 = .ok (.getfield 264, 3) := by decide +kernel
theorem dX4_isFloodedBySeed_5 : decode cX4_isFloodedBySeed 5 = .ok (.ldc2_w 274, 3) := by decide +kernel
theorem dX4_isFloodedBySeed_8 : decode cX4_isFloodedBySeed 8 = .ok (.lmul, 1) := by decide +kernel
theorem dX4_isFloodedBySeed_9 : decode cX4_isFloodedBySeed 9 = .ok (.ldc2_w 276, 3) := by decide +kernel
theorem dX4_isFloodedBySeed_12 : decode cX4_isFloodedBySeed 12 = .ok (.ladd, 1) := by decide +kernel
theorem dX4_isFloodedBySeed_13 : decode cX4_isFloodedBySeed 13 = .ok (.putfield 264, 3) := by decide +kernel
theorem dX4_isFloodedBySeed_16 : decode cX4_isFloodedBySeed 16 = .ok (.aload_n 0, 1) := by decide +kernel
theorem dX4_isFloodedBySeed_17 : decode cX4_isFloodedBySeed 17 = .ok (.getfield 264, 3) := by decide +kernel
theorem dX4_isFloodedBySeed_20 : decode cX4_isFloodedBySeed 20 = .ok (.bipush 33, 2) := by decide +kernel
theorem dX4_isFloodedBySeed_22 : decode cX4_isFloodedBySeed 22 = .ok (.lushr, 1) := by decide +kernel
theorem dX4_isFloodedBySeed_23 : decode cX4_isFloodedBySeed 23 = .ok (.ldc2_w 278, 3) := by decide +kernel
theorem dX4_isFloodedBySeed_26 : decode cX4_isFloodedBySeed 26 = .ok (.lrem, 1) := by decide +kernel
theorem dX4_isFloodedBySeed_27 : decode cX4_isFloodedBySeed 27 = .ok (.iload_n 1, 1) := by decide +kernel
theorem dX4_isFloodedBySeed_28 : decode cX4_isFloodedBySeed 28 = .ok (.i2l, 1) := by decide +kernel
theorem dX4_isFloodedBySeed_29 : decode cX4_isFloodedBySeed 29 = .ok (.lcmp, 1) := by decide +kernel
theorem dX4_isFloodedBySeed_30 : decode cX4_isFloodedBySeed 30 = .ok (.ifCond .ge 7, 3) := by decide +kernel
theorem dX4_isFloodedBySeed_33 : decode cX4_isFloodedBySeed 33 = .ok (.iconst 1, 1) := by decide +kernel
theorem dX4_isFloodedBySeed_34 : decode cX4_isFloodedBySeed 34 = .ok (.goto 4, 3) := by decide +kernel
theorem dX4_isFloodedBySeed_37 : decode cX4_isFloodedBySeed 37 = .ok (.iconst 0, 1) := by decide +kernel
theorem dX4_isFloodedBySeed_38 : decode cX4_isFloodedBySeed 38 = .ok (.ireturn, 1) := by decide +kernel
theorem dX4_keep_0 : decode cX4_keep 0 = .ok (.iload_n 1, 1) := by decide +kernel
theorem dX4_keep_1 : decode cX4_keep 1 = .ok (.iconst 0, 1) := by decide +kernel
theorem dX4_keep_2 : decode cX4_keep 2 = .ok (.iconst 1, 1) := by decide +kernel
theorem dX4_keep_3 : decode cX4_keep 3 = .ok (.invokestatic 128, 3) := by decide +kernel
theorem dX4_keep_6 : decode cX4_keep 6 = .ok (.ifCond .ne 5, 3) := by decide +kernel
theorem dX4_keep_9 : decode cX4_keep 9 = .ok (.iconst (-1), 1) := by decide +kernel
theorem dX4_keep_10 : decode cX4_keep 10 = .ok (.ireturn, 1) := by decide +kernel
theorem dX4_keep_11 : decode cX4_keep 11 = .ok (.aload_n 0, 1) := by decide +kernel
theorem dX4_keep_12 : decode cX4_keep 12 = .ok (.iload_n 1, 1) := by decide +kernel
theorem dX4_keep_13 : decode cX4_keep 13 = .ok (.invokevirtual 280, 3) := by decide +kernel
theorem dX4_keep_16 : decode cX4_keep 16 = .ok (.aload_n 0, 1) := by decide +kernel
theorem dX4_keep_17 : decode cX4_keep 17 = .ok (.getfield 26, 3) := by decide +kernel
theorem dX4_keep_20 : decode cX4_keep 20 = .ok (.invokevirtual 168, 3) := by decide +kernel
theorem dX4_keep_23 : decode cX4_keep 23 = .ok (.aload_n 0, 1) := by decide +kernel
theorem dX4_keep_24 : decode cX4_keep 24 = .ok (.dup, 1) := by decide +kernel
theorem dX4_keep_25 : decode cX4_keep 25 = .ok (.getfield 75, 3) := by decide +kernel
theorem dX4_keep_28 : decode cX4_keep 28 = .ok (.iconst 1, 1) := by decide +kernel
theorem dX4_keep_29 : decode cX4_keep 29 = .ok (.iload_n 1, 1) := by decide +kernel
theorem dX4_keep_30 : decode cX4_keep 30 = .ok (.ishl, 1) := by decide +kernel
theorem dX4_keep_31 : decode cX4_keep 31 = .ok (.ior, 1) := by decide +kernel
theorem dX4_keep_32 : decode cX4_keep 32 = .ok (.putfield 75, 3) := by decide +kernel
theorem dX4_keep_35 : decode cX4_keep 35 = .ok (.aload_n 0, 1) := by decide +kernel
theorem dX4_keep_36 : decode cX4_keep 36 = .ok (.getfield 26, 3) := by decide +kernel
theorem dX4_keep_39 : decode cX4_keep 39 = .ok (.getfield 88, 3) := by decide +kernel
theorem dX4_keep_42 : decode cX4_keep 42 = .ok (.ireturn, 1) := by decide +kernel
theorem dX4_again_0 : decode cX4_again 0 = .ok (.iload_n 1, 1) := by decide +kernel
theorem dX4_again_1 : decode cX4_again 1 = .ok (.iconst 0, 1) := by decide +kernel
theorem dX4_again_2 : decode cX4_again 2 = .ok (.iconst 1, 1) := by decide +kernel
theorem dX4_again_3 : decode cX4_again 3 = .ok (.invokestatic 128, 3) := by decide +kernel
theorem dX4_again_6 : decode cX4_again 6 = .ok (.ifCond .ne 5, 3) := by decide +kernel
theorem dX4_again_9 : decode cX4_again 9 = .ok (.iconst (-1), 1) := by decide +kernel
theorem dX4_again_10 : decode cX4_again 10 = .ok (.ireturn, 1) := by decide +kernel
theorem dX4_again_11 : decode cX4_again 11 = .ok (.aload_n 0, 1) := by decide +kernel
theorem dX4_again_12 : decode cX4_again 12 = .ok (.getfield 75, 3) := by decide +kernel
theorem dX4_again_15 : decode cX4_again 15 = .ok (.iload_n 1, 1) := by decide +kernel
theorem dX4_again_16 : decode cX4_again 16 = .ok (.ishr, 1) := by decide +kernel
theorem dX4_again_17 : decode cX4_again 17 = .ok (.iconst 1, 1) := by decide +kernel
theorem dX4_again_18 : decode cX4_again 18 = .ok (.iand, 1) := by decide +kernel
theorem dX4_again_19 : decode cX4_again 19 = .ok (.ifCond .ne 6, 3) := by decide +kernel
theorem dX4_again_22 : decode cX4_again 22 = .ok (.bipush (-3), 2) := by decide +kernel
theorem dX4_again_24 : decode cX4_again 24 = .ok (.ireturn, 1) := by decide +kernel
theorem dX4_again_25 : decode cX4_again 25 = .ok (.aload_n 0, 1) := by decide +kernel
theorem dX4_again_26 : decode cX4_again 26 = .ok (.getfield 26, 3) := by decide +kernel
theorem dX4_again_29 : decode cX4_again 29 = .ok (.aload_n 0, 1) := by decide +kernel
theorem dX4_again_30 : decode cX4_again 30 = .ok (.iload_n 1, 1) := by decide +kernel
theorem dX4_again_31 : decode cX4_again 31 = .ok (.invokevirtual 280, 3) := by decide +kernel
theorem dX4_again_34 : decode cX4_again 34 = .ok (.invokevirtual 168, 3) := by decide +kernel
theorem dX4_again_37 : decode cX4_again 37 = .ok (.aload_n 0, 1) := by decide +kernel
theorem dX4_again_38 : decode cX4_again 38 = .ok (.getfield 33, 3) := by decide +kernel
theorem dX4_again_41 : decode cX4_again 41 = .ok (.iconst 0, 1) := by decide +kernel
theorem dX4_again_42 : decode cX4_again 42 = .ok (.putfield 74, 3) := by decide +kernel
theorem dX4_again_45 : decode cX4_again 45 = .ok (.aload_n 0, 1) := by decide +kernel
theorem dX4_again_46 : decode cX4_again 46 = .ok (.getfield 26, 3) := by decide +kernel
theorem dX4_again_49 : decode cX4_again 49 = .ok (.getfield 88, 3) := by decide +kernel
theorem dX4_again_52 : decode cX4_again 52 = .ok (.ireturn, 1) := by decide +kernel
theorem dX4_slotOf_0 : decode cX4_slotOf 0 = .ok (.iload_n 1, 1) := by decide +kernel
theorem dX4_slotOf_1 : decode cX4_slotOf 1 = .ok (.ifCond .ne 10, 3) := by decide +kernel
theorem dX4_slotOf_4 : decode cX4_slotOf 4 = .ok (.aload_n 0, 1) := by decide +kernel
theorem dX4_slotOf_5 : decode cX4_slotOf 5 = .ok (.getfield 37, 3) := by decide +kernel
theorem dX4_slotOf_8 : decode cX4_slotOf 8 = .ok (.goto 7, 3) := by decide +kernel
theorem dX4_slotOf_11 : decode cX4_slotOf 11 = .ok (.aload_n 0, 1) := by decide +kernel
theorem dX4_slotOf_12 : decode cX4_slotOf 12 = .ok (.getfield 40, 3) := by decide +kernel
theorem dX4_slotOf_15 : decode cX4_slotOf 15 = .ok (.areturn, 1) := by decide +kernel
theorem dX4_isWithin_0 : decode cX4_isWithin 0 = .ok (.iload_n 0, 1) := by decide +kernel
theorem dX4_isWithin_1 : decode cX4_isWithin 1 = .ok (.iload_n 1, 1) := by decide +kernel
theorem dX4_isWithin_2 : decode cX4_isWithin 2 = .ok (.if_icmp .lt 12, 3) := by decide +kernel
theorem dX4_isWithin_5 : decode cX4_isWithin 5 = .ok (.iload_n 0, 1) := by decide +kernel
theorem dX4_isWithin_6 : decode cX4_isWithin 6 = .ok (.iload_n 2, 1) := by decide +kernel
theorem dX4_isWithin_7 : decode cX4_isWithin 7 = .ok (.if_icmp .gt 7, 3) := by decide +kernel
theorem dX4_isWithin_10 : decode cX4_isWithin 10 = .ok (.iconst 1, 1) := by decide +kernel
theorem dX4_isWithin_11 : decode cX4_isWithin 11 = .ok (.goto 4, 3) := by decide +kernel
theorem dX4_isWithin_14 : decode cX4_isWithin 14 = .ok (.iconst 0, 1) := by decide +kernel
theorem dX4_isWithin_15 : decode cX4_isWithin 15 = .ok (.ireturn, 1) := by decide +kernel
theorem dX5_init_0 : decode cX5_init 0 = .ok (.aload_n 0, 1) := by decide +kernel
theorem dX5_init_1 : decode cX5_init 1 = .ok (.invokespecial 1, 3) := by decide +kernel
theorem dX5_init_4 : decode cX5_init 4 = .ok (.aload_n 0, 1) := by decide +kernel
theorem dX5_init_5 : decode cX5_init 5 = .ok (.bipush 56, 2) := by decide +kernel
theorem dX5_init_7 : decode cX5_init 7 = .ok (.newarray .int, 2) := by decide +kernel
theorem dX5_init_9 : decode cX5_init 9 = .ok (.putfield 7, 3) := by decide +kernel
theorem dX5_init_12 : decode cX5_init 12 = .ok (.aload_n 0, 1) := by decide +kernel
theorem dX5_init_13 : decode cX5_init 13 = .ok (.iconst 4, 1) := by decide +kernel
theorem dX5_init_14 : decode cX5_init 14 = .ok (.newarray .int, 2) := by decide +kernel
theorem dX5_init_16 : decode cX5_init 16 = .ok (.putfield 13, 3) := by decide +kernel
theorem dX5_init_19 : decode cX5_init 19 = .ok (.aload_n 0, 1) := by decide +kernel
theorem dX5_init_20 : decode cX5_init 20 = .ok (.iconst 4, 1) := by decide +kernel
theorem dX5_init_21 : decode cX5_init 21 = .ok (.newarray .int, 2) := by decide +kernel
theorem dX5_init_23 : decode cX5_init 23 = .ok (.putfield 16, 3) := by decide +kernel
theorem dX5_init_26 : decode cX5_init 26 = .ok (.aload_n 0, 1) := by decide +kernel
theorem dX5_init_27 : decode cX5_init 27 = .ok (.iconst 4, 1) := by decide +kernel
theorem dX5_init_28 : decode cX5_init 28 = .ok (.newarray .int, 2) := by decide +kernel
theorem dX5_init_30 : decode cX5_init 30 = .ok (.putfield 19, 3) := by decide +kernel
theorem dX5_init_33 : decode cX5_init 33 = .ok (.aload_n 0, 1) := by decide +kernel
theorem dX5_init_34 : decode cX5_init 34 = .ok (.iconst 4, 1) := by decide +kernel
theorem dX5_init_35 : decode cX5_init 35 = .ok (.newarray .int, 2) := by decide +kernel
theorem dX5_init_37 : decode cX5_init 37 = .ok (.putfield 22, 3) := by decide +kernel
theorem dX5_init_40 : decode cX5_init 40 = .ok (.aload_n 0, 1) := by decide +kernel
theorem dX5_init_41 : decode cX5_init 41 = .ok (.bipush 52, 2) := by decide +kernel
theorem dX5_init_43 : decode cX5_init 43 = .ok (.newarray .int, 2) := by decide +kernel
theorem dX5_init_45 : decode cX5_init 45 = .ok (.putfield 25, 3) := by decide +kernel
theorem dX5_init_48 : decode cX5_init 48 = .ok (.aload_n 0, 1) := by decide +kernel
theorem dX5_init_49 : decode cX5_init 49 = .ok (.bipush 52, 2) := by decide +kernel
theorem dX5_init_51 : decode cX5_init 51 = .ok (.newarray .int, 2) := by decide +kernel
theorem dX5_init_53 : decode cX5_init 53 = .ok (.putfield 28, 3) := by decide +kernel
theorem dX5_init_56 : decode cX5_init 56 = .ok (.aload_n 0, 1) := by decide +kernel
theorem dX5_init_57 : decode cX5_init 57 = .ok (.sipush 624, 3) := by decide +kernel
theorem dX5_init_60 : decode cX5_init 60 = .ok (.newarray .int, 2) := by decide +kernel
theorem dX5_init_62 : decode cX5_init 62 = .ok (.putfield 31, 3) := by decide +kernel
theorem dX5_init_65 : decode cX5_init 65 = .ok (.aload_n 0, 1) := by decide +kernel
theorem dX5_init_66 : decode cX5_init 66 = .ok (.bipush 104, 2) := by decide +kernel
theorem dX5_init_68 : decode cX5_init 68 = .ok (.newarray .int, 2) := by decide +kernel
theorem dX5_init_70 : decode cX5_init 70 = .ok (.putfield 34, 3) := by decide +kernel
theorem dX5_init_73 : decode cX5_init 73 = .ok (.aload_n 0, 1) := by decide +kernel
theorem dX5_init_74 : decode cX5_init 74 = .ok (.iconst 2, 1) := by decide +kernel
theorem dX5_init_75 : decode cX5_init 75 = .ok (.newarray .boolean, 2) := by decide +kernel
theorem dX5_init_77 : decode cX5_init 77 = .ok (.putfield 37, 3) := by decide +kernel
theorem dX5_init_80 : decode cX5_init 80 = .ok (.aload_n 0, 1) := by decide +kernel
theorem dX5_init_81 : decode cX5_init 81 = .ok (.bipush 52, 2) := by decide +kernel
theorem dX5_init_83 : decode cX5_init 83 = .ok (.newarray .int, 2) := by decide +kernel
theorem dX5_init_85 : decode cX5_init 85 = .ok (.putfield 41, 3) := by decide +kernel
theorem dX5_init_88 : decode cX5_init 88 = .ok (.aload_n 0, 1) := by decide +kernel
theorem dX5_init_89 : decode cX5_init 89 = .ok (.bipush 52, 2) := by decide +kernel
theorem dX5_init_91 : decode cX5_init 91 = .ok (.newarray .int, 2) := by decide +kernel
theorem dX5_init_93 : decode cX5_init 93 = .ok (.putfield 44, 3) := by decide +kernel
theorem dX5_init_96 : decode cX5_init 96 = .ok (.aload_n 0, 1) := by decide +kernel
theorem dX5_init_97 : decode cX5_init 97 = .ok (.bipush 52, 2) := by decide +kernel
theorem dX5_init_99 : decode cX5_init 99 = .ok (.newarray .int, 2) := by decide +kernel
theorem dX5_init_101 : decode cX5_init 101 = .ok (.putfield 47, 3) := by decide +kernel
theorem dX5_init_104 : decode cX5_init 104 = .ok (.aload_n 0, 1) := by decide +kernel
theorem dX5_init_105 : decode cX5_init 105 = .ok (.bipush 8, 2) := by decide +kernel
theorem dX5_init_107 : decode cX5_init 107 = .ok (.newarray .int, 2) := by decide +kernel
theorem dX5_init_109 : decode cX5_init 109 = .ok (.putfield 50, 3) := by decide +kernel
theorem dX5_init_112 : decode cX5_init 112 = .ok (.aload_n 0, 1) := by decide +kernel
theorem dX5_init_113 : decode cX5_init 113 = .ok (.bipush 64, 2) := by decide +kernel
theorem dX5_init_115 : decode cX5_init 115 = .ok (.newarray .int, 2) := by decide +kernel
theorem dX5_init_117 : decode cX5_init 117 = .ok (.putfield 53, 3) := by decide +kernel
theorem dX5_init_120 : decode cX5_init 120 = .ok (.aload_n 0, 1) := by decide +kernel
theorem dX5_init_121 : decode cX5_init 121 = .ok (.bipush 16, 2) := by decide +kernel
theorem dX5_init_123 : decode cX5_init 123 = .ok (.newarray .int, 2) := by decide +kernel
theorem dX5_init_125 : decode cX5_init 125 = .ok (.putfield 56, 3) := by decide +kernel
theorem dX5_init_128 : decode cX5_init 128 = .ok (.aload_n 0, 1) := by decide +kernel
theorem dX5_init_129 : decode cX5_init 129 = .ok (.bipush 16, 2) := by decide +kernel
theorem dX5_init_131 : decode cX5_init 131 = .ok (.newarray .int, 2) := by decide +kernel
theorem dX5_init_133 : decode cX5_init 133 = .ok (.putfield 59, 3) := by decide +kernel
theorem dX5_init_136 : decode cX5_init 136 = .ok (.return_, 1) := by decide +kernel
theorem dX5_in_0 : decode cX5_in 0 = .ok (.lload_n 0, 1) := by decide +kernel
theorem dX5_in_1 : decode cX5_in 1 = .ok (.lload_n 2, 1) := by decide +kernel
theorem dX5_in_2 : decode cX5_in 2 = .ok (.lcmp, 1) := by decide +kernel
theorem dX5_in_3 : decode cX5_in 3 = .ok (.ifCond .lt 14, 3) := by decide +kernel
theorem dX5_in_6 : decode cX5_in 6 = .ok (.lload_n 0, 1) := by decide +kernel
theorem dX5_in_7 : decode cX5_in 7 = .ok (.lload 4, 2) := by decide +kernel
theorem dX5_in_9 : decode cX5_in 9 = .ok (.lcmp, 1) := by decide +kernel
theorem dX5_in_10 : decode cX5_in 10 = .ok (.ifCond .gt 7, 3) := by decide +kernel
theorem dX5_in_13 : decode cX5_in 13 = .ok (.iconst 1, 1) := by decide +kernel
theorem dX5_in_14 : decode cX5_in 14 = .ok (.goto 4, 3) := by decide +kernel
theorem dX5_in_17 : decode cX5_in 17 = .ok (.iconst 0, 1) := by decide +kernel
theorem dX5_in_18 : decode cX5_in 18 = .ok (.ireturn, 1) := by decide +kernel
theorem dX5_has_0 : decode cX5_has 0 = .ok (.iload_n 0, 1) := by decide +kernel
theorem dX5_has_1 : decode cX5_has 1 = .ok (.iload_n 1, 1) := by decide +kernel
theorem dX5_has_2 : decode cX5_has 2 = .ok (.ishr, 1) := by decide +kernel
theorem dX5_has_3 : decode cX5_has 3 = .ok (.iconst 1, 1) := by decide +kernel
theorem dX5_has_4 : decode cX5_has 4 = .ok (.iand, 1) := by decide +kernel
theorem dX5_has_5 : decode cX5_has 5 = .ok (.iconst 1, 1) := by decide +kernel
theorem dX5_has_6 : decode cX5_has 6 = .ok (.if_icmp .ne 7, 3) := by decide +kernel
theorem dX5_has_9 : decode cX5_has 9 = .ok (.iconst 1, 1) := by decide +kernel
theorem dX5_has_10 : decode cX5_has 10 = .ok (.goto 4, 3) := by decide +kernel
theorem dX5_has_13 : decode cX5_has 13 = .ok (.iconst 0, 1) := by decide +kernel
theorem dX5_has_14 : decode cX5_has 14 = .ok (.ireturn, 1) := by decide +kernel
theorem dX5_many_0 : decode cX5_many 0 = .ok (.iconst 0, 1) := by decide +kernel
theorem dX5_many_1 : decode cX5_many 1 = .ok (.istore_n 1, 1) := by decide +kernel
theorem dX5_many_2 : decode cX5_many 2 = .ok (.iconst 0, 1) := by decide +kernel
theorem dX5_many_3 : decode cX5_many 3 = .ok (.istore_n 2, 1) := by decide +kernel
theorem dX5_many_4 : decode cX5_many 4 = .ok (.iload_n 2, 1) := by decide +kernel
theorem dX5_many_5 : decode cX5_many 5 = .ok (.bipush 6, 2) := by decide +kernel
theorem dX5_many_7 : decode cX5_many 7 = .ok (.if_icmp .ge 17, 3) := by decide +kernel
theorem dX5_many_10 : decode cX5_many 10 = .ok (.iload_n 1, 1) := by decide +kernel
theorem dX5_many_11 : decode cX5_many 11 = .ok (.iload_n 0, 1) := by decide +kernel
theorem dX5_many_12 : decode cX5_many 12 = .ok (.iload_n 2, 1) := by decide +kernel
theorem dX5_many_13 : decode cX5_many 13 = .ok (.ishr, 1) := by decide +kernel
theorem dX5_many_14 : decode cX5_many 14 = .ok (.iconst 1, 1) := by decide +kernel
theorem dX5_many_15 : decode cX5_many 15 = .ok (.iand, 1) := by decide +kernel
theorem dX5_many_16 : decode cX5_many 16 = .ok (.iadd, 1) := by decide +kernel
theorem dX5_many_17 : decode cX5_many 17 = .ok (.istore_n 1, 1) := by decide +kernel
theorem dX5_many_18 : decode cX5_many 18 = .ok (.iinc 2 1, 3) := by decide +kernel
theorem dX5_many_21 : decode cX5_many 21 = .ok (.goto (-17), 3) := by decide +kernel
theorem dX5_many_24 : decode cX5_many 24 = .ok (.iload_n 1, 1) := by decide +kernel
theorem dX5_many_25 : decode cX5_many 25 = .ok (.ireturn, 1) := by decide +kernel
theorem dX5_noWell_0 : decode cX5_noWell 0 = .ok (.iload_n 1, 1) := by decide +kernel
theorem dX5_noWell_1 : decode cX5_noWell 1 = .ok (.i2l, 1) := by decide +kernel
theorem dX5_noWell_2 : decode cX5_noWell 2 = .ok (.lconst 0, 1) := by decide +kernel
theorem dX5_noWell_3 : decode cX5_noWell 3 = .ok (.aload_n 0, 1) := by decide +kernel
theorem dX5_noWell_4 : decode cX5_noWell 4 = .ok (.getfield 66, 3) := by decide +kernel
theorem dX5_noWell_7 : decode cX5_noWell 7 = .ok (.iconst 1, 1) := by decide +kernel
theorem dX5_noWell_8 : decode cX5_noWell 8 = .ok (.isub, 1) := by decide +kernel
theorem dX5_noWell_9 : decode cX5_noWell 9 = .ok (.i2l, 1) := by decide +kernel
theorem dX5_noWell_10 : decode cX5_noWell 10 = .ok (.invokestatic 69, 3) := by decide +kernel
theorem dX5_noWell_13 : decode cX5_noWell 13 = .ok (.ifCond .ne 7, 3) := by decide +kernel
theorem dX5_noWell_16 : decode cX5_noWell 16 = .ok (.iconst 1, 1) := by decide +kernel
theorem dX5_noWell_17 : decode cX5_noWell 17 = .ok (.goto 4, 3) := by decide +kernel
theorem dX5_noWell_20 : decode cX5_noWell 20 = .ok (.iconst 0, 1) := by decide +kernel
theorem dX5_noWell_21 : decode cX5_noWell 21 = .ok (.ireturn, 1) := by decide +kernel
theorem dX5_noSong_0 : decode cX5_noSong 0 = .ok (.iload_n 1, 1) := by decide +kernel
theorem dX5_noSong_1 : decode cX5_noSong 1 = .ok (.i2l, 1) := by decide +kernel
theorem dX5_noSong_2 : decode cX5_noSong 2 = .ok (.lconst 0, 1) := by decide +kernel
theorem dX5_noSong_3 : decode cX5_noSong 3 = .ok (.aload_n 0, 1) := by decide +kernel
theorem dX5_noSong_4 : decode cX5_noSong 4 = .ok (.getfield 28, 3) := by decide +kernel
theorem dX5_noSong_7 : decode cX5_noSong 7 = .ok (.bipush 48, 2) := by decide +kernel
theorem dX5_noSong_9 : decode cX5_noSong 9 = .ok (.iaload, 1) := by decide +kernel
theorem dX5_noSong_10 : decode cX5_noSong 10 = .ok (.iconst 1, 1) := by decide +kernel
theorem dX5_noSong_11 : decode cX5_noSong 11 = .ok (.isub, 1) := by decide +kernel
theorem dX5_noSong_12 : decode cX5_noSong 12 = .ok (.i2l, 1) := by decide +kernel
theorem dX5_noSong_13 : decode cX5_noSong 13 = .ok (.invokestatic 69, 3) := by decide +kernel
theorem dX5_noSong_16 : decode cX5_noSong 16 = .ok (.ifCond .ne 7, 3) := by decide +kernel
theorem dX5_noSong_19 : decode cX5_noSong 19 = .ok (.iconst 1, 1) := by decide +kernel
theorem dX5_noSong_20 : decode cX5_noSong 20 = .ok (.goto 4, 3) := by decide +kernel
theorem dX5_noSong_23 : decode cX5_noSong 23 = .ok (.iconst 0, 1) := by decide +kernel
theorem dX5_noSong_24 : decode cX5_noSong 24 = .ok (.ireturn, 1) := by decide +kernel
theorem dX5_write_0 : decode cX5_write 0 = .ok (.aload_n 0, 1) := by decide +kernel
theorem dX5_write_1 : decode cX5_write 1 = .ok (.iconst 0, 1) := by decide +kernel
theorem dX5_write_2 : decode cX5_write 2 = .ok (.putfield 62, 3) := by decide +kernel
theorem dX5_write_5 : decode cX5_write 5 = .ok (.iload_n 1, 1) := by decide +kernel
theorem dX5_write_6 : decode cX5_write 6 = .ok (.i2l, 1) := by decide +kernel
theorem dX5_write_7 : decode cX5_write 7 = .ok (.lconst 0, 1) := by decide +kernel
theorem dX5_write_8 : decode cX5_write 8 = .ok (.ldc2_w 73, 3) := by decide +kernel
theorem dX5_write_11 : decode cX5_write 11 = .ok (.invokestatic 69, 3) := by decide +kernel
theorem dX5_write_14 : decode cX5_write 14 = .ok (.ifCond .ne 6, 3) := by decide +kernel
theorem dX5_write_17 : decode cX5_write 17 = .ok (.bipush (-2), 2) := by decide +kernel
theorem dX5_write_19 : decode cX5_write 19 = .ok (.ireturn, 1) := by decide +kernel
theorem dX5_write_20 : decode cX5_write 20 = .ok (.aload_n 0, 1) := by decide +kernel
theorem dX5_write_21 : decode cX5_write 21 = .ok (.getfield 75, 3) := by decide +kernel
theorem dX5_write_24 : decode cX5_write 24 = .ok (.bipush 56, 2) := by decide +kernel
theorem dX5_write_26 : decode cX5_write 26 = .ok (.if_icmp .ne 6, 3) := by decide +kernel
theorem dX5_write_29 : decode cX5_write 29 = .ok (.bipush (-4), 2) := by decide +kernel
theorem dX5_write_31 : decode cX5_write 31 = .ok (.ireturn, 1) := by decide +kernel
theorem dX5_write_32 : decode cX5_write 32 = .ok (.aload_n 0, 1) := by decide +kernel
theorem dX5_write_33 : decode cX5_write 33 = .ok (.getfield 7, 3) := by decide +kernel
theorem dX5_write_36 : decode cX5_write 36 = .ok (.aload_n 0, 1) := by decide +kernel
theorem dX5_write_37 : decode cX5_write 37 = .ok (.getfield 75, 3) := by decide +kernel
theorem dX5_write_40 : decode cX5_write 40 = .ok (.iload_n 1, 1) := by decide +kernel
theorem dX5_write_41 : decode cX5_write 41 = .ok (.iastore, 1) := by decide +kernel
theorem dX5_write_42 : decode cX5_write 42 = .ok (.aload_n 0, 1) := by decide +kernel
theorem dX5_write_43 : decode cX5_write 43 = .ok (.dup, 1) := by decide +kernel
theorem dX5_write_44 : decode cX5_write 44 = .ok (.getfield 75, 3) := by decide +kernel
theorem dX5_write_47 : decode cX5_write 47 = .ok (.iconst 1, 1) := by decide +kernel
theorem dX5_write_48 : decode cX5_write 48 = .ok (.iadd, 1) := by decide +kernel
theorem dX5_write_49 : decode cX5_write 49 = .ok (.putfield 75, 3) := by decide +kernel
theorem dX5_write_52 : decode cX5_write 52 = .ok (.aload_n 0, 1) := by decide +kernel
theorem dX5_write_53 : decode cX5_write 53 = .ok (.getfield 75, 3) := by decide +kernel
theorem dX5_write_56 : decode cX5_write 56 = .ok (.ireturn, 1) := by decide +kernel
theorem dX5_wipe_0 : decode cX5_wipe 0 = .ok (.aload_n 0, 1) := by decide +kernel
theorem dX5_wipe_1 : decode cX5_wipe 1 = .ok (.iconst 0, 1) := by decide +kernel
theorem dX5_wipe_2 : decode cX5_wipe 2 = .ok (.putfield 62, 3) := by decide +kernel
theorem dX5_wipe_5 : decode cX5_wipe 5 = .ok (.aload_n 0, 1) := by decide +kernel
theorem dX5_wipe_6 : decode cX5_wipe 6 = .ok (.getfield 75, 3) := by decide +kernel
theorem dX5_wipe_9 : decode cX5_wipe 9 = .ok (.istore_n 1, 1) := by decide +kernel
theorem dX5_wipe_10 : decode cX5_wipe 10 = .ok (.aload_n 0, 1) := by decide +kernel
theorem dX5_wipe_11 : decode cX5_wipe 11 = .ok (.iconst 0, 1) := by decide +kernel
theorem dX5_wipe_12 : decode cX5_wipe 12 = .ok (.putfield 75, 3) := by decide +kernel
theorem dX5_wipe_15 : decode cX5_wipe 15 = .ok (.iload_n 1, 1) := by decide +kernel
theorem dX5_wipe_16 : decode cX5_wipe 16 = .ok (.ireturn, 1) := by decide +kernel
theorem dX5_figure_0 : decode cX5_figure 0 = .ok (.aload_n 0, 1) := by decide +kernel
theorem dX5_figure_1 : decode cX5_figure 1 = .ok (.getfield 78, 3) := by decide +kernel
theorem dX5_figure_4 : decode cX5_figure 4 = .ok (.aload_n 0, 1) := by decide +kernel
theorem dX5_figure_5 : decode cX5_figure 5 = .ok (.getfield 75, 3) := by decide +kernel
theorem dX5_figure_8 : decode cX5_figure 8 = .ok (.if_icmp .eq 26, 3) := by decide +kernel
theorem dX5_figure_11 : decode cX5_figure 11 = .ok (.aload_n 0, 1) := by decide +kernel
theorem dX5_figure_12 : decode cX5_figure 12 = .ok (.getfield 7, 3) := by decide +kernel
theorem dX5_figure_15 : decode cX5_figure 15 = .ok (.aload_n 0, 1) := by decide +kernel
theorem dX5_figure_16 : decode cX5_figure 16 = .ok (.getfield 78, 3) := by decide +kernel
theorem dX5_figure_19 : decode cX5_figure 19 = .ok (.iaload, 1) := by decide +kernel
theorem dX5_figure_20 : decode cX5_figure 20 = .ok (.bipush 48, 2) := by decide +kernel
theorem dX5_figure_22 : decode cX5_figure 22 = .ok (.isub, 1) := by decide +kernel
theorem dX5_figure_23 : decode cX5_figure 23 = .ok (.i2l, 1) := by decide +kernel
theorem dX5_figure_24 : decode cX5_figure 24 = .ok (.iload_n 1, 1) := by decide +kernel
theorem dX5_figure_25 : decode cX5_figure 25 = .ok (.i2l, 1) := by decide +kernel
theorem dX5_figure_26 : decode cX5_figure 26 = .ok (.iload_n 2, 1) := by decide +kernel
theorem dX5_figure_27 : decode cX5_figure 27 = .ok (.i2l, 1) := by decide +kernel
theorem dX5_figure_28 : decode cX5_figure 28 = .ok (.invokestatic 69, 3) := by decide +kernel
theorem dX5_figure_31 : decode cX5_figure 31 = .ok (.ifCond .ne 6, 3) := by decide +kernel
theorem dX5_figure_34 : decode cX5_figure 34 = .ok (.bipush (-9), 2) := by decide +kernel
theorem dX5_figure_36 : decode cX5_figure 36 = .ok (.ireturn, 1) := by decide +kernel
theorem dX5_figure_37 : decode cX5_figure 37 = .ok (.aload_n 0, 1) := by decide +kernel
theorem dX5_figure_38 : decode cX5_figure 38 = .ok (.dup, 1) := by decide +kernel
theorem dX5_figure_39 : decode cX5_figure 39 = .ok (.getfield 78, 3) := by decide +kernel
theorem dX5_figure_42 : decode cX5_figure 42 = .ok (.iconst 1, 1) := by decide +kernel
theorem dX5_figure_43 : decode cX5_figure 43 = .ok (.iadd, 1) := by decide +kernel
theorem dX5_figure_44 : decode cX5_figure 44 = .ok (.putfield 78, 3) := by decide +kernel
theorem dX5_figure_47 : decode cX5_figure 47 = .ok (.aload_n 0, 1) := by decide +kernel
theorem dX5_figure_48 : decode cX5_figure 48 = .ok (.getfield 7, 3) := by decide +kernel
theorem dX5_figure_51 : decode cX5_figure 51 = .ok (.aload_n 0, 1) := by decide +kernel
theorem dX5_figure_52 : decode cX5_figure 52 = .ok (.getfield 78, 3) := by decide +kernel
theorem dX5_figure_55 : decode cX5_figure 55 = .ok (.iconst 1, 1) := by decide +kernel
theorem dX5_figure_56 : decode cX5_figure 56 = .ok (.isub, 1) := by decide +kernel
theorem dX5_figure_57 : decode cX5_figure 57 = .ok (.iaload, 1) := by decide +kernel
theorem dX5_figure_58 : decode cX5_figure 58 = .ok (.bipush 48, 2) := by decide +kernel
theorem dX5_figure_60 : decode cX5_figure 60 = .ok (.isub, 1) := by decide +kernel
theorem dX5_figure_61 : decode cX5_figure 61 = .ok (.ireturn, 1) := by decide +kernel
theorem dX5_readWell_0 : decode cX5_readWell 0 = .ok (.aload_n 0, 1) := by decide +kernel
theorem dX5_readWell_1 : decode cX5_readWell 1 = .ok (.iconst 1, 1) := by decide +kernel
theorem dX5_readWell_2 : decode cX5_readWell 2 = .ok (.bipush 9, 2) := by decide +kernel
theorem dX5_readWell_4 : decode cX5_readWell 4 = .ok (.invokevirtual 81, 3) := by decide +kernel
theorem dX5_readWell_7 : decode cX5_readWell 7 = .ok (.istore_n 1, 1) := by decide +kernel
theorem dX5_readWell_8 : decode cX5_readWell 8 = .ok (.iload_n 1, 1) := by decide +kernel
theorem dX5_readWell_9 : decode cX5_readWell 9 = .ok (.bipush (-9), 2) := by decide +kernel
theorem dX5_readWell_11 : decode cX5_readWell 11 = .ok (.if_icmp .ne 8, 3) := by decide +kernel
theorem dX5_readWell_14 : decode cX5_readWell 14 = .ok (.bipush (-9), 2) := by decide +kernel
theorem dX5_readWell_16 : decode cX5_readWell 16 = .ok (.goto 9, 3) := by decide +kernel
theorem dX5_readWell_19 : decode cX5_readWell 19 = .ok (.aload_n 0, 1) := by decide +kernel
theorem dX5_readWell_20 : decode cX5_readWell 20 = .ok (.iconst 0, 1) := by decide +kernel
theorem dX5_readWell_21 : decode cX5_readWell 21 = .ok (.iconst 2, 1) := by decide +kernel
theorem dX5_readWell_22 : decode cX5_readWell 22 = .ok (.invokevirtual 81, 3) := by decide +kernel
theorem dX5_readWell_25 : decode cX5_readWell 25 = .ok (.istore_n 2, 1) := by decide +kernel
theorem dX5_readWell_26 : decode cX5_readWell 26 = .ok (.iload_n 2, 1) := by decide +kernel
theorem dX5_readWell_27 : decode cX5_readWell 27 = .ok (.bipush (-9), 2) := by decide +kernel
theorem dX5_readWell_29 : decode cX5_readWell 29 = .ok (.if_icmp .ne 5, 3) := by decide +kernel
theorem dX5_readWell_32 : decode cX5_readWell 32 = .ok (.iconst 0, 1) := by decide +kernel
theorem dX5_readWell_33 : decode cX5_readWell 33 = .ok (.ireturn, 1) := by decide +kernel
theorem dX5_readWell_34 : decode cX5_readWell 34 = .ok (.aload_n 0, 1) := by decide +kernel
theorem dX5_readWell_35 : decode cX5_readWell 35 = .ok (.getfield 19, 3) := by decide +kernel
theorem dX5_readWell_38 : decode cX5_readWell 38 = .ok (.aload_n 0, 1) := by decide +kernel
theorem dX5_readWell_39 : decode cX5_readWell 39 = .ok (.getfield 85, 3) := by decide +kernel
theorem dX5_readWell_42 : decode cX5_readWell 42 = .ok (.iload_n 1, 1) := by decide +kernel
theorem dX5_readWell_43 : decode cX5_readWell 43 = .ok (.iastore, 1) := by decide +kernel
theorem dX5_readWell_44 : decode cX5_readWell 44 = .ok (.aload_n 0, 1) := by decide +kernel
theorem dX5_readWell_45 : decode cX5_readWell 45 = .ok (.getfield 22, 3) := by decide +kernel
theorem dX5_readWell_48 : decode cX5_readWell 48 = .ok (.aload_n 0, 1) := by decide +kernel
theorem dX5_readWell_49 : decode cX5_readWell 49 = .ok (.getfield 85, 3) := by decide +kernel
theorem dX5_readWell_52 : decode cX5_readWell 52 = .ok (.iload_n 2, 1) := by decide +kernel
theorem dX5_readWell_53 : decode cX5_readWell 53 = .ok (.iastore, 1) := by decide +kernel
theorem dX5_readWell_54 : decode cX5_readWell 54 = .ok (.aload_n 0, 1) := by decide +kernel
theorem dX5_readWell_55 : decode cX5_readWell 55 = .ok (.dup, 1) := by decide +kernel
theorem dX5_readWell_56 : decode cX5_readWell 56 = .ok (.getfield 85, 3) := by decide +kernel
theorem dX5_readWell_59 : decode cX5_readWell 59 = .ok (.iconst 1, 1) := by decide +kernel
theorem dX5_readWell_60 : decode cX5_readWell 60 = .ok (.iadd, 1) := by decide +kernel
theorem dX5_readWell_61 : decode cX5_readWell 61 = .ok (.putfield 85, 3) := by decide +kernel
theorem dX5_readWell_64 : decode cX5_readWell 64 = .ok (.iconst 1, 1) := by decide +kernel
theorem dX5_readWell_65 : decode cX5_readWell 65 = .ok (.ireturn, 1) := by decide +kernel
theorem dX5_readSong_0 : decode cX5_readSong 0 = .ok (.aload_n 0, 1) := by decide +kernel
theorem dX5_readSong_1 : decode cX5_readSong 1 = .ok (.iconst 0, 1) := by decide +kernel
theorem dX5_readSong_2 : decode cX5_readSong 2 = .ok (.iconst 5, 1) := by decide +kernel
theorem dX5_readSong_3 : decode cX5_readSong 3 = .ok (.invokevirtual 81, 3) := by decide +kernel
theorem dX5_readSong_6 : decode cX5_readSong 6 = .ok (.istore_n 1, 1) := by decide +kernel
theorem dX5_readSong_7 : decode cX5_readSong 7 = .ok (.iload_n 1, 1) := by decide +kernel
theorem dX5_readSong_8 : decode cX5_readSong 8 = .ok (.bipush (-9), 2) := by decide +kernel
theorem dX5_readSong_10 : decode cX5_readSong 10 = .ok (.if_icmp .ne 8, 3) := by decide +kernel
theorem dX5_readSong_13 : decode cX5_readSong 13 = .ok (.bipush (-9), 2) := by decide +kernel
theorem dX5_readSong_15 : decode cX5_readSong 15 = .ok (.goto 14, 3) := by decide +kernel
theorem dX5_readSong_18 : decode cX5_readSong 18 = .ok (.aload_n 0, 1) := by decide +kernel
theorem dX5_readSong_19 : decode cX5_readSong 19 = .ok (.iconst 0, 1) := by decide +kernel
theorem dX5_readSong_20 : decode cX5_readSong 20 = .ok (.aload_n 0, 1) := by decide +kernel
theorem dX5_readSong_21 : decode cX5_readSong 21 = .ok (.getfield 85, 3) := by decide +kernel
theorem dX5_readSong_24 : decode cX5_readSong 24 = .ok (.iconst 1, 1) := by decide +kernel
theorem dX5_readSong_25 : decode cX5_readSong 25 = .ok (.isub, 1) := by decide +kernel
theorem dX5_readSong_26 : decode cX5_readSong 26 = .ok (.invokevirtual 81, 3) := by decide +kernel
theorem dX5_readSong_29 : decode cX5_readSong 29 = .ok (.istore_n 2, 1) := by decide +kernel
theorem dX5_readSong_30 : decode cX5_readSong 30 = .ok (.iload_n 2, 1) := by decide +kernel
theorem dX5_readSong_31 : decode cX5_readSong 31 = .ok (.bipush (-9), 2) := by decide +kernel
theorem dX5_readSong_33 : decode cX5_readSong 33 = .ok (.if_icmp .ne 8, 3) := by decide +kernel
theorem dX5_readSong_36 : decode cX5_readSong 36 = .ok (.bipush (-9), 2) := by decide +kernel
theorem dX5_readSong_38 : decode cX5_readSong 38 = .ok (.goto 10, 3) := by decide +kernel
theorem dX5_readSong_41 : decode cX5_readSong 41 = .ok (.aload_n 0, 1) := by decide +kernel
theorem dX5_readSong_42 : decode cX5_readSong 42 = .ok (.iconst 1, 1) := by decide +kernel
theorem dX5_readSong_43 : decode cX5_readSong 43 = .ok (.bipush 9, 2) := by decide +kernel
theorem dX5_readSong_45 : decode cX5_readSong 45 = .ok (.invokevirtual 81, 3) := by decide +kernel
theorem dX5_readSong_48 : decode cX5_readSong 48 = .ok (.istore_n 3, 1) := by decide +kernel
theorem dX5_readSong_49 : decode cX5_readSong 49 = .ok (.iload_n 3, 1) := by decide +kernel
theorem dX5_readSong_50 : decode cX5_readSong 50 = .ok (.bipush (-9), 2) := by decide +kernel
theorem dX5_readSong_52 : decode cX5_readSong 52 = .ok (.if_icmp .ne 8, 3) := by decide +kernel
theorem dX5_readSong_55 : decode cX5_readSong 55 = .ok (.bipush (-9), 2) := by decide +kernel
theorem dX5_readSong_57 : decode cX5_readSong 57 = .ok (.goto 9, 3) := by decide +kernel
theorem dX5_readSong_60 : decode cX5_readSong 60 = .ok (.aload_n 0, 1) := by decide +kernel
theorem dX5_readSong_61 : decode cX5_readSong 61 = .ok (.iconst 0, 1) := by decide +kernel
theorem dX5_readSong_62 : decode cX5_readSong 62 = .ok (.iconst 3, 1) := by decide +kernel
theorem dX5_readSong_63 : decode cX5_readSong 63 = .ok (.invokevirtual 81, 3) := by decide +kernel
theorem dX5_readSong_66 : decode cX5_readSong 66 = .ok (.istore 4, 2) := by decide +kernel
theorem dX5_readSong_68 : decode cX5_readSong 68 = .ok (.iload 4, 2) := by decide +kernel
theorem dX5_readSong_70 : decode cX5_readSong 70 = .ok (.bipush (-9), 2) := by decide +kernel
theorem dX5_readSong_72 : decode cX5_readSong 72 = .ok (.if_icmp .ne 5, 3) := by decide +kernel
theorem dX5_readSong_75 : decode cX5_readSong 75 = .ok (.iconst 0, 1) := by decide +kernel
theorem dX5_readSong_76 : decode cX5_readSong 76 = .ok (.ireturn, 1) := by decide +kernel
theorem dX5_readSong_77 : decode cX5_readSong 77 = .ok (.aload_n 0, 1) := by decide +kernel
theorem dX5_readSong_78 : decode cX5_readSong 78 = .ok (.getfield 25, 3) := by decide +kernel
theorem dX5_readSong_81 : decode cX5_readSong 81 = .ok (.iload_n 1, 1) := by decide +kernel
theorem dX5_readSong_82 : decode cX5_readSong 82 = .ok (.iload_n 2, 1) := by decide +kernel
theorem dX5_readSong_83 : decode cX5_readSong 83 = .ok (.iload_n 3, 1) := by decide +kernel
theorem dX5_readSong_84 : decode cX5_readSong 84 = .ok (.iload 4, 2) := by decide +kernel
end
section
theorem dX5_readSong_86 : decode cX5_readSong 86 = .ok (.iconst 0, 1) := by decide +kernel
theorem dX5_readSong_87 : decode cX5_readSong 87 = .ok (.invokestatic 88, 3) := by decide +kernel
theorem dX5_readSong_90 : decode cX5_readSong 90 = .ok (.iconst 1, 1) := by decide +kernel
theorem dX5_readSong_91 : decode cX5_readSong 91 = .ok (.ireturn, 1) := by decide +kernel
theorem dX5_readPart_0 : decode cX5_readPart 0 = .ok (.aload_n 0, 1) := by decide +kernel
theorem dX5_readPart_1 : decode cX5_readPart 1 = .ok (.getfield 7, 3) := by decide +kernel
theorem dX5_readPart_4 : decode cX5_readPart 4 = .ok (.aload_n 0, 1) := by decide +kernel
theorem dX5_readPart_5 : decode cX5_readPart 5 = .ok (.getfield 78, 3) := by decide +kernel
theorem dX5_readPart_8 : decode cX5_readPart 8 = .ok (.iaload, 1) := by decide +kernel
theorem dX5_readPart_9 : decode cX5_readPart 9 = .ok (.istore_n 1, 1) := by decide +kernel
theorem dX5_readPart_10 : decode cX5_readPart 10 = .ok (.iload_n 1, 1) := by decide +kernel
theorem dX5_readPart_11 : decode cX5_readPart 11 = .ok (.bipush 87, 2) := by decide +kernel
theorem dX5_readPart_13 : decode cX5_readPart 13 = .ok (.if_icmp .ne 26, 3) := by decide +kernel
theorem dX5_readPart_16 : decode cX5_readPart 16 = .ok (.aload_n 0, 1) := by decide +kernel
theorem dX5_readPart_17 : decode cX5_readPart 17 = .ok (.getfield 85, 3) := by decide +kernel
theorem dX5_readPart_20 : decode cX5_readPart 20 = .ok (.iconst 4, 1) := by decide +kernel
theorem dX5_readPart_21 : decode cX5_readPart 21 = .ok (.if_icmp .ge 18, 3) := by decide +kernel
theorem dX5_readPart_24 : decode cX5_readPart 24 = .ok (.aload_n 0, 1) := by decide +kernel
theorem dX5_readPart_25 : decode cX5_readPart 25 = .ok (.dup, 1) := by decide +kernel
theorem dX5_readPart_26 : decode cX5_readPart 26 = .ok (.getfield 78, 3) := by decide +kernel
theorem dX5_readPart_29 : decode cX5_readPart 29 = .ok (.iconst 1, 1) := by decide +kernel
theorem dX5_readPart_30 : decode cX5_readPart 30 = .ok (.iadd, 1) := by decide +kernel
theorem dX5_readPart_31 : decode cX5_readPart 31 = .ok (.putfield 78, 3) := by decide +kernel
theorem dX5_readPart_34 : decode cX5_readPart 34 = .ok (.aload_n 0, 1) := by decide +kernel
theorem dX5_readPart_35 : decode cX5_readPart 35 = .ok (.invokevirtual 92, 3) := by decide +kernel
theorem dX5_readPart_38 : decode cX5_readPart 38 = .ok (.ireturn, 1) := by decide +kernel
theorem dX5_readPart_39 : decode cX5_readPart 39 = .ok (.iload_n 1, 1) := by decide +kernel
theorem dX5_readPart_40 : decode cX5_readPart 40 = .ok (.bipush 83, 2) := by decide +kernel
theorem dX5_readPart_42 : decode cX5_readPart 42 = .ok (.if_icmp .ne 37, 3) := by decide +kernel
theorem dX5_readPart_45 : decode cX5_readPart 45 = .ok (.aload_n 0, 1) := by decide +kernel
theorem dX5_readPart_46 : decode cX5_readPart 46 = .ok (.getfield 85, 3) := by decide +kernel
theorem dX5_readPart_49 : decode cX5_readPart 49 = .ok (.ifCond .le 30, 3) := by decide +kernel
theorem dX5_readPart_52 : decode cX5_readPart 52 = .ok (.aload_n 0, 1) := by decide +kernel
theorem dX5_readPart_53 : decode cX5_readPart 53 = .ok (.getfield 25, 3) := by decide +kernel
theorem dX5_readPart_56 : decode cX5_readPart 56 = .ok (.bipush 48, 2) := by decide +kernel
theorem dX5_readPart_58 : decode cX5_readPart 58 = .ok (.iaload, 1) := by decide +kernel
theorem dX5_readPart_59 : decode cX5_readPart 59 = .ok (.bipush 6, 2) := by decide +kernel
theorem dX5_readPart_61 : decode cX5_readPart 61 = .ok (.if_icmp .ge 18, 3) := by decide +kernel
theorem dX5_readPart_64 : decode cX5_readPart 64 = .ok (.aload_n 0, 1) := by decide +kernel
theorem dX5_readPart_65 : decode cX5_readPart 65 = .ok (.dup, 1) := by decide +kernel
theorem dX5_readPart_66 : decode cX5_readPart 66 = .ok (.getfield 78, 3) := by decide +kernel
theorem dX5_readPart_69 : decode cX5_readPart 69 = .ok (.iconst 1, 1) := by decide +kernel
theorem dX5_readPart_70 : decode cX5_readPart 70 = .ok (.iadd, 1) := by decide +kernel
theorem dX5_readPart_71 : decode cX5_readPart 71 = .ok (.putfield 78, 3) := by decide +kernel
theorem dX5_readPart_74 : decode cX5_readPart 74 = .ok (.aload_n 0, 1) := by decide +kernel
theorem dX5_readPart_75 : decode cX5_readPart 75 = .ok (.invokevirtual 96, 3) := by decide +kernel
theorem dX5_readPart_78 : decode cX5_readPart 78 = .ok (.ireturn, 1) := by decide +kernel
theorem dX5_readPart_79 : decode cX5_readPart 79 = .ok (.iconst 0, 1) := by decide +kernel
theorem dX5_readPart_80 : decode cX5_readPart 80 = .ok (.ireturn, 1) := by decide +kernel
theorem dX5_readLand_0 : decode cX5_readLand 0 = .ok (.aload_n 0, 1) := by decide +kernel
theorem dX5_readLand_1 : decode cX5_readLand 1 = .ok (.iconst 0, 1) := by decide +kernel
theorem dX5_readLand_2 : decode cX5_readLand 2 = .ok (.putfield 78, 3) := by decide +kernel
theorem dX5_readLand_5 : decode cX5_readLand 5 = .ok (.aload_n 0, 1) := by decide +kernel
theorem dX5_readLand_6 : decode cX5_readLand 6 = .ok (.iconst 0, 1) := by decide +kernel
theorem dX5_readLand_7 : decode cX5_readLand 7 = .ok (.putfield 85, 3) := by decide +kernel
theorem dX5_readLand_10 : decode cX5_readLand 10 = .ok (.iconst 0, 1) := by decide +kernel
theorem dX5_readLand_11 : decode cX5_readLand 11 = .ok (.istore_n 1, 1) := by decide +kernel
theorem dX5_readLand_12 : decode cX5_readLand 12 = .ok (.iload_n 1, 1) := by decide +kernel
theorem dX5_readLand_13 : decode cX5_readLand 13 = .ok (.bipush 52, 2) := by decide +kernel
theorem dX5_readLand_15 : decode cX5_readLand 15 = .ok (.if_icmp .ge 16, 3) := by decide +kernel
theorem dX5_readLand_18 : decode cX5_readLand 18 = .ok (.aload_n 0, 1) := by decide +kernel
theorem dX5_readLand_19 : decode cX5_readLand 19 = .ok (.getfield 25, 3) := by decide +kernel
theorem dX5_readLand_22 : decode cX5_readLand 22 = .ok (.iload_n 1, 1) := by decide +kernel
theorem dX5_readLand_23 : decode cX5_readLand 23 = .ok (.iconst 0, 1) := by decide +kernel
theorem dX5_readLand_24 : decode cX5_readLand 24 = .ok (.iastore, 1) := by decide +kernel
theorem dX5_readLand_25 : decode cX5_readLand 25 = .ok (.iinc 1 1, 3) := by decide +kernel
theorem dX5_readLand_28 : decode cX5_readLand 28 = .ok (.goto (-16), 3) := by decide +kernel
theorem dX5_readLand_31 : decode cX5_readLand 31 = .ok (.aload_n 0, 1) := by decide +kernel
theorem dX5_readLand_32 : decode cX5_readLand 32 = .ok (.getfield 75, 3) := by decide +kernel
theorem dX5_readLand_35 : decode cX5_readLand 35 = .ok (.ifCond .eq 14, 3) := by decide +kernel
theorem dX5_readLand_38 : decode cX5_readLand 38 = .ok (.aload_n 0, 1) := by decide +kernel
theorem dX5_readLand_39 : decode cX5_readLand 39 = .ok (.getfield 7, 3) := by decide +kernel
theorem dX5_readLand_42 : decode cX5_readLand 42 = .ok (.iconst 0, 1) := by decide +kernel
theorem dX5_readLand_43 : decode cX5_readLand 43 = .ok (.iaload, 1) := by decide +kernel
theorem dX5_readLand_44 : decode cX5_readLand 44 = .ok (.bipush 76, 2) := by decide +kernel
theorem dX5_readLand_46 : decode cX5_readLand 46 = .ok (.if_icmp .eq 5, 3) := by decide +kernel
theorem dX5_readLand_49 : decode cX5_readLand 49 = .ok (.iconst 0, 1) := by decide +kernel
theorem dX5_readLand_50 : decode cX5_readLand 50 = .ok (.ireturn, 1) := by decide +kernel
theorem dX5_readLand_51 : decode cX5_readLand 51 = .ok (.aload_n 0, 1) := by decide +kernel
theorem dX5_readLand_52 : decode cX5_readLand 52 = .ok (.iconst 1, 1) := by decide +kernel
theorem dX5_readLand_53 : decode cX5_readLand 53 = .ok (.putfield 78, 3) := by decide +kernel
theorem dX5_readLand_56 : decode cX5_readLand 56 = .ok (.aload_n 0, 1) := by decide +kernel
theorem dX5_readLand_57 : decode cX5_readLand 57 = .ok (.getfield 78, 3) := by decide +kernel
theorem dX5_readLand_60 : decode cX5_readLand 60 = .ok (.aload_n 0, 1) := by decide +kernel
theorem dX5_readLand_61 : decode cX5_readLand 61 = .ok (.getfield 75, 3) := by decide +kernel
theorem dX5_readLand_64 : decode cX5_readLand 64 = .ok (.if_icmp .ge 15, 3) := by decide +kernel
theorem dX5_readLand_67 : decode cX5_readLand 67 = .ok (.aload_n 0, 1) := by decide +kernel
theorem dX5_readLand_68 : decode cX5_readLand 68 = .ok (.invokevirtual 99, 3) := by decide +kernel
theorem dX5_readLand_71 : decode cX5_readLand 71 = .ok (.ifCond .ne (-15), 3) := by decide +kernel
theorem dX5_readLand_74 : decode cX5_readLand 74 = .ok (.aload_n 0, 1) := by decide +kernel
theorem dX5_readLand_75 : decode cX5_readLand 75 = .ok (.getfield 78, 3) := by decide +kernel
theorem dX5_readLand_78 : decode cX5_readLand 78 = .ok (.ireturn, 1) := by decide +kernel
theorem dX5_readLand_79 : decode cX5_readLand 79 = .ok (.bipush (-9), 2) := by decide +kernel
theorem dX5_readLand_81 : decode cX5_readLand 81 = .ok (.ireturn, 1) := by decide +kernel
theorem dX5_fault_0 : decode cX5_fault 0 = .ok (.aload_n 0, 1) := by decide +kernel
theorem dX5_fault_1 : decode cX5_fault 1 = .ok (.iconst 0, 1) := by decide +kernel
theorem dX5_fault_2 : decode cX5_fault 2 = .ok (.putfield 62, 3) := by decide +kernel
theorem dX5_fault_5 : decode cX5_fault 5 = .ok (.aload_n 0, 1) := by decide +kernel
theorem dX5_fault_6 : decode cX5_fault 6 = .ok (.invokevirtual 102, 3) := by decide +kernel
theorem dX5_fault_9 : decode cX5_fault 9 = .ok (.ireturn, 1) := by decide +kernel
theorem dX5_land_0 : decode cX5_land 0 = .ok (.aload_n 0, 1) := by decide +kernel
theorem dX5_land_1 : decode cX5_land 1 = .ok (.iconst 0, 1) := by decide +kernel
theorem dX5_land_2 : decode cX5_land 2 = .ok (.putfield 62, 3) := by decide +kernel
theorem dX5_land_5 : decode cX5_land 5 = .ok (.aload_n 0, 1) := by decide +kernel
theorem dX5_land_6 : decode cX5_land 6 = .ok (.invokevirtual 102, 3) := by decide +kernel
theorem dX5_land_9 : decode cX5_land 9 = .ok (.bipush (-9), 2) := by decide +kernel
theorem dX5_land_11 : decode cX5_land 11 = .ok (.if_icmp .eq 6, 3) := by decide +kernel
theorem dX5_land_14 : decode cX5_land 14 = .ok (.bipush (-3), 2) := by decide +kernel
theorem dX5_land_16 : decode cX5_land 16 = .ok (.ireturn, 1) := by decide +kernel
theorem dX5_land_17 : decode cX5_land 17 = .ok (.aload_n 0, 1) := by decide +kernel
theorem dX5_land_18 : decode cX5_land 18 = .ok (.aload_n 0, 1) := by decide +kernel
theorem dX5_land_19 : decode cX5_land 19 = .ok (.getfield 85, 3) := by decide +kernel
theorem dX5_land_22 : decode cX5_land 22 = .ok (.putfield 66, 3) := by decide +kernel
theorem dX5_land_25 : decode cX5_land 25 = .ok (.iconst 0, 1) := by decide +kernel
theorem dX5_land_26 : decode cX5_land 26 = .ok (.istore_n 1, 1) := by decide +kernel
theorem dX5_land_27 : decode cX5_land 27 = .ok (.iload_n 1, 1) := by decide +kernel
theorem dX5_land_28 : decode cX5_land 28 = .ok (.aload_n 0, 1) := by decide +kernel
theorem dX5_land_29 : decode cX5_land 29 = .ok (.getfield 66, 3) := by decide +kernel
theorem dX5_land_32 : decode cX5_land 32 = .ok (.if_icmp .ge 33, 3) := by decide +kernel
theorem dX5_land_35 : decode cX5_land 35 = .ok (.aload_n 0, 1) := by decide +kernel
theorem dX5_land_36 : decode cX5_land 36 = .ok (.getfield 13, 3) := by decide +kernel
theorem dX5_land_39 : decode cX5_land 39 = .ok (.iload_n 1, 1) := by decide +kernel
theorem dX5_land_40 : decode cX5_land 40 = .ok (.aload_n 0, 1) := by decide +kernel
theorem dX5_land_41 : decode cX5_land 41 = .ok (.getfield 19, 3) := by decide +kernel
theorem dX5_land_44 : decode cX5_land 44 = .ok (.iload_n 1, 1) := by decide +kernel
theorem dX5_land_45 : decode cX5_land 45 = .ok (.iaload, 1) := by decide +kernel
theorem dX5_land_46 : decode cX5_land 46 = .ok (.iastore, 1) := by decide +kernel
theorem dX5_land_47 : decode cX5_land 47 = .ok (.aload_n 0, 1) := by decide +kernel
theorem dX5_land_48 : decode cX5_land 48 = .ok (.getfield 16, 3) := by decide +kernel
theorem dX5_land_51 : decode cX5_land 51 = .ok (.iload_n 1, 1) := by decide +kernel
theorem dX5_land_52 : decode cX5_land 52 = .ok (.aload_n 0, 1) := by decide +kernel
theorem dX5_land_53 : decode cX5_land 53 = .ok (.getfield 22, 3) := by decide +kernel
theorem dX5_land_56 : decode cX5_land 56 = .ok (.iload_n 1, 1) := by decide +kernel
theorem dX5_land_57 : decode cX5_land 57 = .ok (.iaload, 1) := by decide +kernel
theorem dX5_land_58 : decode cX5_land 58 = .ok (.iastore, 1) := by decide +kernel
theorem dX5_land_59 : decode cX5_land 59 = .ok (.iinc 1 1, 3) := by decide +kernel
theorem dX5_land_62 : decode cX5_land 62 = .ok (.goto (-35), 3) := by decide +kernel
theorem dX5_land_65 : decode cX5_land 65 = .ok (.iconst 0, 1) := by decide +kernel
theorem dX5_land_66 : decode cX5_land 66 = .ok (.istore_n 1, 1) := by decide +kernel
theorem dX5_land_67 : decode cX5_land 67 = .ok (.iload_n 1, 1) := by decide +kernel
theorem dX5_land_68 : decode cX5_land 68 = .ok (.bipush 52, 2) := by decide +kernel
theorem dX5_land_70 : decode cX5_land 70 = .ok (.if_icmp .ge 21, 3) := by decide +kernel
theorem dX5_land_73 : decode cX5_land 73 = .ok (.aload_n 0, 1) := by decide +kernel
theorem dX5_land_74 : decode cX5_land 74 = .ok (.getfield 28, 3) := by decide +kernel
theorem dX5_land_77 : decode cX5_land 77 = .ok (.iload_n 1, 1) := by decide +kernel
theorem dX5_land_78 : decode cX5_land 78 = .ok (.aload_n 0, 1) := by decide +kernel
theorem dX5_land_79 : decode cX5_land 79 = .ok (.getfield 25, 3) := by decide +kernel
theorem dX5_land_82 : decode cX5_land 82 = .ok (.iload_n 1, 1) := by decide +kernel
theorem dX5_land_83 : decode cX5_land 83 = .ok (.iaload, 1) := by decide +kernel
theorem dX5_land_84 : decode cX5_land 84 = .ok (.iastore, 1) := by decide +kernel
theorem dX5_land_85 : decode cX5_land 85 = .ok (.iinc 1 1, 3) := by decide +kernel
theorem dX5_land_88 : decode cX5_land 88 = .ok (.goto (-21), 3) := by decide +kernel
theorem dX5_land_91 : decode cX5_land 91 = .ok (.aload_n 0, 1) := by decide +kernel
theorem dX5_land_92 : decode cX5_land 92 = .ok (.aload_n 0, 1) := by decide +kernel
theorem dX5_land_93 : decode cX5_land 93 = .ok (.getfield 28, 3) := by decide +kernel
theorem dX5_land_96 : decode cX5_land 96 = .ok (.invokestatic 106, 3) := by decide +kernel
theorem dX5_land_99 : decode cX5_land 99 = .ok (.putfield 110, 3) := by decide +kernel
theorem dX5_land_102 : decode cX5_land 102 = .ok (.aload_n 0, 1) := by decide +kernel
theorem dX5_land_103 : decode cX5_land 103 = .ok (.iconst 0, 1) := by decide +kernel
theorem dX5_land_104 : decode cX5_land 104 = .ok (.putfield 113, 3) := by decide +kernel
theorem dX5_land_107 : decode cX5_land 107 = .ok (.aload_n 0, 1) := by decide +kernel
theorem dX5_land_108 : decode cX5_land 108 = .ok (.getfield 37, 3) := by decide +kernel
theorem dX5_land_111 : decode cX5_land 111 = .ok (.iconst 0, 1) := by decide +kernel
theorem dX5_land_112 : decode cX5_land 112 = .ok (.iconst 0, 1) := by decide +kernel
theorem dX5_land_113 : decode cX5_land 113 = .ok (.bastore, 1) := by decide +kernel
theorem dX5_land_114 : decode cX5_land 114 = .ok (.aload_n 0, 1) := by decide +kernel
theorem dX5_land_115 : decode cX5_land 115 = .ok (.getfield 37, 3) := by decide +kernel
theorem dX5_land_118 : decode cX5_land 118 = .ok (.iconst 1, 1) := by decide +kernel
theorem dX5_land_119 : decode cX5_land 119 = .ok (.iconst 0, 1) := by decide +kernel
theorem dX5_land_120 : decode cX5_land 120 = .ok (.bastore, 1) := by decide +kernel
theorem dX5_land_121 : decode cX5_land 121 = .ok (.bipush 10, 2) := by decide +kernel
theorem dX5_land_123 : decode cX5_land 123 = .ok (.aload_n 0, 1) := by decide +kernel
theorem dX5_land_124 : decode cX5_land 124 = .ok (.getfield 66, 3) := by decide +kernel
theorem dX5_land_127 : decode cX5_land 127 = .ok (.imul, 1) := by decide +kernel
theorem dX5_land_128 : decode cX5_land 128 = .ok (.aload_n 0, 1) := by decide +kernel
theorem dX5_land_129 : decode cX5_land 129 = .ok (.getfield 28, 3) := by decide +kernel
theorem dX5_land_132 : decode cX5_land 132 = .ok (.bipush 48, 2) := by decide +kernel
theorem dX5_land_134 : decode cX5_land 134 = .ok (.iaload, 1) := by decide +kernel
theorem dX5_land_135 : decode cX5_land 135 = .ok (.iadd, 1) := by decide +kernel
theorem dX5_land_136 : decode cX5_land 136 = .ok (.ireturn, 1) := by decide +kernel
theorem dX5_add_0 : decode cX5_add 0 = .ok (.bipush 6, 2) := by decide +kernel
theorem dX5_add_2 : decode cX5_add 2 = .ok (.aload_n 0, 1) := by decide +kernel
theorem dX5_add_3 : decode cX5_add 3 = .ok (.bipush 48, 2) := by decide +kernel
theorem dX5_add_5 : decode cX5_add 5 = .ok (.iaload, 1) := by decide +kernel
theorem dX5_add_6 : decode cX5_add 6 = .ok (.imul, 1) := by decide +kernel
theorem dX5_add_7 : decode cX5_add 7 = .ok (.istore 6, 2) := by decide +kernel
theorem dX5_add_9 : decode cX5_add 9 = .ok (.aload_n 0, 1) := by decide +kernel
theorem dX5_add_10 : decode cX5_add 10 = .ok (.iload 6, 2) := by decide +kernel
theorem dX5_add_12 : decode cX5_add 12 = .ok (.iload_n 1, 1) := by decide +kernel
theorem dX5_add_13 : decode cX5_add 13 = .ok (.iastore, 1) := by decide +kernel
theorem dX5_add_14 : decode cX5_add 14 = .ok (.aload_n 0, 1) := by decide +kernel
theorem dX5_add_15 : decode cX5_add 15 = .ok (.iload 6, 2) := by decide +kernel
theorem dX5_add_17 : decode cX5_add 17 = .ok (.iconst 1, 1) := by decide +kernel
theorem dX5_add_18 : decode cX5_add 18 = .ok (.iadd, 1) := by decide +kernel
theorem dX5_add_19 : decode cX5_add 19 = .ok (.iload_n 2, 1) := by decide +kernel
theorem dX5_add_20 : decode cX5_add 20 = .ok (.iastore, 1) := by decide +kernel
theorem dX5_add_21 : decode cX5_add 21 = .ok (.aload_n 0, 1) := by decide +kernel
theorem dX5_add_22 : decode cX5_add 22 = .ok (.iload 6, 2) := by decide +kernel
theorem dX5_add_24 : decode cX5_add 24 = .ok (.iconst 2, 1) := by decide +kernel
theorem dX5_add_25 : decode cX5_add 25 = .ok (.iadd, 1) := by decide +kernel
theorem dX5_add_26 : decode cX5_add 26 = .ok (.iload_n 3, 1) := by decide +kernel
theorem dX5_add_27 : decode cX5_add 27 = .ok (.iastore, 1) := by decide +kernel
theorem dX5_add_28 : decode cX5_add 28 = .ok (.aload_n 0, 1) := by decide +kernel
theorem dX5_add_29 : decode cX5_add 29 = .ok (.iload 6, 2) := by decide +kernel
theorem dX5_add_31 : decode cX5_add 31 = .ok (.iconst 3, 1) := by decide +kernel
theorem dX5_add_32 : decode cX5_add 32 = .ok (.iadd, 1) := by decide +kernel
theorem dX5_add_33 : decode cX5_add 33 = .ok (.iload 4, 2) := by decide +kernel
theorem dX5_add_35 : decode cX5_add 35 = .ok (.iastore, 1) := by decide +kernel
theorem dX5_add_36 : decode cX5_add 36 = .ok (.aload_n 0, 1) := by decide +kernel
theorem dX5_add_37 : decode cX5_add 37 = .ok (.iload 6, 2) := by decide +kernel
theorem dX5_add_39 : decode cX5_add 39 = .ok (.iconst 4, 1) := by decide +kernel
theorem dX5_add_40 : decode cX5_add 40 = .ok (.iadd, 1) := by decide +kernel
theorem dX5_add_41 : decode cX5_add 41 = .ok (.iconst 0, 1) := by decide +kernel
theorem dX5_add_42 : decode cX5_add 42 = .ok (.iastore, 1) := by decide +kernel
theorem dX5_add_43 : decode cX5_add 43 = .ok (.aload_n 0, 1) := by decide +kernel
theorem dX5_add_44 : decode cX5_add 44 = .ok (.iload 6, 2) := by decide +kernel
theorem dX5_add_46 : decode cX5_add 46 = .ok (.iconst 5, 1) := by decide +kernel
theorem dX5_add_47 : decode cX5_add 47 = .ok (.iadd, 1) := by decide +kernel
theorem dX5_add_48 : decode cX5_add 48 = .ok (.iload 5, 2) := by decide +kernel
theorem dX5_add_50 : decode cX5_add 50 = .ok (.iastore, 1) := by decide +kernel
theorem dX5_add_51 : decode cX5_add 51 = .ok (.aload_n 0, 1) := by decide +kernel
theorem dX5_add_52 : decode cX5_add 52 = .ok (.bipush 48, 2) := by decide +kernel
theorem dX5_add_54 : decode cX5_add 54 = .ok (.dup2, 1) := by decide +kernel
theorem dX5_add_55 : decode cX5_add 55 = .ok (.iaload, 1) := by decide +kernel
theorem dX5_add_56 : decode cX5_add 56 = .ok (.iconst 1, 1) := by decide +kernel
theorem dX5_add_57 : decode cX5_add 57 = .ok (.iadd, 1) := by decide +kernel
theorem dX5_add_58 : decode cX5_add 58 = .ok (.iastore, 1) := by decide +kernel
theorem dX5_add_59 : decode cX5_add 59 = .ok (.return_, 1) := by decide +kernel
theorem dX5_lawsOf_0 : decode cX5_lawsOf 0 = .ok (.iconst 0, 1) := by decide +kernel
theorem dX5_lawsOf_1 : decode cX5_lawsOf 1 = .ok (.istore_n 1, 1) := by decide +kernel
theorem dX5_lawsOf_2 : decode cX5_lawsOf 2 = .ok (.iconst 0, 1) := by decide +kernel
theorem dX5_lawsOf_3 : decode cX5_lawsOf 3 = .ok (.istore_n 2, 1) := by decide +kernel
theorem dX5_lawsOf_4 : decode cX5_lawsOf 4 = .ok (.iload_n 2, 1) := by decide +kernel
theorem dX5_lawsOf_5 : decode cX5_lawsOf 5 = .ok (.aload_n 0, 1) := by decide +kernel
theorem dX5_lawsOf_6 : decode cX5_lawsOf 6 = .ok (.bipush 48, 2) := by decide +kernel
theorem dX5_lawsOf_8 : decode cX5_lawsOf 8 = .ok (.iaload, 1) := by decide +kernel
theorem dX5_lawsOf_9 : decode cX5_lawsOf 9 = .ok (.if_icmp .ge 20, 3) := by decide +kernel
theorem dX5_lawsOf_12 : decode cX5_lawsOf 12 = .ok (.iload_n 1, 1) := by decide +kernel
theorem dX5_lawsOf_13 : decode cX5_lawsOf 13 = .ok (.iconst 1, 1) := by decide +kernel
theorem dX5_lawsOf_14 : decode cX5_lawsOf 14 = .ok (.aload_n 0, 1) := by decide +kernel
theorem dX5_lawsOf_15 : decode cX5_lawsOf 15 = .ok (.bipush 6, 2) := by decide +kernel
theorem dX5_lawsOf_17 : decode cX5_lawsOf 17 = .ok (.iload_n 2, 1) := by decide +kernel
theorem dX5_lawsOf_18 : decode cX5_lawsOf 18 = .ok (.imul, 1) := by decide +kernel
theorem dX5_lawsOf_19 : decode cX5_lawsOf 19 = .ok (.iaload, 1) := by decide +kernel
theorem dX5_lawsOf_20 : decode cX5_lawsOf 20 = .ok (.ishl, 1) := by decide +kernel
theorem dX5_lawsOf_21 : decode cX5_lawsOf 21 = .ok (.ior, 1) := by decide +kernel
theorem dX5_lawsOf_22 : decode cX5_lawsOf 22 = .ok (.istore_n 1, 1) := by decide +kernel
theorem dX5_lawsOf_23 : decode cX5_lawsOf 23 = .ok (.iinc 2 1, 3) := by decide +kernel
theorem dX5_lawsOf_26 : decode cX5_lawsOf 26 = .ok (.goto (-22), 3) := by decide +kernel
theorem dX5_lawsOf_29 : decode cX5_lawsOf 29 = .ok (.iload_n 1, 1) := by decide +kernel
theorem dX5_lawsOf_30 : decode cX5_lawsOf 30 = .ok (.ireturn, 1) := by decide +kernel
theorem dX5_about_0 : decode cX5_about 0 = .ok (.aload_n 0, 1) := by decide +kernel
theorem dX5_about_1 : decode cX5_about 1 = .ok (.iconst 0, 1) := by decide +kernel
theorem dX5_about_2 : decode cX5_about 2 = .ok (.putfield 62, 3) := by decide +kernel
theorem dX5_about_5 : decode cX5_about 5 = .ok (.iload_n 1, 1) := by decide +kernel
theorem dX5_about_6 : decode cX5_about 6 = .ok (.tableswitch 110 0 8 #[50, 55, 63, 71, 79, 87, 92, 100, 105], 50) := by decide +kernel
theorem dX5_about_56 : decode cX5_about 56 = .ok (.aload_n 0, 1) := by decide +kernel
theorem dX5_about_57 : decode cX5_about 57 = .ok (.getfield 66, 3) := by decide +kernel
theorem dX5_about_60 : decode cX5_about 60 = .ok (.ireturn, 1) := by decide +kernel
theorem dX5_about_61 : decode cX5_about 61 = .ok (.aload_n 0, 1) := by decide +kernel
theorem dX5_about_62 : decode cX5_about 62 = .ok (.getfield 28, 3) := by decide +kernel
theorem dX5_about_65 : decode cX5_about 65 = .ok (.bipush 48, 2) := by decide +kernel
theorem dX5_about_67 : decode cX5_about 67 = .ok (.iaload, 1) := by decide +kernel
theorem dX5_about_68 : decode cX5_about 68 = .ok (.ireturn, 1) := by decide +kernel
theorem dX5_about_69 : decode cX5_about 69 = .ok (.aload_n 0, 1) := by decide +kernel
theorem dX5_about_70 : decode cX5_about 70 = .ok (.getfield 28, 3) := by decide +kernel
theorem dX5_about_73 : decode cX5_about 73 = .ok (.bipush 50, 2) := by decide +kernel
theorem dX5_about_75 : decode cX5_about 75 = .ok (.iaload, 1) := by decide +kernel
theorem dX5_about_76 : decode cX5_about 76 = .ok (.ireturn, 1) := by decide +kernel
theorem dX5_about_77 : decode cX5_about 77 = .ok (.aload_n 0, 1) := by decide +kernel
theorem dX5_about_78 : decode cX5_about 78 = .ok (.getfield 28, 3) := by decide +kernel
theorem dX5_about_81 : decode cX5_about 81 = .ok (.bipush 51, 2) := by decide +kernel
theorem dX5_about_83 : decode cX5_about 83 = .ok (.iaload, 1) := by decide +kernel
theorem dX5_about_84 : decode cX5_about 84 = .ok (.ireturn, 1) := by decide +kernel
theorem dX5_about_85 : decode cX5_about 85 = .ok (.aload_n 0, 1) := by decide +kernel
theorem dX5_about_86 : decode cX5_about 86 = .ok (.getfield 28, 3) := by decide +kernel
theorem dX5_about_89 : decode cX5_about 89 = .ok (.bipush 49, 2) := by decide +kernel
theorem dX5_about_91 : decode cX5_about 91 = .ok (.iaload, 1) := by decide +kernel
theorem dX5_about_92 : decode cX5_about 92 = .ok (.ireturn, 1) := by decide +kernel
theorem dX5_about_93 : decode cX5_about 93 = .ok (.aload_n 0, 1) := by decide +kernel
theorem dX5_about_94 : decode cX5_about 94 = .ok (.getfield 110, 3) := by decide +kernel
theorem dX5_about_97 : decode cX5_about 97 = .ok (.ireturn, 1) := by decide +kernel
theorem dX5_about_98 : decode cX5_about 98 = .ok (.aload_n 0, 1) := by decide +kernel
theorem dX5_about_99 : decode cX5_about 99 = .ok (.getfield 28, 3) := by decide +kernel
theorem dX5_about_102 : decode cX5_about 102 = .ok (.invokestatic 106, 3) := by decide +kernel
theorem dX5_about_105 : decode cX5_about 105 = .ok (.ireturn, 1) := by decide +kernel
theorem dX5_about_106 : decode cX5_about 106 = .ok (.aload_n 0, 1) := by decide +kernel
theorem dX5_about_107 : decode cX5_about 107 = .ok (.getfield 113, 3) := by decide +kernel
theorem dX5_about_110 : decode cX5_about 110 = .ok (.ireturn, 1) := by decide +kernel
theorem dX5_about_111 : decode cX5_about 111 = .ok (.aload_n 0, 1) := by decide +kernel
theorem dX5_about_112 : decode cX5_about 112 = .ok (.getfield 75, 3) := by decide +kernel
theorem dX5_about_115 : decode cX5_about 115 = .ok (.ireturn, 1) := by decide +kernel
theorem dX5_about_116 : decode cX5_about 116 = .ok (.bipush (-2), 2) := by decide +kernel
theorem dX5_about_118 : decode cX5_about 118 = .ok (.ireturn, 1) := by decide +kernel
theorem dX5_well_0 : decode cX5_well 0 = .ok (.aload_n 0, 1) := by decide +kernel
theorem dX5_well_1 : decode cX5_well 1 = .ok (.iconst 0, 1) := by decide +kernel
theorem dX5_well_2 : decode cX5_well 2 = .ok (.putfield 62, 3) := by decide +kernel
theorem dX5_well_5 : decode cX5_well 5 = .ok (.aload_n 0, 1) := by decide +kernel
theorem dX5_well_6 : decode cX5_well 6 = .ok (.iload_n 1, 1) := by decide +kernel
theorem dX5_well_7 : decode cX5_well 7 = .ok (.invokevirtual 116, 3) := by decide +kernel
theorem dX5_well_10 : decode cX5_well 10 = .ok (.ifCond .eq 5, 3) := by decide +kernel
theorem dX5_well_13 : decode cX5_well 13 = .ok (.iconst (-1), 1) := by decide +kernel
theorem dX5_well_14 : decode cX5_well 14 = .ok (.ireturn, 1) := by decide +kernel
theorem dX5_well_15 : decode cX5_well 15 = .ok (.iconst 0, 1) := by decide +kernel
theorem dX5_well_16 : decode cX5_well 16 = .ok (.istore_n 3, 1) := by decide +kernel
theorem dX5_well_17 : decode cX5_well 17 = .ok (.iconst 0, 1) := by decide +kernel
theorem dX5_well_18 : decode cX5_well 18 = .ok (.istore 4, 2) := by decide +kernel
theorem dX5_well_20 : decode cX5_well 20 = .ok (.iload 4, 2) := by decide +kernel
theorem dX5_well_22 : decode cX5_well 22 = .ok (.aload_n 0, 1) := by decide +kernel
theorem dX5_well_23 : decode cX5_well 23 = .ok (.getfield 28, 3) := by decide +kernel
theorem dX5_well_26 : decode cX5_well 26 = .ok (.bipush 48, 2) := by decide +kernel
theorem dX5_well_28 : decode cX5_well 28 = .ok (.iaload, 1) := by decide +kernel
theorem dX5_well_29 : decode cX5_well 29 = .ok (.if_icmp .ge 36, 3) := by decide +kernel
theorem dX5_well_32 : decode cX5_well 32 = .ok (.iload_n 3, 1) := by decide +kernel
theorem dX5_well_33 : decode cX5_well 33 = .ok (.aload_n 0, 1) := by decide +kernel
theorem dX5_well_34 : decode cX5_well 34 = .ok (.getfield 28, 3) := by decide +kernel
theorem dX5_well_37 : decode cX5_well 37 = .ok (.bipush 6, 2) := by decide +kernel
theorem dX5_well_39 : decode cX5_well 39 = .ok (.iload 4, 2) := by decide +kernel
theorem dX5_well_41 : decode cX5_well 41 = .ok (.imul, 1) := by decide +kernel
theorem dX5_well_42 : decode cX5_well 42 = .ok (.iconst 1, 1) := by decide +kernel
theorem dX5_well_43 : decode cX5_well 43 = .ok (.iadd, 1) := by decide +kernel
theorem dX5_well_44 : decode cX5_well 44 = .ok (.iaload, 1) := by decide +kernel
theorem dX5_well_45 : decode cX5_well 45 = .ok (.iload_n 1, 1) := by decide +kernel
theorem dX5_well_46 : decode cX5_well 46 = .ok (.if_icmp .ne 10, 3) := by decide +kernel
theorem dX5_well_49 : decode cX5_well 49 = .ok (.iconst 1, 1) := by decide +kernel
theorem dX5_well_50 : decode cX5_well 50 = .ok (.iload 4, 2) := by decide +kernel
theorem dX5_well_52 : decode cX5_well 52 = .ok (.ishl, 1) := by decide +kernel
theorem dX5_well_53 : decode cX5_well 53 = .ok (.goto 4, 3) := by decide +kernel
theorem dX5_well_56 : decode cX5_well 56 = .ok (.iconst 0, 1) := by decide +kernel
theorem dX5_well_57 : decode cX5_well 57 = .ok (.ior, 1) := by decide +kernel
theorem dX5_well_58 : decode cX5_well 58 = .ok (.istore_n 3, 1) := by decide +kernel
theorem dX5_well_59 : decode cX5_well 59 = .ok (.iinc 4 1, 3) := by decide +kernel
theorem dX5_well_62 : decode cX5_well 62 = .ok (.goto (-42), 3) := by decide +kernel
theorem dX5_well_65 : decode cX5_well 65 = .ok (.iload_n 2, 1) := by decide +kernel
theorem dX5_well_66 : decode cX5_well 66 = .ok (.ifCond .ne 12, 3) := by decide +kernel
theorem dX5_well_69 : decode cX5_well 69 = .ok (.aload_n 0, 1) := by decide +kernel
theorem dX5_well_70 : decode cX5_well 70 = .ok (.getfield 13, 3) := by decide +kernel
theorem dX5_well_73 : decode cX5_well 73 = .ok (.iload_n 1, 1) := by decide +kernel
theorem dX5_well_74 : decode cX5_well 74 = .ok (.iaload, 1) := by decide +kernel
theorem dX5_well_75 : decode cX5_well 75 = .ok (.goto 47, 3) := by decide +kernel
theorem dX5_well_78 : decode cX5_well 78 = .ok (.iload_n 2, 1) := by decide +kernel
theorem dX5_well_79 : decode cX5_well 79 = .ok (.iconst 1, 1) := by decide +kernel
theorem dX5_well_80 : decode cX5_well 80 = .ok (.if_icmp .ne 12, 3) := by decide +kernel
theorem dX5_well_83 : decode cX5_well 83 = .ok (.aload_n 0, 1) := by decide +kernel
theorem dX5_well_84 : decode cX5_well 84 = .ok (.getfield 16, 3) := by decide +kernel
theorem dX5_well_87 : decode cX5_well 87 = .ok (.iload_n 1, 1) := by decide +kernel
theorem dX5_well_88 : decode cX5_well 88 = .ok (.iaload, 1) := by decide +kernel
theorem dX5_well_89 : decode cX5_well 89 = .ok (.goto 33, 3) := by decide +kernel
theorem dX5_well_92 : decode cX5_well 92 = .ok (.iload_n 2, 1) := by decide +kernel
theorem dX5_well_93 : decode cX5_well 93 = .ok (.iconst 2, 1) := by decide +kernel
theorem dX5_well_94 : decode cX5_well 94 = .ok (.if_icmp .ne 17, 3) := by decide +kernel
theorem dX5_well_97 : decode cX5_well 97 = .ok (.aload_n 0, 1) := by decide +kernel
theorem dX5_well_98 : decode cX5_well 98 = .ok (.getfield 28, 3) := by decide +kernel
theorem dX5_well_101 : decode cX5_well 101 = .ok (.bipush 49, 2) := by decide +kernel
theorem dX5_well_103 : decode cX5_well 103 = .ok (.iaload, 1) := by decide +kernel
theorem dX5_well_104 : decode cX5_well 104 = .ok (.iload_n 1, 1) := by decide +kernel
theorem dX5_well_105 : decode cX5_well 105 = .ok (.ishr, 1) := by decide +kernel
theorem dX5_well_106 : decode cX5_well 106 = .ok (.iconst 1, 1) := by decide +kernel
theorem dX5_well_107 : decode cX5_well 107 = .ok (.iand, 1) := by decide +kernel
theorem dX5_well_108 : decode cX5_well 108 = .ok (.goto 14, 3) := by decide +kernel
theorem dX5_well_111 : decode cX5_well 111 = .ok (.iload_n 2, 1) := by decide +kernel
theorem dX5_well_112 : decode cX5_well 112 = .ok (.iconst 3, 1) := by decide +kernel
theorem dX5_well_113 : decode cX5_well 113 = .ok (.if_icmp .ne 7, 3) := by decide +kernel
theorem dX5_well_116 : decode cX5_well 116 = .ok (.iload_n 3, 1) := by decide +kernel
theorem dX5_well_117 : decode cX5_well 117 = .ok (.goto 5, 3) := by decide +kernel
theorem dX5_well_120 : decode cX5_well 120 = .ok (.bipush (-2), 2) := by decide +kernel
theorem dX5_well_122 : decode cX5_well 122 = .ok (.ireturn, 1) := by decide +kernel
theorem dX5_song_0 : decode cX5_song 0 = .ok (.aload_n 0, 1) := by decide +kernel
theorem dX5_song_1 : decode cX5_song 1 = .ok (.iconst 0, 1) := by decide +kernel
theorem dX5_song_2 : decode cX5_song 2 = .ok (.putfield 62, 3) := by decide +kernel
theorem dX5_song_5 : decode cX5_song 5 = .ok (.aload_n 0, 1) := by decide +kernel
theorem dX5_song_6 : decode cX5_song 6 = .ok (.iload_n 1, 1) := by decide +kernel
theorem dX5_song_7 : decode cX5_song 7 = .ok (.invokevirtual 120, 3) := by decide +kernel
theorem dX5_song_10 : decode cX5_song 10 = .ok (.ifCond .eq 5, 3) := by decide +kernel
theorem dX5_song_13 : decode cX5_song 13 = .ok (.iconst (-1), 1) := by decide +kernel
theorem dX5_song_14 : decode cX5_song 14 = .ok (.ireturn, 1) := by decide +kernel
theorem dX5_song_15 : decode cX5_song 15 = .ok (.iload_n 2, 1) := by decide +kernel
theorem dX5_song_16 : decode cX5_song 16 = .ok (.i2l, 1) := by decide +kernel
theorem dX5_song_17 : decode cX5_song 17 = .ok (.lconst 0, 1) := by decide +kernel
theorem dX5_song_18 : decode cX5_song 18 = .ok (.ldc2_w 123, 3) := by decide +kernel
theorem dX5_song_21 : decode cX5_song 21 = .ok (.invokestatic 69, 3) := by decide +kernel
theorem dX5_song_24 : decode cX5_song 24 = .ok (.ifCond .eq 17, 3) := by decide +kernel
theorem dX5_song_27 : decode cX5_song 27 = .ok (.aload_n 0, 1) := by decide +kernel
theorem dX5_song_28 : decode cX5_song 28 = .ok (.getfield 28, 3) := by decide +kernel
theorem dX5_song_31 : decode cX5_song 31 = .ok (.bipush 6, 2) := by decide +kernel
theorem dX5_song_33 : decode cX5_song 33 = .ok (.iload_n 1, 1) := by decide +kernel
theorem dX5_song_34 : decode cX5_song 34 = .ok (.imul, 1) := by decide +kernel
theorem dX5_song_35 : decode cX5_song 35 = .ok (.iload_n 2, 1) := by decide +kernel
theorem dX5_song_36 : decode cX5_song 36 = .ok (.iadd, 1) := by decide +kernel
theorem dX5_song_37 : decode cX5_song 37 = .ok (.iaload, 1) := by decide +kernel
theorem dX5_song_38 : decode cX5_song 38 = .ok (.goto 5, 3) := by decide +kernel
theorem dX5_song_41 : decode cX5_song 41 = .ok (.bipush (-2), 2) := by decide +kernel
theorem dX5_song_43 : decode cX5_song 43 = .ok (.ireturn, 1) := by decide +kernel
theorem dX5_note_0 : decode cX5_note 0 = .ok (.aload_n 0, 1) := by decide +kernel
theorem dX5_note_1 : decode cX5_note 1 = .ok (.getfield 113, 3) := by decide +kernel
theorem dX5_note_4 : decode cX5_note 4 = .ok (.bipush 12, 2) := by decide +kernel
theorem dX5_note_6 : decode cX5_note 6 = .ok (.if_icmp .ne 43, 3) := by decide +kernel
theorem dX5_note_9 : decode cX5_note 9 = .ok (.iconst 0, 1) := by decide +kernel
theorem dX5_note_10 : decode cX5_note 10 = .ok (.istore_n 1, 1) := by decide +kernel
theorem dX5_note_11 : decode cX5_note 11 = .ok (.iload_n 1, 1) := by decide +kernel
theorem dX5_note_12 : decode cX5_note 12 = .ok (.sipush 572, 3) := by decide +kernel
theorem dX5_note_15 : decode cX5_note 15 = .ok (.if_icmp .ge 24, 3) := by decide +kernel
theorem dX5_note_18 : decode cX5_note 18 = .ok (.aload_n 0, 1) := by decide +kernel
theorem dX5_note_19 : decode cX5_note 19 = .ok (.getfield 31, 3) := by decide +kernel
theorem dX5_note_22 : decode cX5_note 22 = .ok (.iload_n 1, 1) := by decide +kernel
theorem dX5_note_23 : decode cX5_note 23 = .ok (.aload_n 0, 1) := by decide +kernel
theorem dX5_note_24 : decode cX5_note 24 = .ok (.getfield 31, 3) := by decide +kernel
theorem dX5_note_27 : decode cX5_note 27 = .ok (.iload_n 1, 1) := by decide +kernel
theorem dX5_note_28 : decode cX5_note 28 = .ok (.bipush 52, 2) := by decide +kernel
theorem dX5_note_30 : decode cX5_note 30 = .ok (.iadd, 1) := by decide +kernel
theorem dX5_note_31 : decode cX5_note 31 = .ok (.iaload, 1) := by decide +kernel
theorem dX5_note_32 : decode cX5_note 32 = .ok (.iastore, 1) := by decide +kernel
theorem dX5_note_33 : decode cX5_note 33 = .ok (.iinc 1 1, 3) := by decide +kernel
theorem dX5_note_36 : decode cX5_note 36 = .ok (.goto (-25), 3) := by decide +kernel
theorem dX5_note_39 : decode cX5_note 39 = .ok (.aload_n 0, 1) := by decide +kernel
theorem dX5_note_40 : decode cX5_note 40 = .ok (.dup, 1) := by decide +kernel
theorem dX5_note_41 : decode cX5_note 41 = .ok (.getfield 113, 3) := by decide +kernel
theorem dX5_note_44 : decode cX5_note 44 = .ok (.iconst 1, 1) := by decide +kernel
theorem dX5_note_45 : decode cX5_note 45 = .ok (.isub, 1) := by decide +kernel
theorem dX5_note_46 : decode cX5_note 46 = .ok (.putfield 113, 3) := by decide +kernel
theorem dX5_note_49 : decode cX5_note 49 = .ok (.iconst 0, 1) := by decide +kernel
theorem dX5_note_50 : decode cX5_note 50 = .ok (.istore_n 1, 1) := by decide +kernel
theorem dX5_note_51 : decode cX5_note 51 = .ok (.iload_n 1, 1) := by decide +kernel
theorem dX5_note_52 : decode cX5_note 52 = .ok (.bipush 52, 2) := by decide +kernel
theorem dX5_note_54 : decode cX5_note 54 = .ok (.if_icmp .ge 29, 3) := by decide +kernel
theorem dX5_note_57 : decode cX5_note 57 = .ok (.aload_n 0, 1) := by decide +kernel
theorem dX5_note_58 : decode cX5_note 58 = .ok (.getfield 31, 3) := by decide +kernel
theorem dX5_note_61 : decode cX5_note 61 = .ok (.bipush 52, 2) := by decide +kernel
theorem dX5_note_63 : decode cX5_note 63 = .ok (.aload_n 0, 1) := by decide +kernel
theorem dX5_note_64 : decode cX5_note 64 = .ok (.getfield 113, 3) := by decide +kernel
theorem dX5_note_67 : decode cX5_note 67 = .ok (.imul, 1) := by decide +kernel
theorem dX5_note_68 : decode cX5_note 68 = .ok (.iload_n 1, 1) := by decide +kernel
theorem dX5_note_69 : decode cX5_note 69 = .ok (.iadd, 1) := by decide +kernel
theorem dX5_note_70 : decode cX5_note 70 = .ok (.aload_n 0, 1) := by decide +kernel
theorem dX5_note_71 : decode cX5_note 71 = .ok (.getfield 28, 3) := by decide +kernel
theorem dX5_note_74 : decode cX5_note 74 = .ok (.iload_n 1, 1) := by decide +kernel
theorem dX5_note_75 : decode cX5_note 75 = .ok (.iaload, 1) := by decide +kernel
theorem dX5_note_76 : decode cX5_note 76 = .ok (.iastore, 1) := by decide +kernel
theorem dX5_note_77 : decode cX5_note 77 = .ok (.iinc 1 1, 3) := by decide +kernel
theorem dX5_note_80 : decode cX5_note 80 = .ok (.goto (-29), 3) := by decide +kernel
theorem dX5_note_83 : decode cX5_note 83 = .ok (.aload_n 0, 1) := by decide +kernel
theorem dX5_note_84 : decode cX5_note 84 = .ok (.dup, 1) := by decide +kernel
theorem dX5_note_85 : decode cX5_note 85 = .ok (.getfield 113, 3) := by decide +kernel
theorem dX5_note_88 : decode cX5_note 88 = .ok (.iconst 1, 1) := by decide +kernel
theorem dX5_note_89 : decode cX5_note 89 = .ok (.iadd, 1) := by decide +kernel
theorem dX5_note_90 : decode cX5_note 90 = .ok (.putfield 113, 3) := by decide +kernel
theorem dX5_note_93 : decode cX5_note 93 = .ok (.return_, 1) := by decide +kernel
theorem dX5_copy_0 : decode cX5_copy 0 = .ok (.iconst 0, 1) := by decide +kernel
theorem dX5_copy_1 : decode cX5_copy 1 = .ok (.istore_n 2, 1) := by decide +kernel
theorem dX5_copy_2 : decode cX5_copy 2 = .ok (.iload_n 2, 1) := by decide +kernel
theorem dX5_copy_3 : decode cX5_copy 3 = .ok (.bipush 52, 2) := by decide +kernel
theorem dX5_copy_5 : decode cX5_copy 5 = .ok (.if_icmp .ge 15, 3) := by decide +kernel
theorem dX5_copy_8 : decode cX5_copy 8 = .ok (.aload_n 1, 1) := by decide +kernel
theorem dX5_copy_9 : decode cX5_copy 9 = .ok (.iload_n 2, 1) := by decide +kernel
theorem dX5_copy_10 : decode cX5_copy 10 = .ok (.aload_n 0, 1) := by decide +kernel
theorem dX5_copy_11 : decode cX5_copy 11 = .ok (.iload_n 2, 1) := by decide +kernel
theorem dX5_copy_12 : decode cX5_copy 12 = .ok (.iaload, 1) := by decide +kernel
theorem dX5_copy_13 : decode cX5_copy 13 = .ok (.iastore, 1) := by decide +kernel
theorem dX5_copy_14 : decode cX5_copy 14 = .ok (.iinc 2 1, 3) := by decide +kernel
theorem dX5_copy_17 : decode cX5_copy 17 = .ok (.goto (-15), 3) := by decide +kernel
theorem dX5_copy_20 : decode cX5_copy 20 = .ok (.return_, 1) := by decide +kernel
theorem dX5_wear_0 : decode cX5_wear 0 = .ok (.aload_n 1, 1) := by decide +kernel
theorem dX5_wear_1 : decode cX5_wear 1 = .ok (.bipush 48, 2) := by decide +kernel
theorem dX5_wear_3 : decode cX5_wear 3 = .ok (.iaload, 1) := by decide +kernel
theorem dX5_wear_4 : decode cX5_wear 4 = .ok (.istore 4, 2) := by decide +kernel
theorem dX5_wear_6 : decode cX5_wear 6 = .ok (.bipush (-9), 2) := by decide +kernel
theorem dX5_wear_8 : decode cX5_wear 8 = .ok (.istore 5, 2) := by decide +kernel
theorem dX5_wear_10 : decode cX5_wear 10 = .ok (.aload_n 1, 1) := by decide +kernel
theorem dX5_wear_11 : decode cX5_wear 11 = .ok (.bipush 48, 2) := by decide +kernel
theorem dX5_wear_13 : decode cX5_wear 13 = .ok (.iconst 0, 1) := by decide +kernel
theorem dX5_wear_14 : decode cX5_wear 14 = .ok (.iastore, 1) := by decide +kernel
theorem dX5_wear_15 : decode cX5_wear 15 = .ok (.iconst 0, 1) := by decide +kernel
theorem dX5_wear_16 : decode cX5_wear 16 = .ok (.istore 6, 2) := by decide +kernel
theorem dX5_wear_18 : decode cX5_wear 18 = .ok (.iload 6, 2) := by decide +kernel
theorem dX5_wear_20 : decode cX5_wear 20 = .ok (.iload 4, 2) := by decide +kernel
theorem dX5_wear_22 : decode cX5_wear 22 = .ok (.if_icmp .ge 129, 3) := by decide +kernel
theorem dX5_wear_25 : decode cX5_wear 25 = .ok (.aload_n 1, 1) := by decide +kernel
theorem dX5_wear_26 : decode cX5_wear 26 = .ok (.bipush 6, 2) := by decide +kernel
theorem dX5_wear_28 : decode cX5_wear 28 = .ok (.iload 6, 2) := by decide +kernel
theorem dX5_wear_30 : decode cX5_wear 30 = .ok (.imul, 1) := by decide +kernel
theorem dX5_wear_31 : decode cX5_wear 31 = .ok (.iconst 2, 1) := by decide +kernel
theorem dX5_wear_32 : decode cX5_wear 32 = .ok (.iadd, 1) := by decide +kernel
theorem dX5_wear_33 : decode cX5_wear 33 = .ok (.iaload, 1) := by decide +kernel
theorem dX5_wear_34 : decode cX5_wear 34 = .ok (.aload_n 0, 1) := by decide +kernel
theorem dX5_wear_35 : decode cX5_wear 35 = .ok (.getfield 50, 3) := by decide +kernel
theorem dX5_wear_38 : decode cX5_wear 38 = .ok (.iload 6, 2) := by decide +kernel
theorem dX5_wear_40 : decode cX5_wear 40 = .ok (.iaload, 1) := by decide +kernel
theorem dX5_wear_41 : decode cX5_wear 41 = .ok (.if_icmp .le 104, 3) := by decide +kernel
theorem dX5_wear_44 : decode cX5_wear 44 = .ok (.bipush 6, 2) := by decide +kernel
theorem dX5_wear_46 : decode cX5_wear 46 = .ok (.aload_n 1, 1) := by decide +kernel
theorem dX5_wear_47 : decode cX5_wear 47 = .ok (.bipush 48, 2) := by decide +kernel
theorem dX5_wear_49 : decode cX5_wear 49 = .ok (.iaload, 1) := by decide +kernel
theorem dX5_wear_50 : decode cX5_wear 50 = .ok (.imul, 1) := by decide +kernel
theorem dX5_wear_51 : decode cX5_wear 51 = .ok (.istore 7, 2) := by decide +kernel
theorem dX5_wear_53 : decode cX5_wear 53 = .ok (.iconst 0, 1) := by decide +kernel
theorem dX5_wear_54 : decode cX5_wear 54 = .ok (.istore 8, 2) := by decide +kernel
theorem dX5_wear_56 : decode cX5_wear 56 = .ok (.iload 8, 2) := by decide +kernel
theorem dX5_wear_58 : decode cX5_wear 58 = .ok (.bipush 6, 2) := by decide +kernel
theorem dX5_wear_60 : decode cX5_wear 60 = .ok (.if_icmp .ge 26, 3) := by decide +kernel
theorem dX5_wear_63 : decode cX5_wear 63 = .ok (.aload_n 1, 1) := by decide +kernel
theorem dX5_wear_64 : decode cX5_wear 64 = .ok (.iload 7, 2) := by decide +kernel
theorem dX5_wear_66 : decode cX5_wear 66 = .ok (.iload 8, 2) := by decide +kernel
theorem dX5_wear_68 : decode cX5_wear 68 = .ok (.iadd, 1) := by decide +kernel
theorem dX5_wear_69 : decode cX5_wear 69 = .ok (.aload_n 1, 1) := by decide +kernel
theorem dX5_wear_70 : decode cX5_wear 70 = .ok (.bipush 6, 2) := by decide +kernel
theorem dX5_wear_72 : decode cX5_wear 72 = .ok (.iload 6, 2) := by decide +kernel
theorem dX5_wear_74 : decode cX5_wear 74 = .ok (.imul, 1) := by decide +kernel
theorem dX5_wear_75 : decode cX5_wear 75 = .ok (.iload 8, 2) := by decide +kernel
theorem dX5_wear_77 : decode cX5_wear 77 = .ok (.iadd, 1) := by decide +kernel
theorem dX5_wear_78 : decode cX5_wear 78 = .ok (.iaload, 1) := by decide +kernel
theorem dX5_wear_79 : decode cX5_wear 79 = .ok (.iastore, 1) := by decide +kernel
theorem dX5_wear_80 : decode cX5_wear 80 = .ok (.iinc 8 1, 3) := by decide +kernel
theorem dX5_wear_83 : decode cX5_wear 83 = .ok (.goto (-27), 3) := by decide +kernel
theorem dX5_wear_86 : decode cX5_wear 86 = .ok (.aload_n 1, 1) := by decide +kernel
theorem dX5_wear_87 : decode cX5_wear 87 = .ok (.iload 7, 2) := by decide +kernel
theorem dX5_wear_89 : decode cX5_wear 89 = .ok (.iconst 2, 1) := by decide +kernel
theorem dX5_wear_90 : decode cX5_wear 90 = .ok (.iadd, 1) := by decide +kernel
theorem dX5_wear_91 : decode cX5_wear 91 = .ok (.dup2, 1) := by decide +kernel
theorem dX5_wear_92 : decode cX5_wear 92 = .ok (.iaload, 1) := by decide +kernel
theorem dX5_wear_93 : decode cX5_wear 93 = .ok (.aload_n 0, 1) := by decide +kernel
theorem dX5_wear_94 : decode cX5_wear 94 = .ok (.getfield 50, 3) := by decide +kernel
theorem dX5_wear_97 : decode cX5_wear 97 = .ok (.iload 6, 2) := by decide +kernel
theorem dX5_wear_99 : decode cX5_wear 99 = .ok (.iaload, 1) := by decide +kernel
theorem dX5_wear_100 : decode cX5_wear 100 = .ok (.isub, 1) := by decide +kernel
theorem dX5_wear_101 : decode cX5_wear 101 = .ok (.iastore, 1) := by decide +kernel
theorem dX5_wear_102 : decode cX5_wear 102 = .ok (.aload_n 1, 1) := by decide +kernel
theorem dX5_wear_103 : decode cX5_wear 103 = .ok (.iload 7, 2) := by decide +kernel
theorem dX5_wear_105 : decode cX5_wear 105 = .ok (.iconst 4, 1) := by decide +kernel
theorem dX5_wear_106 : decode cX5_wear 106 = .ok (.iadd, 1) := by decide +kernel
theorem dX5_wear_107 : decode cX5_wear 107 = .ok (.dup2, 1) := by decide +kernel
theorem dX5_wear_108 : decode cX5_wear 108 = .ok (.iaload, 1) := by decide +kernel
theorem dX5_wear_109 : decode cX5_wear 109 = .ok (.iload_n 3, 1) := by decide +kernel
theorem dX5_wear_110 : decode cX5_wear 110 = .ok (.ifCond .eq 7, 3) := by decide +kernel
theorem dX5_wear_113 : decode cX5_wear 113 = .ok (.iconst 1, 1) := by decide +kernel
theorem dX5_wear_114 : decode cX5_wear 114 = .ok (.goto 4, 3) := by decide +kernel
theorem dX5_wear_117 : decode cX5_wear 117 = .ok (.iconst 0, 1) := by decide +kernel
theorem dX5_wear_118 : decode cX5_wear 118 = .ok (.iadd, 1) := by decide +kernel
theorem dX5_wear_119 : decode cX5_wear 119 = .ok (.iastore, 1) := by decide +kernel
theorem dX5_wear_120 : decode cX5_wear 120 = .ok (.iload 6, 2) := by decide +kernel
theorem dX5_wear_122 : decode cX5_wear 122 = .ok (.iload_n 2, 1) := by decide +kernel
theorem dX5_wear_123 : decode cX5_wear 123 = .ok (.if_icmp .ne 10, 3) := by decide +kernel
theorem dX5_wear_126 : decode cX5_wear 126 = .ok (.aload_n 1, 1) := by decide +kernel
theorem dX5_wear_127 : decode cX5_wear 127 = .ok (.bipush 48, 2) := by decide +kernel
theorem dX5_wear_129 : decode cX5_wear 129 = .ok (.iaload, 1) := by decide +kernel
theorem dX5_wear_130 : decode cX5_wear 130 = .ok (.goto 5, 3) := by decide +kernel
theorem dX5_wear_133 : decode cX5_wear 133 = .ok (.iload 5, 2) := by decide +kernel
theorem dX5_wear_135 : decode cX5_wear 135 = .ok (.istore 5, 2) := by decide +kernel
theorem dX5_wear_137 : decode cX5_wear 137 = .ok (.aload_n 1, 1) := by decide +kernel
theorem dX5_wear_138 : decode cX5_wear 138 = .ok (.bipush 48, 2) := by decide +kernel
theorem dX5_wear_140 : decode cX5_wear 140 = .ok (.dup2, 1) := by decide +kernel
theorem dX5_wear_141 : decode cX5_wear 141 = .ok (.iaload, 1) := by decide +kernel
theorem dX5_wear_142 : decode cX5_wear 142 = .ok (.iconst 1, 1) := by decide +kernel
theorem dX5_wear_143 : decode cX5_wear 143 = .ok (.iadd, 1) := by decide +kernel
theorem dX5_wear_144 : decode cX5_wear 144 = .ok (.iastore, 1) := by decide +kernel
theorem dX5_wear_145 : decode cX5_wear 145 = .ok (.iinc 6 1, 3) := by decide +kernel
theorem dX5_wear_148 : decode cX5_wear 148 = .ok (.goto (-130), 3) := by decide +kernel
theorem dX5_wear_151 : decode cX5_wear 151 = .ok (.iload 5, 2) := by decide +kernel
theorem dX5_wear_153 : decode cX5_wear 153 = .ok (.ireturn, 1) := by decide +kernel
theorem dX5_aloneLoss_0 : decode cX5_aloneLoss 0 = .ok (.iconst 1, 1) := by decide +kernel
theorem dX5_aloneLoss_1 : decode cX5_aloneLoss 1 = .ok (.aload_n 0, 1) := by decide +kernel
theorem dX5_aloneLoss_2 : decode cX5_aloneLoss 2 = .ok (.getfield 16, 3) := by decide +kernel
theorem dX5_aloneLoss_5 : decode cX5_aloneLoss 5 = .ok (.iload_n 1, 1) := by decide +kernel
theorem dX5_aloneLoss_6 : decode cX5_aloneLoss 6 = .ok (.iaload, 1) := by decide +kernel
theorem dX5_aloneLoss_7 : decode cX5_aloneLoss 7 = .ok (.iadd, 1) := by decide +kernel
theorem dX5_aloneLoss_8 : decode cX5_aloneLoss 8 = .ok (.iload_n 2, 1) := by decide +kernel
theorem dX5_aloneLoss_9 : decode cX5_aloneLoss 9 = .ok (.iload_n 1, 1) := by decide +kernel
theorem dX5_aloneLoss_10 : decode cX5_aloneLoss 10 = .ok (.invokestatic 125, 3) := by decide +kernel
theorem dX5_aloneLoss_13 : decode cX5_aloneLoss 13 = .ok (.ifCond .eq 7, 3) := by decide +kernel
theorem dX5_aloneLoss_16 : decode cX5_aloneLoss 16 = .ok (.iconst 1, 1) := by decide +kernel
theorem dX5_aloneLoss_17 : decode cX5_aloneLoss 17 = .ok (.goto 4, 3) := by decide +kernel
theorem dX5_aloneLoss_20 : decode cX5_aloneLoss 20 = .ok (.iconst 0, 1) := by decide +kernel
theorem dX5_aloneLoss_21 : decode cX5_aloneLoss 21 = .ok (.isub, 1) := by decide +kernel
theorem dX5_aloneLoss_22 : decode cX5_aloneLoss 22 = .ok (.ireturn, 1) := by decide +kernel
theorem dX5_goYear_0 : decode cX5_goYear 0 = .ok (.iconst 0, 1) := by decide +kernel
theorem dX5_goYear_1 : decode cX5_goYear 1 = .ok (.istore_n 3, 1) := by decide +kernel
theorem dX5_goYear_2 : decode cX5_goYear 2 = .ok (.iload_n 3, 1) := by decide +kernel
theorem dX5_goYear_3 : decode cX5_goYear 3 = .ok (.aload_n 1, 1) := by decide +kernel
theorem dX5_goYear_4 : decode cX5_goYear 4 = .ok (.bipush 48, 2) := by decide +kernel
theorem dX5_goYear_6 : decode cX5_goYear 6 = .ok (.iaload, 1) := by decide +kernel
theorem dX5_goYear_7 : decode cX5_goYear 7 = .ok (.if_icmp .ge 109, 3) := by decide +kernel
theorem dX5_goYear_10 : decode cX5_goYear 10 = .ok (.aload_n 0, 1) := by decide +kernel
theorem dX5_goYear_11 : decode cX5_goYear 11 = .ok (.getfield 50, 3) := by decide +kernel
theorem dX5_goYear_14 : decode cX5_goYear 14 = .ok (.iload_n 3, 1) := by decide +kernel
theorem dX5_goYear_15 : decode cX5_goYear 15 = .ok (.aload_n 0, 1) := by decide +kernel
theorem dX5_goYear_16 : decode cX5_goYear 16 = .ok (.aload_n 1, 1) := by decide +kernel
theorem dX5_goYear_17 : decode cX5_goYear 17 = .ok (.bipush 6, 2) := by decide +kernel
theorem dX5_goYear_19 : decode cX5_goYear 19 = .ok (.iload_n 3, 1) := by decide +kernel
theorem dX5_goYear_20 : decode cX5_goYear 20 = .ok (.imul, 1) := by decide +kernel
theorem dX5_goYear_21 : decode cX5_goYear 21 = .ok (.iconst 1, 1) := by decide +kernel
theorem dX5_goYear_22 : decode cX5_goYear 22 = .ok (.iadd, 1) := by decide +kernel
theorem dX5_goYear_23 : decode cX5_goYear 23 = .ok (.iaload, 1) := by decide +kernel
theorem dX5_goYear_24 : decode cX5_goYear 24 = .ok (.aload_n 1, 1) := by decide +kernel
theorem dX5_goYear_25 : decode cX5_goYear 25 = .ok (.bipush 49, 2) := by decide +kernel
theorem dX5_goYear_27 : decode cX5_goYear 27 = .ok (.iaload, 1) := by decide +kernel
theorem dX5_goYear_28 : decode cX5_goYear 28 = .ok (.invokevirtual 129, 3) := by decide +kernel
theorem dX5_goYear_31 : decode cX5_goYear 31 = .ok (.iastore, 1) := by decide +kernel
theorem dX5_goYear_32 : decode cX5_goYear 32 = .ok (.iconst 0, 1) := by decide +kernel
theorem dX5_goYear_33 : decode cX5_goYear 33 = .ok (.istore 4, 2) := by decide +kernel
theorem dX5_goYear_35 : decode cX5_goYear 35 = .ok (.iload 4, 2) := by decide +kernel
theorem dX5_goYear_37 : decode cX5_goYear 37 = .ok (.aload_n 1, 1) := by decide +kernel
theorem dX5_goYear_38 : decode cX5_goYear 38 = .ok (.bipush 48, 2) := by decide +kernel
theorem dX5_goYear_40 : decode cX5_goYear 40 = .ok (.iaload, 1) := by decide +kernel
theorem dX5_goYear_41 : decode cX5_goYear 41 = .ok (.if_icmp .ge 69, 3) := by decide +kernel
theorem dX5_goYear_44 : decode cX5_goYear 44 = .ok (.aload_n 0, 1) := by decide +kernel
theorem dX5_goYear_45 : decode cX5_goYear 45 = .ok (.getfield 50, 3) := by decide +kernel
theorem dX5_goYear_48 : decode cX5_goYear 48 = .ok (.iload_n 3, 1) := by decide +kernel
theorem dX5_goYear_49 : decode cX5_goYear 49 = .ok (.dup2, 1) := by decide +kernel
theorem dX5_goYear_50 : decode cX5_goYear 50 = .ok (.iaload, 1) := by decide +kernel
theorem dX5_goYear_51 : decode cX5_goYear 51 = .ok (.iload 4, 2) := by decide +kernel
theorem dX5_goYear_53 : decode cX5_goYear 53 = .ok (.iload_n 3, 1) := by decide +kernel
theorem dX5_goYear_54 : decode cX5_goYear 54 = .ok (.if_icmp .eq 47, 3) := by decide +kernel
theorem dX5_goYear_57 : decode cX5_goYear 57 = .ok (.aload_n 1, 1) := by decide +kernel
theorem dX5_goYear_58 : decode cX5_goYear 58 = .ok (.bipush 6, 2) := by decide +kernel
theorem dX5_goYear_60 : decode cX5_goYear 60 = .ok (.iload 4, 2) := by decide +kernel
theorem dX5_goYear_62 : decode cX5_goYear 62 = .ok (.imul, 1) := by decide +kernel
theorem dX5_goYear_63 : decode cX5_goYear 63 = .ok (.iconst 1, 1) := by decide +kernel
theorem dX5_goYear_64 : decode cX5_goYear 64 = .ok (.iadd, 1) := by decide +kernel
theorem dX5_goYear_65 : decode cX5_goYear 65 = .ok (.iaload, 1) := by decide +kernel
theorem dX5_goYear_66 : decode cX5_goYear 66 = .ok (.aload_n 1, 1) := by decide +kernel
theorem dX5_goYear_67 : decode cX5_goYear 67 = .ok (.bipush 6, 2) := by decide +kernel
theorem dX5_goYear_69 : decode cX5_goYear 69 = .ok (.iload_n 3, 1) := by decide +kernel
theorem dX5_goYear_70 : decode cX5_goYear 70 = .ok (.imul, 1) := by decide +kernel
theorem dX5_goYear_71 : decode cX5_goYear 71 = .ok (.iconst 1, 1) := by decide +kernel
theorem dX5_goYear_72 : decode cX5_goYear 72 = .ok (.iadd, 1) := by decide +kernel
theorem dX5_goYear_73 : decode cX5_goYear 73 = .ok (.iaload, 1) := by decide +kernel
theorem dX5_goYear_74 : decode cX5_goYear 74 = .ok (.if_icmp .ne 27, 3) := by decide +kernel
theorem dX5_goYear_77 : decode cX5_goYear 77 = .ok (.aload_n 1, 1) := by decide +kernel
theorem dX5_goYear_78 : decode cX5_goYear 78 = .ok (.bipush 6, 2) := by decide +kernel
theorem dX5_goYear_80 : decode cX5_goYear 80 = .ok (.iload 4, 2) := by decide +kernel
theorem dX5_goYear_82 : decode cX5_goYear 82 = .ok (.imul, 1) := by decide +kernel
theorem dX5_goYear_83 : decode cX5_goYear 83 = .ok (.iconst 3, 1) := by decide +kernel
theorem dX5_goYear_84 : decode cX5_goYear 84 = .ok (.iadd, 1) := by decide +kernel
theorem dX5_goYear_85 : decode cX5_goYear 85 = .ok (.iaload, 1) := by decide +kernel
theorem dX5_goYear_86 : decode cX5_goYear 86 = .ok (.aload_n 1, 1) := by decide +kernel
theorem dX5_goYear_87 : decode cX5_goYear 87 = .ok (.bipush 6, 2) := by decide +kernel
theorem dX5_goYear_89 : decode cX5_goYear 89 = .ok (.iload_n 3, 1) := by decide +kernel
theorem dX5_goYear_90 : decode cX5_goYear 90 = .ok (.imul, 1) := by decide +kernel
theorem dX5_goYear_91 : decode cX5_goYear 91 = .ok (.iconst 3, 1) := by decide +kernel
theorem dX5_goYear_92 : decode cX5_goYear 92 = .ok (.iadd, 1) := by decide +kernel
theorem dX5_goYear_93 : decode cX5_goYear 93 = .ok (.iaload, 1) := by decide +kernel
theorem dX5_goYear_94 : decode cX5_goYear 94 = .ok (.if_icmp .ne 7, 3) := by decide +kernel
theorem dX5_goYear_97 : decode cX5_goYear 97 = .ok (.iconst 1, 1) := by decide +kernel
theorem dX5_goYear_98 : decode cX5_goYear 98 = .ok (.goto 4, 3) := by decide +kernel
theorem dX5_goYear_101 : decode cX5_goYear 101 = .ok (.iconst 0, 1) := by decide +kernel
theorem dX5_goYear_102 : decode cX5_goYear 102 = .ok (.iadd, 1) := by decide +kernel
theorem dX5_goYear_103 : decode cX5_goYear 103 = .ok (.iastore, 1) := by decide +kernel
theorem dX5_goYear_104 : decode cX5_goYear 104 = .ok (.iinc 4 1, 3) := by decide +kernel
theorem dX5_goYear_107 : decode cX5_goYear 107 = .ok (.goto (-72), 3) := by decide +kernel
theorem dX5_goYear_110 : decode cX5_goYear 110 = .ok (.iinc 3 1, 3) := by decide +kernel
theorem dX5_goYear_113 : decode cX5_goYear 113 = .ok (.goto (-111), 3) := by decide +kernel
theorem dX5_goYear_116 : decode cX5_goYear 116 = .ok (.aload_n 1, 1) := by decide +kernel
theorem dX5_goYear_117 : decode cX5_goYear 117 = .ok (.bipush 50, 2) := by decide +kernel
theorem dX5_goYear_119 : decode cX5_goYear 119 = .ok (.dup2, 1) := by decide +kernel
theorem dX5_goYear_120 : decode cX5_goYear 120 = .ok (.iaload, 1) := by decide +kernel
theorem dX5_goYear_121 : decode cX5_goYear 121 = .ok (.iconst 1, 1) := by decide +kernel
theorem dX5_goYear_122 : decode cX5_goYear 122 = .ok (.iadd, 1) := by decide +kernel
theorem dX5_goYear_123 : decode cX5_goYear 123 = .ok (.iastore, 1) := by decide +kernel
theorem dX5_goYear_124 : decode cX5_goYear 124 = .ok (.aload_n 0, 1) := by decide +kernel
theorem dX5_goYear_125 : decode cX5_goYear 125 = .ok (.aload_n 1, 1) := by decide +kernel
theorem dX5_goYear_126 : decode cX5_goYear 126 = .ok (.iload_n 2, 1) := by decide +kernel
theorem dX5_goYear_127 : decode cX5_goYear 127 = .ok (.iconst 1, 1) := by decide +kernel
theorem dX5_goYear_128 : decode cX5_goYear 128 = .ok (.invokevirtual 132, 3) := by decide +kernel
theorem dX5_goYear_131 : decode cX5_goYear 131 = .ok (.ireturn, 1) := by decide +kernel
theorem dX5_goYears_0 : decode cX5_goYears 0 = .ok (.iconst 0, 1) := by decide +kernel
theorem dX5_goYears_1 : decode cX5_goYears 1 = .ok (.istore_n 3, 1) := by decide +kernel
theorem dX5_goYears_2 : decode cX5_goYears 2 = .ok (.iload_n 3, 1) := by decide +kernel
theorem dX5_goYears_3 : decode cX5_goYears 3 = .ok (.iload_n 2, 1) := by decide +kernel
theorem dX5_goYears_4 : decode cX5_goYears 4 = .ok (.if_icmp .ge 17, 3) := by decide +kernel
theorem dX5_goYears_7 : decode cX5_goYears 7 = .ok (.aload_n 0, 1) := by decide +kernel
theorem dX5_goYears_8 : decode cX5_goYears 8 = .ok (.aload_n 1, 1) := by decide +kernel
theorem dX5_goYears_9 : decode cX5_goYears 9 = .ok (.bipush (-9), 2) := by decide +kernel
theorem dX5_goYears_11 : decode cX5_goYears 11 = .ok (.invokevirtual 136, 3) := by decide +kernel
theorem dX5_goYears_14 : decode cX5_goYears 14 = .ok (.pop, 1) := by decide +kernel
theorem dX5_goYears_15 : decode cX5_goYears 15 = .ok (.iinc 3 1, 3) := by decide +kernel
theorem dX5_goYears_18 : decode cX5_goYears 18 = .ok (.goto (-16), 3) := by decide +kernel
theorem dX5_goYears_21 : decode cX5_goYears 21 = .ok (.return_, 1) := by decide +kernel
theorem dX5_year_0 : decode cX5_year 0 = .ok (.aload_n 0, 1) := by decide +kernel
theorem dX5_year_1 : decode cX5_year 1 = .ok (.iconst 0, 1) := by decide +kernel
theorem dX5_year_2 : decode cX5_year 2 = .ok (.putfield 62, 3) := by decide +kernel
theorem dX5_year_5 : decode cX5_year 5 = .ok (.aload_n 0, 1) := by decide +kernel
theorem dX5_year_6 : decode cX5_year 6 = .ok (.invokevirtual 140, 3) := by decide +kernel
theorem dX5_year_9 : decode cX5_year 9 = .ok (.aload_n 0, 1) := by decide +kernel
theorem dX5_year_10 : decode cX5_year 10 = .ok (.getfield 28, 3) := by decide +kernel
theorem dX5_year_13 : decode cX5_year 13 = .ok (.bipush 48, 2) := by decide +kernel
theorem dX5_year_15 : decode cX5_year 15 = .ok (.iaload, 1) := by decide +kernel
theorem dX5_year_16 : decode cX5_year 16 = .ok (.istore_n 1, 1) := by decide +kernel
theorem dX5_year_17 : decode cX5_year 17 = .ok (.aload_n 0, 1) := by decide +kernel
theorem dX5_year_18 : decode cX5_year 18 = .ok (.aload_n 0, 1) := by decide +kernel
theorem dX5_year_19 : decode cX5_year 19 = .ok (.getfield 28, 3) := by decide +kernel
theorem dX5_year_22 : decode cX5_year 22 = .ok (.bipush (-9), 2) := by decide +kernel
theorem dX5_year_24 : decode cX5_year 24 = .ok (.invokevirtual 136, 3) := by decide +kernel
theorem dX5_year_27 : decode cX5_year 27 = .ok (.pop, 1) := by decide +kernel
theorem dX5_year_28 : decode cX5_year 28 = .ok (.iload_n 1, 1) := by decide +kernel
theorem dX5_year_29 : decode cX5_year 29 = .ok (.aload_n 0, 1) := by decide +kernel
theorem dX5_year_30 : decode cX5_year 30 = .ok (.getfield 28, 3) := by decide +kernel
theorem dX5_year_33 : decode cX5_year 33 = .ok (.bipush 48, 2) := by decide +kernel
theorem dX5_year_35 : decode cX5_year 35 = .ok (.iaload, 1) := by decide +kernel
theorem dX5_year_36 : decode cX5_year 36 = .ok (.isub, 1) := by decide +kernel
theorem dX5_year_37 : decode cX5_year 37 = .ok (.ireturn, 1) := by decide +kernel
theorem dX5_canSing_0 : decode cX5_canSing 0 = .ok (.aload_n 1, 1) := by decide +kernel
theorem dX5_canSing_1 : decode cX5_canSing 1 = .ok (.bipush 6, 2) := by decide +kernel
theorem dX5_canSing_3 : decode cX5_canSing 3 = .ok (.iload_n 2, 1) := by decide +kernel
theorem dX5_canSing_4 : decode cX5_canSing 4 = .ok (.imul, 1) := by decide +kernel
theorem dX5_canSing_5 : decode cX5_canSing 5 = .ok (.iconst 1, 1) := by decide +kernel
theorem dX5_canSing_6 : decode cX5_canSing 6 = .ok (.iadd, 1) := by decide +kernel
theorem dX5_canSing_7 : decode cX5_canSing 7 = .ok (.iaload, 1) := by decide +kernel
theorem dX5_canSing_8 : decode cX5_canSing 8 = .ok (.istore 4, 2) := by decide +kernel
theorem dX5_canSing_10 : decode cX5_canSing 10 = .ok (.iload_n 3, 1) := by decide +kernel
theorem dX5_canSing_11 : decode cX5_canSing 11 = .ok (.ifCond .ne 10, 3) := by decide +kernel
theorem dX5_canSing_14 : decode cX5_canSing 14 = .ok (.iload 4, 2) := by decide +kernel
theorem dX5_canSing_16 : decode cX5_canSing 16 = .ok (.iconst 1, 1) := by decide +kernel
theorem dX5_canSing_17 : decode cX5_canSing 17 = .ok (.isub, 1) := by decide +kernel
theorem dX5_canSing_18 : decode cX5_canSing 18 = .ok (.goto 7, 3) := by decide +kernel
theorem dX5_canSing_21 : decode cX5_canSing 21 = .ok (.iload 4, 2) := by decide +kernel
theorem dX5_canSing_23 : decode cX5_canSing 23 = .ok (.iconst 1, 1) := by decide +kernel
theorem dX5_canSing_24 : decode cX5_canSing 24 = .ok (.iadd, 1) := by decide +kernel
theorem dX5_canSing_25 : decode cX5_canSing 25 = .ok (.istore 5, 2) := by decide +kernel
theorem dX5_canSing_27 : decode cX5_canSing 27 = .ok (.aload_n 0, 1) := by decide +kernel
theorem dX5_canSing_28 : decode cX5_canSing 28 = .ok (.iload 5, 2) := by decide +kernel
theorem dX5_canSing_30 : decode cX5_canSing 30 = .ok (.invokevirtual 116, 3) := by decide +kernel
theorem dX5_canSing_33 : decode cX5_canSing 33 = .ok (.ifCond .ne 31, 3) := by decide +kernel
theorem dX5_canSing_36 : decode cX5_canSing 36 = .ok (.aload_n 1, 1) := by decide +kernel
theorem dX5_canSing_37 : decode cX5_canSing 37 = .ok (.bipush 49, 2) := by decide +kernel
theorem dX5_canSing_39 : decode cX5_canSing 39 = .ok (.iaload, 1) := by decide +kernel
theorem dX5_canSing_40 : decode cX5_canSing 40 = .ok (.iload 4, 2) := by decide +kernel
theorem dX5_canSing_42 : decode cX5_canSing 42 = .ok (.invokestatic 125, 3) := by decide +kernel
theorem dX5_canSing_45 : decode cX5_canSing 45 = .ok (.ifCond .ne 19, 3) := by decide +kernel
theorem dX5_canSing_48 : decode cX5_canSing 48 = .ok (.aload_n 1, 1) := by decide +kernel
theorem dX5_canSing_49 : decode cX5_canSing 49 = .ok (.bipush 49, 2) := by decide +kernel
theorem dX5_canSing_51 : decode cX5_canSing 51 = .ok (.iaload, 1) := by decide +kernel
theorem dX5_canSing_52 : decode cX5_canSing 52 = .ok (.iload 5, 2) := by decide +kernel
theorem dX5_canSing_54 : decode cX5_canSing 54 = .ok (.invokestatic 125, 3) := by decide +kernel
theorem dX5_canSing_57 : decode cX5_canSing 57 = .ok (.ifCond .ne 7, 3) := by decide +kernel
theorem dX5_canSing_60 : decode cX5_canSing 60 = .ok (.iconst 1, 1) := by decide +kernel
theorem dX5_canSing_61 : decode cX5_canSing 61 = .ok (.goto 4, 3) := by decide +kernel
theorem dX5_canSing_64 : decode cX5_canSing 64 = .ok (.iconst 0, 1) := by decide +kernel
theorem dX5_canSing_65 : decode cX5_canSing 65 = .ok (.ireturn, 1) := by decide +kernel
theorem dX5_goSing_0 : decode cX5_goSing 0 = .ok (.aload_n 1, 1) := by decide +kernel
theorem dX5_goSing_1 : decode cX5_goSing 1 = .ok (.bipush 6, 2) := by decide +kernel
theorem dX5_goSing_3 : decode cX5_goSing 3 = .ok (.iload_n 2, 1) := by decide +kernel
theorem dX5_goSing_4 : decode cX5_goSing 4 = .ok (.imul, 1) := by decide +kernel
theorem dX5_goSing_5 : decode cX5_goSing 5 = .ok (.iconst 1, 1) := by decide +kernel
theorem dX5_goSing_6 : decode cX5_goSing 6 = .ok (.iadd, 1) := by decide +kernel
theorem dX5_goSing_7 : decode cX5_goSing 7 = .ok (.iaload, 1) := by decide +kernel
theorem dX5_goSing_8 : decode cX5_goSing 8 = .ok (.istore 6, 2) := by decide +kernel
theorem dX5_goSing_10 : decode cX5_goSing 10 = .ok (.aload_n 1, 1) := by decide +kernel
theorem dX5_goSing_11 : decode cX5_goSing 11 = .ok (.bipush 6, 2) := by decide +kernel
theorem dX5_goSing_13 : decode cX5_goSing 13 = .ok (.iload_n 2, 1) := by decide +kernel
theorem dX5_goSing_14 : decode cX5_goSing 14 = .ok (.imul, 1) := by decide +kernel
theorem dX5_goSing_15 : decode cX5_goSing 15 = .ok (.iconst 5, 1) := by decide +kernel
theorem dX5_goSing_16 : decode cX5_goSing 16 = .ok (.iadd, 1) := by decide +kernel
theorem dX5_goSing_17 : decode cX5_goSing 17 = .ok (.iaload, 1) := by decide +kernel
theorem dX5_goSing_18 : decode cX5_goSing 18 = .ok (.aload_n 0, 1) := by decide +kernel
theorem dX5_goSing_19 : decode cX5_goSing 19 = .ok (.getfield 16, 3) := by decide +kernel
theorem dX5_goSing_22 : decode cX5_goSing 22 = .ok (.iload 6, 2) := by decide +kernel
theorem dX5_goSing_24 : decode cX5_goSing 24 = .ok (.iaload, 1) := by decide +kernel
theorem dX5_goSing_25 : decode cX5_goSing 25 = .ok (.iconst 2, 1) := by decide +kernel
theorem dX5_goSing_26 : decode cX5_goSing 26 = .ok (.if_icmp .ne 7, 3) := by decide +kernel
theorem dX5_goSing_29 : decode cX5_goSing 29 = .ok (.iconst 1, 1) := by decide +kernel
theorem dX5_goSing_30 : decode cX5_goSing 30 = .ok (.goto 4, 3) := by decide +kernel
theorem dX5_goSing_33 : decode cX5_goSing 33 = .ok (.iconst 0, 1) := by decide +kernel
theorem dX5_goSing_34 : decode cX5_goSing 34 = .ok (.iadd, 1) := by decide +kernel
theorem dX5_goSing_35 : decode cX5_goSing 35 = .ok (.istore 7, 2) := by decide +kernel
theorem dX5_goSing_37 : decode cX5_goSing 37 = .ok (.aload_n 1, 1) := by decide +kernel
theorem dX5_goSing_38 : decode cX5_goSing 38 = .ok (.aload_n 1, 1) := by decide +kernel
theorem dX5_goSing_39 : decode cX5_goSing 39 = .ok (.bipush 6, 2) := by decide +kernel
theorem dX5_goSing_41 : decode cX5_goSing 41 = .ok (.iload_n 2, 1) := by decide +kernel
theorem dX5_goSing_42 : decode cX5_goSing 42 = .ok (.imul, 1) := by decide +kernel
theorem dX5_goSing_43 : decode cX5_goSing 43 = .ok (.iaload, 1) := by decide +kernel
theorem dX5_goSing_44 : decode cX5_goSing 44 = .ok (.iload_n 3, 1) := by decide +kernel
theorem dX5_goSing_45 : decode cX5_goSing 45 = .ok (.ifCond .ne 10, 3) := by decide +kernel
theorem dX5_goSing_48 : decode cX5_goSing 48 = .ok (.iload 6, 2) := by decide +kernel
theorem dX5_goSing_50 : decode cX5_goSing 50 = .ok (.iconst 1, 1) := by decide +kernel
theorem dX5_goSing_51 : decode cX5_goSing 51 = .ok (.isub, 1) := by decide +kernel
theorem dX5_goSing_52 : decode cX5_goSing 52 = .ok (.goto 7, 3) := by decide +kernel
theorem dX5_goSing_55 : decode cX5_goSing 55 = .ok (.iload 6, 2) := by decide +kernel
theorem dX5_goSing_57 : decode cX5_goSing 57 = .ok (.iconst 1, 1) := by decide +kernel
theorem dX5_goSing_58 : decode cX5_goSing 58 = .ok (.iadd, 1) := by decide +kernel
theorem dX5_goSing_59 : decode cX5_goSing 59 = .ok (.iload 4, 2) := by decide +kernel
theorem dX5_goSing_61 : decode cX5_goSing 61 = .ok (.iload 5, 2) := by decide +kernel
theorem dX5_goSing_63 : decode cX5_goSing 63 = .ok (.iload 7, 2) := by decide +kernel
theorem dX5_goSing_65 : decode cX5_goSing 65 = .ok (.bipush 9, 2) := by decide +kernel
theorem dX5_goSing_67 : decode cX5_goSing 67 = .ok (.if_icmp .le 8, 3) := by decide +kernel
theorem dX5_goSing_70 : decode cX5_goSing 70 = .ok (.bipush 9, 2) := by decide +kernel
theorem dX5_goSing_72 : decode cX5_goSing 72 = .ok (.goto 5, 3) := by decide +kernel
theorem dX5_goSing_75 : decode cX5_goSing 75 = .ok (.iload 7, 2) := by decide +kernel
theorem dX5_goSing_77 : decode cX5_goSing 77 = .ok (.invokestatic 88, 3) := by decide +kernel
theorem dX5_goSing_80 : decode cX5_goSing 80 = .ok (.aload_n 1, 1) := by decide +kernel
theorem dX5_goSing_81 : decode cX5_goSing 81 = .ok (.bipush 51, 2) := by decide +kernel
theorem dX5_goSing_83 : decode cX5_goSing 83 = .ok (.dup2, 1) := by decide +kernel
theorem dX5_goSing_84 : decode cX5_goSing 84 = .ok (.iaload, 1) := by decide +kernel
theorem dX5_goSing_85 : decode cX5_goSing 85 = .ok (.iload 4, 2) := by decide +kernel
theorem dX5_goSing_87 : decode cX5_goSing 87 = .ok (.iadd, 1) := by decide +kernel
theorem dX5_goSing_88 : decode cX5_goSing 88 = .ok (.iastore, 1) := by decide +kernel
theorem dX5_goSing_89 : decode cX5_goSing 89 = .ok (.return_, 1) := by decide +kernel
theorem dX5_sing_0 : decode cX5_sing 0 = .ok (.aload_n 0, 1) := by decide +kernel
theorem dX5_sing_1 : decode cX5_sing 1 = .ok (.iconst 0, 1) := by decide +kernel
theorem dX5_sing_2 : decode cX5_sing 2 = .ok (.putfield 62, 3) := by decide +kernel
theorem dX5_sing_5 : decode cX5_sing 5 = .ok (.aload_n 0, 1) := by decide +kernel
theorem dX5_sing_6 : decode cX5_sing 6 = .ok (.iload_n 1, 1) := by decide +kernel
theorem dX5_sing_7 : decode cX5_sing 7 = .ok (.invokevirtual 120, 3) := by decide +kernel
theorem dX5_sing_10 : decode cX5_sing 10 = .ok (.ifCond .eq 5, 3) := by decide +kernel
theorem dX5_sing_13 : decode cX5_sing 13 = .ok (.iconst (-1), 1) := by decide +kernel
theorem dX5_sing_14 : decode cX5_sing 14 = .ok (.ireturn, 1) := by decide +kernel
theorem dX5_sing_15 : decode cX5_sing 15 = .ok (.iload_n 2, 1) := by decide +kernel
theorem dX5_sing_16 : decode cX5_sing 16 = .ok (.i2l, 1) := by decide +kernel
theorem dX5_sing_17 : decode cX5_sing 17 = .ok (.lconst 0, 1) := by decide +kernel
theorem dX5_sing_18 : decode cX5_sing 18 = .ok (.lconst 1, 1) := by decide +kernel
theorem dX5_sing_19 : decode cX5_sing 19 = .ok (.invokestatic 69, 3) := by decide +kernel
theorem dX5_sing_22 : decode cX5_sing 22 = .ok (.ifCond .eq 28, 3) := by decide +kernel
theorem dX5_sing_25 : decode cX5_sing 25 = .ok (.iload_n 3, 1) := by decide +kernel
theorem dX5_sing_26 : decode cX5_sing 26 = .ok (.i2l, 1) := by decide +kernel
theorem dX5_sing_27 : decode cX5_sing 27 = .ok (.lconst 1, 1) := by decide +kernel
theorem dX5_sing_28 : decode cX5_sing 28 = .ok (.ldc2_w 143, 3) := by decide +kernel
theorem dX5_sing_31 : decode cX5_sing 31 = .ok (.invokestatic 69, 3) := by decide +kernel
theorem dX5_sing_34 : decode cX5_sing 34 = .ok (.ifCond .eq 16, 3) := by decide +kernel
theorem dX5_sing_37 : decode cX5_sing 37 = .ok (.iload 4, 2) := by decide +kernel
theorem dX5_sing_39 : decode cX5_sing 39 = .ok (.i2l, 1) := by decide +kernel
theorem dX5_sing_40 : decode cX5_sing 40 = .ok (.lconst 0, 1) := by decide +kernel
theorem dX5_sing_41 : decode cX5_sing 41 = .ok (.ldc2_w 145, 3) := by decide +kernel
theorem dX5_sing_44 : decode cX5_sing 44 = .ok (.invokestatic 69, 3) := by decide +kernel
theorem dX5_sing_47 : decode cX5_sing 47 = .ok (.ifCond .ne 6, 3) := by decide +kernel
theorem dX5_sing_50 : decode cX5_sing 50 = .ok (.bipush (-2), 2) := by decide +kernel
theorem dX5_sing_52 : decode cX5_sing 52 = .ok (.ireturn, 1) := by decide +kernel
theorem dX5_sing_53 : decode cX5_sing 53 = .ok (.aload_n 0, 1) := by decide +kernel
theorem dX5_sing_54 : decode cX5_sing 54 = .ok (.aload_n 0, 1) := by decide +kernel
theorem dX5_sing_55 : decode cX5_sing 55 = .ok (.getfield 28, 3) := by decide +kernel
theorem dX5_sing_58 : decode cX5_sing 58 = .ok (.iload_n 1, 1) := by decide +kernel
theorem dX5_sing_59 : decode cX5_sing 59 = .ok (.iload_n 2, 1) := by decide +kernel
theorem dX5_sing_60 : decode cX5_sing 60 = .ok (.invokevirtual 147, 3) := by decide +kernel
theorem dX5_sing_63 : decode cX5_sing 63 = .ok (.ifCond .ne 6, 3) := by decide +kernel
theorem dX5_sing_66 : decode cX5_sing 66 = .ok (.bipush (-3), 2) := by decide +kernel
theorem dX5_sing_68 : decode cX5_sing 68 = .ok (.ireturn, 1) := by decide +kernel
theorem dX5_sing_69 : decode cX5_sing 69 = .ok (.aload_n 0, 1) := by decide +kernel
theorem dX5_sing_70 : decode cX5_sing 70 = .ok (.getfield 28, 3) := by decide +kernel
theorem dX5_sing_73 : decode cX5_sing 73 = .ok (.bipush 48, 2) := by decide +kernel
theorem dX5_sing_75 : decode cX5_sing 75 = .ok (.iaload, 1) := by decide +kernel
theorem dX5_sing_76 : decode cX5_sing 76 = .ok (.bipush 8, 2) := by decide +kernel
theorem dX5_sing_78 : decode cX5_sing 78 = .ok (.if_icmp .ne 6, 3) := by decide +kernel
theorem dX5_sing_81 : decode cX5_sing 81 = .ok (.bipush (-4), 2) := by decide +kernel
theorem dX5_sing_83 : decode cX5_sing 83 = .ok (.ireturn, 1) := by decide +kernel
theorem dX5_sing_84 : decode cX5_sing 84 = .ok (.aload_n 0, 1) := by decide +kernel
theorem dX5_sing_85 : decode cX5_sing 85 = .ok (.invokevirtual 140, 3) := by decide +kernel
theorem dX5_sing_88 : decode cX5_sing 88 = .ok (.aload_n 0, 1) := by decide +kernel
theorem dX5_sing_89 : decode cX5_sing 89 = .ok (.aload_n 0, 1) := by decide +kernel
theorem dX5_sing_90 : decode cX5_sing 90 = .ok (.getfield 28, 3) := by decide +kernel
theorem dX5_sing_93 : decode cX5_sing 93 = .ok (.iload_n 1, 1) := by decide +kernel
theorem dX5_sing_94 : decode cX5_sing 94 = .ok (.iload_n 2, 1) := by decide +kernel
theorem dX5_sing_95 : decode cX5_sing 95 = .ok (.iload_n 3, 1) := by decide +kernel
theorem dX5_sing_96 : decode cX5_sing 96 = .ok (.iload 4, 2) := by decide +kernel
theorem dX5_sing_98 : decode cX5_sing 98 = .ok (.invokevirtual 151, 3) := by decide +kernel
theorem dX5_sing_101 : decode cX5_sing 101 = .ok (.aload_n 0, 1) := by decide +kernel
theorem dX5_sing_102 : decode cX5_sing 102 = .ok (.getfield 28, 3) := by decide +kernel
theorem dX5_sing_105 : decode cX5_sing 105 = .ok (.bipush 48, 2) := by decide +kernel
theorem dX5_sing_107 : decode cX5_sing 107 = .ok (.iaload, 1) := by decide +kernel
theorem dX5_sing_108 : decode cX5_sing 108 = .ok (.iconst 1, 1) := by decide +kernel
theorem dX5_sing_109 : decode cX5_sing 109 = .ok (.isub, 1) := by decide +kernel
theorem dX5_sing_110 : decode cX5_sing 110 = .ok (.ireturn, 1) := by decide +kernel
theorem dX5_lid_0 : decode cX5_lid 0 = .ok (.aload_n 0, 1) := by decide +kernel
theorem dX5_lid_1 : decode cX5_lid 1 = .ok (.iconst 0, 1) := by decide +kernel
theorem dX5_lid_2 : decode cX5_lid 2 = .ok (.putfield 62, 3) := by decide +kernel
theorem dX5_lid_5 : decode cX5_lid 5 = .ok (.aload_n 0, 1) := by decide +kernel
theorem dX5_lid_6 : decode cX5_lid 6 = .ok (.iload_n 1, 1) := by decide +kernel
theorem dX5_lid_7 : decode cX5_lid 7 = .ok (.invokevirtual 116, 3) := by decide +kernel
theorem dX5_lid_10 : decode cX5_lid 10 = .ok (.ifCond .eq 5, 3) := by decide +kernel
theorem dX5_lid_13 : decode cX5_lid 13 = .ok (.iconst (-1), 1) := by decide +kernel
theorem dX5_lid_14 : decode cX5_lid 14 = .ok (.ireturn, 1) := by decide +kernel
theorem dX5_lid_15 : decode cX5_lid 15 = .ok (.aload_n 0, 1) := by decide +kernel
theorem dX5_lid_16 : decode cX5_lid 16 = .ok (.invokevirtual 140, 3) := by decide +kernel
theorem dX5_lid_19 : decode cX5_lid 19 = .ok (.aload_n 0, 1) := by decide +kernel
theorem dX5_lid_20 : decode cX5_lid 20 = .ok (.getfield 28, 3) := by decide +kernel
theorem dX5_lid_23 : decode cX5_lid 23 = .ok (.bipush 49, 2) := by decide +kernel
theorem dX5_lid_25 : decode cX5_lid 25 = .ok (.dup2, 1) := by decide +kernel
theorem dX5_lid_26 : decode cX5_lid 26 = .ok (.iaload, 1) := by decide +kernel
theorem dX5_lid_27 : decode cX5_lid 27 = .ok (.iconst 1, 1) := by decide +kernel
theorem dX5_lid_28 : decode cX5_lid 28 = .ok (.iload_n 1, 1) := by decide +kernel
theorem dX5_lid_29 : decode cX5_lid 29 = .ok (.ishl, 1) := by decide +kernel
theorem dX5_lid_30 : decode cX5_lid 30 = .ok (.ixor, 1) := by decide +kernel
theorem dX5_lid_31 : decode cX5_lid 31 = .ok (.iastore, 1) := by decide +kernel
theorem dX5_lid_32 : decode cX5_lid 32 = .ok (.aload_n 0, 1) := by decide +kernel
theorem dX5_lid_33 : decode cX5_lid 33 = .ok (.getfield 28, 3) := by decide +kernel
theorem dX5_lid_36 : decode cX5_lid 36 = .ok (.bipush 49, 2) := by decide +kernel
theorem dX5_lid_38 : decode cX5_lid 38 = .ok (.iaload, 1) := by decide +kernel
theorem dX5_lid_39 : decode cX5_lid 39 = .ok (.iload_n 1, 1) := by decide +kernel
theorem dX5_lid_40 : decode cX5_lid 40 = .ok (.ishr, 1) := by decide +kernel
theorem dX5_lid_41 : decode cX5_lid 41 = .ok (.iconst 1, 1) := by decide +kernel
theorem dX5_lid_42 : decode cX5_lid 42 = .ok (.iand, 1) := by decide +kernel
theorem dX5_lid_43 : decode cX5_lid 43 = .ok (.ireturn, 1) := by decide +kernel
theorem dX5_undo_0 : decode cX5_undo 0 = .ok (.aload_n 0, 1) := by decide +kernel
theorem dX5_undo_1 : decode cX5_undo 1 = .ok (.iconst 0, 1) := by decide +kernel
theorem dX5_undo_2 : decode cX5_undo 2 = .ok (.putfield 62, 3) := by decide +kernel
theorem dX5_undo_5 : decode cX5_undo 5 = .ok (.aload_n 0, 1) := by decide +kernel
theorem dX5_undo_6 : decode cX5_undo 6 = .ok (.getfield 113, 3) := by decide +kernel
theorem dX5_undo_9 : decode cX5_undo 9 = .ok (.ifCond .ne 6, 3) := by decide +kernel
theorem dX5_undo_12 : decode cX5_undo 12 = .ok (.bipush (-3), 2) := by decide +kernel
theorem dX5_undo_14 : decode cX5_undo 14 = .ok (.ireturn, 1) := by decide +kernel
theorem dX5_undo_15 : decode cX5_undo 15 = .ok (.aload_n 0, 1) := by decide +kernel
theorem dX5_undo_16 : decode cX5_undo 16 = .ok (.dup, 1) := by decide +kernel
theorem dX5_undo_17 : decode cX5_undo 17 = .ok (.getfield 113, 3) := by decide +kernel
theorem dX5_undo_20 : decode cX5_undo 20 = .ok (.iconst 1, 1) := by decide +kernel
theorem dX5_undo_21 : decode cX5_undo 21 = .ok (.isub, 1) := by decide +kernel
theorem dX5_undo_22 : decode cX5_undo 22 = .ok (.putfield 113, 3) := by decide +kernel
theorem dX5_undo_25 : decode cX5_undo 25 = .ok (.iconst 0, 1) := by decide +kernel
theorem dX5_undo_26 : decode cX5_undo 26 = .ok (.istore_n 1, 1) := by decide +kernel
theorem dX5_undo_27 : decode cX5_undo 27 = .ok (.iload_n 1, 1) := by decide +kernel
theorem dX5_undo_28 : decode cX5_undo 28 = .ok (.bipush 52, 2) := by decide +kernel
theorem dX5_undo_30 : decode cX5_undo 30 = .ok (.if_icmp .ge 29, 3) := by decide +kernel
theorem dX5_undo_33 : decode cX5_undo 33 = .ok (.aload_n 0, 1) := by decide +kernel
theorem dX5_undo_34 : decode cX5_undo 34 = .ok (.getfield 28, 3) := by decide +kernel
theorem dX5_undo_37 : decode cX5_undo 37 = .ok (.iload_n 1, 1) := by decide +kernel
theorem dX5_undo_38 : decode cX5_undo 38 = .ok (.aload_n 0, 1) := by decide +kernel
theorem dX5_undo_39 : decode cX5_undo 39 = .ok (.getfield 31, 3) := by decide +kernel
theorem dX5_undo_42 : decode cX5_undo 42 = .ok (.bipush 52, 2) := by decide +kernel
theorem dX5_undo_44 : decode cX5_undo 44 = .ok (.aload_n 0, 1) := by decide +kernel
theorem dX5_undo_45 : decode cX5_undo 45 = .ok (.getfield 113, 3) := by decide +kernel
theorem dX5_undo_48 : decode cX5_undo 48 = .ok (.imul, 1) := by decide +kernel
theorem dX5_undo_49 : decode cX5_undo 49 = .ok (.iload_n 1, 1) := by decide +kernel
theorem dX5_undo_50 : decode cX5_undo 50 = .ok (.iadd, 1) := by decide +kernel
theorem dX5_undo_51 : decode cX5_undo 51 = .ok (.iaload, 1) := by decide +kernel
theorem dX5_undo_52 : decode cX5_undo 52 = .ok (.iastore, 1) := by decide +kernel
theorem dX5_undo_53 : decode cX5_undo 53 = .ok (.iinc 1 1, 3) := by decide +kernel
theorem dX5_undo_56 : decode cX5_undo 56 = .ok (.goto (-29), 3) := by decide +kernel
theorem dX5_undo_59 : decode cX5_undo 59 = .ok (.aload_n 0, 1) := by decide +kernel
theorem dX5_undo_60 : decode cX5_undo 60 = .ok (.getfield 113, 3) := by decide +kernel
theorem dX5_undo_63 : decode cX5_undo 63 = .ok (.ireturn, 1) := by decide +kernel
theorem dX5_hears_0 : decode cX5_hears 0 = .ok (.iload_n 2, 1) := by decide +kernel
theorem dX5_hears_1 : decode cX5_hears 1 = .ok (.aload_n 0, 1) := by decide +kernel
theorem dX5_hears_2 : decode cX5_hears 2 = .ok (.getfield 13, 3) := by decide +kernel
theorem dX5_hears_5 : decode cX5_hears 5 = .ok (.iload_n 1, 1) := by decide +kernel
theorem dX5_hears_6 : decode cX5_hears 6 = .ok (.iaload, 1) := by decide +kernel
theorem dX5_hears_7 : decode cX5_hears 7 = .ok (.if_icmp .ge 7, 3) := by decide +kernel
theorem dX5_hears_10 : decode cX5_hears 10 = .ok (.iload_n 2, 1) := by decide +kernel
theorem dX5_hears_11 : decode cX5_hears 11 = .ok (.goto 9, 3) := by decide +kernel
theorem dX5_hears_14 : decode cX5_hears 14 = .ok (.aload_n 0, 1) := by decide +kernel
theorem dX5_hears_15 : decode cX5_hears 15 = .ok (.getfield 13, 3) := by decide +kernel
theorem dX5_hears_18 : decode cX5_hears 18 = .ok (.iload_n 1, 1) := by decide +kernel
theorem dX5_hears_19 : decode cX5_hears 19 = .ok (.iaload, 1) := by decide +kernel
theorem dX5_hears_20 : decode cX5_hears 20 = .ok (.istore 4, 2) := by decide +kernel
theorem dX5_hears_22 : decode cX5_hears 22 = .ok (.iconst 0, 1) := by decide +kernel
theorem dX5_hears_23 : decode cX5_hears 23 = .ok (.istore 5, 2) := by decide +kernel
theorem dX5_hears_25 : decode cX5_hears 25 = .ok (.iconst 0, 1) := by decide +kernel
theorem dX5_hears_26 : decode cX5_hears 26 = .ok (.istore 6, 2) := by decide +kernel
theorem dX5_hears_28 : decode cX5_hears 28 = .ok (.iload 6, 2) := by decide +kernel
theorem dX5_hears_30 : decode cX5_hears 30 = .ok (.aload_n 0, 1) := by decide +kernel
theorem dX5_hears_31 : decode cX5_hears 31 = .ok (.getfield 28, 3) := by decide +kernel
theorem dX5_hears_34 : decode cX5_hears 34 = .ok (.bipush 48, 2) := by decide +kernel
theorem dX5_hears_36 : decode cX5_hears 36 = .ok (.iaload, 1) := by decide +kernel
theorem dX5_hears_37 : decode cX5_hears 37 = .ok (.if_icmp .ge 147, 3) := by decide +kernel
theorem dX5_hears_40 : decode cX5_hears 40 = .ok (.aload_n 0, 1) := by decide +kernel
theorem dX5_hears_41 : decode cX5_hears 41 = .ok (.getfield 28, 3) := by decide +kernel
theorem dX5_hears_44 : decode cX5_hears 44 = .ok (.bipush 49, 2) := by decide +kernel
theorem dX5_hears_46 : decode cX5_hears 46 = .ok (.iaload, 1) := by decide +kernel
theorem dX5_hears_47 : decode cX5_hears 47 = .ok (.iload_n 1, 1) := by decide +kernel
theorem dX5_hears_48 : decode cX5_hears 48 = .ok (.invokestatic 125, 3) := by decide +kernel
theorem dX5_hears_51 : decode cX5_hears 51 = .ok (.ifCond .ne 133, 3) := by decide +kernel
theorem dX5_hears_54 : decode cX5_hears 54 = .ok (.bipush 6, 2) := by decide +kernel
theorem dX5_hears_56 : decode cX5_hears 56 = .ok (.iload 6, 2) := by decide +kernel
theorem dX5_hears_58 : decode cX5_hears 58 = .ok (.imul, 1) := by decide +kernel
theorem dX5_hears_59 : decode cX5_hears 59 = .ok (.istore 7, 2) := by decide +kernel
theorem dX5_hears_61 : decode cX5_hears 61 = .ok (.aload_n 0, 1) := by decide +kernel
theorem dX5_hears_62 : decode cX5_hears 62 = .ok (.getfield 28, 3) := by decide +kernel
theorem dX5_hears_65 : decode cX5_hears 65 = .ok (.iload 7, 2) := by decide +kernel
theorem dX5_hears_67 : decode cX5_hears 67 = .ok (.iconst 4, 1) := by decide +kernel
theorem dX5_hears_68 : decode cX5_hears 68 = .ok (.iadd, 1) := by decide +kernel
theorem dX5_hears_69 : decode cX5_hears 69 = .ok (.iaload, 1) := by decide +kernel
theorem dX5_hears_70 : decode cX5_hears 70 = .ok (.aload_n 0, 1) := by decide +kernel
theorem dX5_hears_71 : decode cX5_hears 71 = .ok (.getfield 13, 3) := by decide +kernel
theorem dX5_hears_74 : decode cX5_hears 74 = .ok (.iload_n 1, 1) := by decide +kernel
theorem dX5_hears_75 : decode cX5_hears 75 = .ok (.iaload, 1) := by decide +kernel
theorem dX5_hears_76 : decode cX5_hears 76 = .ok (.if_icmp .ge 15, 3) := by decide +kernel
theorem dX5_hears_79 : decode cX5_hears 79 = .ok (.aload_n 0, 1) := by decide +kernel
theorem dX5_hears_80 : decode cX5_hears 80 = .ok (.getfield 28, 3) := by decide +kernel
theorem dX5_hears_83 : decode cX5_hears 83 = .ok (.iload 7, 2) := by decide +kernel
theorem dX5_hears_85 : decode cX5_hears 85 = .ok (.iconst 4, 1) := by decide +kernel
theorem dX5_hears_86 : decode cX5_hears 86 = .ok (.iadd, 1) := by decide +kernel
theorem dX5_hears_87 : decode cX5_hears 87 = .ok (.iaload, 1) := by decide +kernel
theorem dX5_hears_88 : decode cX5_hears 88 = .ok (.goto 9, 3) := by decide +kernel
theorem dX5_hears_91 : decode cX5_hears 91 = .ok (.aload_n 0, 1) := by decide +kernel
theorem dX5_hears_92 : decode cX5_hears 92 = .ok (.getfield 13, 3) := by decide +kernel
theorem dX5_hears_95 : decode cX5_hears 95 = .ok (.iload_n 1, 1) := by decide +kernel
theorem dX5_hears_96 : decode cX5_hears 96 = .ok (.iaload, 1) := by decide +kernel
theorem dX5_hears_97 : decode cX5_hears 97 = .ok (.istore 8, 2) := by decide +kernel
theorem dX5_hears_99 : decode cX5_hears 99 = .ok (.iload 8, 2) := by decide +kernel
theorem dX5_hears_101 : decode cX5_hears 101 = .ok (.iload 4, 2) := by decide +kernel
theorem dX5_hears_103 : decode cX5_hears 103 = .ok (.if_icmp .ge 11, 3) := by decide +kernel
theorem dX5_hears_106 : decode cX5_hears 106 = .ok (.iload 4, 2) := by decide +kernel
theorem dX5_hears_108 : decode cX5_hears 108 = .ok (.iload 8, 2) := by decide +kernel
theorem dX5_hears_110 : decode cX5_hears 110 = .ok (.isub, 1) := by decide +kernel
theorem dX5_hears_111 : decode cX5_hears 111 = .ok (.goto 8, 3) := by decide +kernel
theorem dX5_hears_114 : decode cX5_hears 114 = .ok (.iload 8, 2) := by decide +kernel
theorem dX5_hears_116 : decode cX5_hears 116 = .ok (.iload 4, 2) := by decide +kernel
theorem dX5_hears_118 : decode cX5_hears 118 = .ok (.isub, 1) := by decide +kernel
theorem dX5_hears_119 : decode cX5_hears 119 = .ok (.istore 9, 2) := by decide +kernel
theorem dX5_hears_121 : decode cX5_hears 121 = .ok (.iload 5, 2) := by decide +kernel
theorem dX5_hears_123 : decode cX5_hears 123 = .ok (.aload_n 0, 1) := by decide +kernel
theorem dX5_hears_124 : decode cX5_hears 124 = .ok (.getfield 28, 3) := by decide +kernel
theorem dX5_hears_127 : decode cX5_hears 127 = .ok (.iload 7, 2) := by decide +kernel
theorem dX5_hears_129 : decode cX5_hears 129 = .ok (.iconst 1, 1) := by decide +kernel
theorem dX5_hears_130 : decode cX5_hears 130 = .ok (.iadd, 1) := by decide +kernel
theorem dX5_hears_131 : decode cX5_hears 131 = .ok (.iaload, 1) := by decide +kernel
theorem dX5_hears_132 : decode cX5_hears 132 = .ok (.iload_n 1, 1) := by decide +kernel
theorem dX5_hears_133 : decode cX5_hears 133 = .ok (.if_icmp .ne 41, 3) := by decide +kernel
theorem dX5_hears_136 : decode cX5_hears 136 = .ok (.aload_n 0, 1) := by decide +kernel
theorem dX5_hears_137 : decode cX5_hears 137 = .ok (.getfield 28, 3) := by decide +kernel
theorem dX5_hears_140 : decode cX5_hears 140 = .ok (.iload 7, 2) := by decide +kernel
theorem dX5_hears_142 : decode cX5_hears 142 = .ok (.iconst 2, 1) := by decide +kernel
theorem dX5_hears_143 : decode cX5_hears 143 = .ok (.iadd, 1) := by decide +kernel
theorem dX5_hears_144 : decode cX5_hears 144 = .ok (.iaload, 1) := by decide +kernel
theorem dX5_hears_145 : decode cX5_hears 145 = .ok (.iload 9, 2) := by decide +kernel
theorem dX5_hears_147 : decode cX5_hears 147 = .ok (.if_icmp .le 27, 3) := by decide +kernel
theorem dX5_hears_150 : decode cX5_hears 150 = .ok (.iload_n 3, 1) := by decide +kernel
theorem dX5_hears_151 : decode cX5_hears 151 = .ok (.ifCond .eq 16, 3) := by decide +kernel
theorem dX5_hears_154 : decode cX5_hears 154 = .ok (.aload_n 0, 1) := by decide +kernel
theorem dX5_hears_155 : decode cX5_hears 155 = .ok (.getfield 28, 3) := by decide +kernel
theorem dX5_hears_158 : decode cX5_hears 158 = .ok (.iload 7, 2) := by decide +kernel
theorem dX5_hears_160 : decode cX5_hears 160 = .ok (.iconst 3, 1) := by decide +kernel
theorem dX5_hears_161 : decode cX5_hears 161 = .ok (.iadd, 1) := by decide +kernel
theorem dX5_hears_162 : decode cX5_hears 162 = .ok (.iaload, 1) := by decide +kernel
theorem dX5_hears_163 : decode cX5_hears 163 = .ok (.iconst 2, 1) := by decide +kernel
theorem dX5_hears_164 : decode cX5_hears 164 = .ok (.if_icmp .ge 10, 3) := by decide +kernel
theorem dX5_hears_167 : decode cX5_hears 167 = .ok (.iconst 1, 1) := by decide +kernel
theorem dX5_hears_168 : decode cX5_hears 168 = .ok (.iload 6, 2) := by decide +kernel
theorem dX5_hears_170 : decode cX5_hears 170 = .ok (.ishl, 1) := by decide +kernel
theorem dX5_hears_171 : decode cX5_hears 171 = .ok (.goto 4, 3) := by decide +kernel
theorem dX5_hears_174 : decode cX5_hears 174 = .ok (.iconst 0, 1) := by decide +kernel
theorem dX5_hears_175 : decode cX5_hears 175 = .ok (.ior, 1) := by decide +kernel
theorem dX5_hears_176 : decode cX5_hears 176 = .ok (.istore 5, 2) := by decide +kernel
theorem dX5_hears_178 : decode cX5_hears 178 = .ok (.iinc 6 1, 3) := by decide +kernel
theorem dX5_hears_181 : decode cX5_hears 181 = .ok (.goto (-153), 3) := by decide +kernel
theorem dX5_hears_184 : decode cX5_hears 184 = .ok (.iload 5, 2) := by decide +kernel
theorem dX5_hears_186 : decode cX5_hears 186 = .ok (.ireturn, 1) := by decide +kernel
theorem dX5_heard_0 : decode cX5_heard 0 = .ok (.aload_n 0, 1) := by decide +kernel
theorem dX5_heard_1 : decode cX5_heard 1 = .ok (.iconst 0, 1) := by decide +kernel
theorem dX5_heard_2 : decode cX5_heard 2 = .ok (.putfield 62, 3) := by decide +kernel
theorem dX5_heard_5 : decode cX5_heard 5 = .ok (.aload_n 0, 1) := by decide +kernel
theorem dX5_heard_6 : decode cX5_heard 6 = .ok (.iload_n 1, 1) := by decide +kernel
theorem dX5_heard_7 : decode cX5_heard 7 = .ok (.invokevirtual 116, 3) := by decide +kernel
theorem dX5_heard_10 : decode cX5_heard 10 = .ok (.ifCond .eq 7, 3) := by decide +kernel
theorem dX5_heard_13 : decode cX5_heard 13 = .ok (.iconst (-1), 1) := by decide +kernel
theorem dX5_heard_14 : decode cX5_heard 14 = .ok (.goto 27, 3) := by decide +kernel
theorem dX5_heard_17 : decode cX5_heard 17 = .ok (.iload_n 2, 1) := by decide +kernel
theorem dX5_heard_18 : decode cX5_heard 18 = .ok (.i2l, 1) := by decide +kernel
theorem dX5_heard_19 : decode cX5_heard 19 = .ok (.lconst 0, 1) := by decide +kernel
theorem dX5_heard_20 : decode cX5_heard 20 = .ok (.ldc2_w 143, 3) := by decide +kernel
theorem dX5_heard_23 : decode cX5_heard 23 = .ok (.invokestatic 69, 3) := by decide +kernel
theorem dX5_heard_26 : decode cX5_heard 26 = .ok (.ifCond .eq 13, 3) := by decide +kernel
theorem dX5_heard_29 : decode cX5_heard 29 = .ok (.aload_n 0, 1) := by decide +kernel
theorem dX5_heard_30 : decode cX5_heard 30 = .ok (.iload_n 1, 1) := by decide +kernel
theorem dX5_heard_31 : decode cX5_heard 31 = .ok (.iload_n 2, 1) := by decide +kernel
theorem dX5_heard_32 : decode cX5_heard 32 = .ok (.iload_n 3, 1) := by decide +kernel
theorem dX5_heard_33 : decode cX5_heard 33 = .ok (.invokevirtual 155, 3) := by decide +kernel
theorem dX5_heard_36 : decode cX5_heard 36 = .ok (.goto 5, 3) := by decide +kernel
theorem dX5_heard_39 : decode cX5_heard 39 = .ok (.bipush (-2), 2) := by decide +kernel
theorem dX5_heard_41 : decode cX5_heard 41 = .ok (.ireturn, 1) := by decide +kernel
theorem dX5_songLasts_0 : decode cX5_songLasts 0 = .ok (.aload_n 0, 1) := by decide +kernel
theorem dX5_songLasts_1 : decode cX5_songLasts 1 = .ok (.iconst 0, 1) := by decide +kernel
theorem dX5_songLasts_2 : decode cX5_songLasts 2 = .ok (.putfield 62, 3) := by decide +kernel
theorem dX5_songLasts_5 : decode cX5_songLasts 5 = .ok (.aload_n 0, 1) := by decide +kernel
theorem dX5_songLasts_6 : decode cX5_songLasts 6 = .ok (.iload_n 1, 1) := by decide +kernel
theorem dX5_songLasts_7 : decode cX5_songLasts 7 = .ok (.invokevirtual 120, 3) := by decide +kernel
theorem dX5_songLasts_10 : decode cX5_songLasts 10 = .ok (.ifCond .eq 5, 3) := by decide +kernel
theorem dX5_songLasts_13 : decode cX5_songLasts 13 = .ok (.iconst (-1), 1) := by decide +kernel
theorem dX5_songLasts_14 : decode cX5_songLasts 14 = .ok (.ireturn, 1) := by decide +kernel
theorem dX5_songLasts_15 : decode cX5_songLasts 15 = .ok (.aload_n 0, 1) := by decide +kernel
theorem dX5_songLasts_16 : decode cX5_songLasts 16 = .ok (.getfield 28, 3) := by decide +kernel
theorem dX5_songLasts_19 : decode cX5_songLasts 19 = .ok (.aload_n 0, 1) := by decide +kernel
theorem dX5_songLasts_20 : decode cX5_songLasts 20 = .ok (.getfield 41, 3) := by decide +kernel
theorem dX5_songLasts_23 : decode cX5_songLasts 23 = .ok (.invokestatic 159, 3) := by decide +kernel
theorem dX5_songLasts_26 : decode cX5_songLasts 26 = .ok (.iload_n 1, 1) := by decide +kernel
theorem dX5_songLasts_27 : decode cX5_songLasts 27 = .ok (.istore_n 2, 1) := by decide +kernel
theorem dX5_songLasts_28 : decode cX5_songLasts 28 = .ok (.iconst 1, 1) := by decide +kernel
theorem dX5_songLasts_29 : decode cX5_songLasts 29 = .ok (.istore_n 3, 1) := by decide +kernel
theorem dX5_songLasts_30 : decode cX5_songLasts 30 = .ok (.iload_n 3, 1) := by decide +kernel
theorem dX5_songLasts_31 : decode cX5_songLasts 31 = .ok (.bipush 99, 2) := by decide +kernel
theorem dX5_songLasts_33 : decode cX5_songLasts 33 = .ok (.if_icmp .ge 27, 3) := by decide +kernel
theorem dX5_songLasts_36 : decode cX5_songLasts 36 = .ok (.aload_n 0, 1) := by decide +kernel
theorem dX5_songLasts_37 : decode cX5_songLasts 37 = .ok (.aload_n 0, 1) := by decide +kernel
theorem dX5_songLasts_38 : decode cX5_songLasts 38 = .ok (.getfield 41, 3) := by decide +kernel
theorem dX5_songLasts_41 : decode cX5_songLasts 41 = .ok (.iload_n 2, 1) := by decide +kernel
theorem dX5_songLasts_42 : decode cX5_songLasts 42 = .ok (.invokevirtual 136, 3) := by decide +kernel
theorem dX5_songLasts_45 : decode cX5_songLasts 45 = .ok (.istore_n 2, 1) := by decide +kernel
theorem dX5_songLasts_46 : decode cX5_songLasts 46 = .ok (.iload_n 2, 1) := by decide +kernel
theorem dX5_songLasts_47 : decode cX5_songLasts 47 = .ok (.bipush (-9), 2) := by decide +kernel
theorem dX5_songLasts_49 : decode cX5_songLasts 49 = .ok (.if_icmp .ne 5, 3) := by decide +kernel
theorem dX5_songLasts_52 : decode cX5_songLasts 52 = .ok (.iload_n 3, 1) := by decide +kernel
theorem dX5_songLasts_53 : decode cX5_songLasts 53 = .ok (.ireturn, 1) := by decide +kernel
theorem dX5_songLasts_54 : decode cX5_songLasts 54 = .ok (.iinc 3 1, 3) := by decide +kernel
theorem dX5_songLasts_57 : decode cX5_songLasts 57 = .ok (.goto (-27), 3) := by decide +kernel
theorem dX5_songLasts_60 : decode cX5_songLasts 60 = .ok (.bipush 99, 2) := by decide +kernel
theorem dX5_songLasts_62 : decode cX5_songLasts 62 = .ok (.ireturn, 1) := by decide +kernel
theorem dX5_noLaw_0 : decode cX5_noLaw 0 = .ok (.iload_n 0, 1) := by decide +kernel
theorem dX5_noLaw_1 : decode cX5_noLaw 1 = .ok (.i2l, 1) := by decide +kernel
theorem dX5_noLaw_2 : decode cX5_noLaw 2 = .ok (.lconst 0, 1) := by decide +kernel
theorem dX5_noLaw_3 : decode cX5_noLaw 3 = .ok (.ldc2_w 123, 3) := by decide +kernel
theorem dX5_noLaw_6 : decode cX5_noLaw 6 = .ok (.invokestatic 69, 3) := by decide +kernel
theorem dX5_noLaw_9 : decode cX5_noLaw 9 = .ok (.ifCond .ne 7, 3) := by decide +kernel
theorem dX5_noLaw_12 : decode cX5_noLaw 12 = .ok (.iconst 1, 1) := by decide +kernel
theorem dX5_noLaw_13 : decode cX5_noLaw 13 = .ok (.goto 4, 3) := by decide +kernel
theorem dX5_noLaw_16 : decode cX5_noLaw 16 = .ok (.iconst 0, 1) := by decide +kernel
theorem dX5_noLaw_17 : decode cX5_noLaw 17 = .ok (.ireturn, 1) := by decide +kernel
theorem dX5_lawLasts_0 : decode cX5_lawLasts 0 = .ok (.aload_n 0, 1) := by decide +kernel
theorem dX5_lawLasts_1 : decode cX5_lawLasts 1 = .ok (.iconst 0, 1) := by decide +kernel
theorem dX5_lawLasts_2 : decode cX5_lawLasts 2 = .ok (.putfield 62, 3) := by decide +kernel
theorem dX5_lawLasts_5 : decode cX5_lawLasts 5 = .ok (.iload_n 1, 1) := by decide +kernel
theorem dX5_lawLasts_6 : decode cX5_lawLasts 6 = .ok (.invokestatic 163, 3) := by decide +kernel
theorem dX5_lawLasts_9 : decode cX5_lawLasts 9 = .ok (.ifCond .eq 6, 3) := by decide +kernel
theorem dX5_lawLasts_12 : decode cX5_lawLasts 12 = .ok (.bipush (-2), 2) := by decide +kernel
theorem dX5_lawLasts_14 : decode cX5_lawLasts 14 = .ok (.ireturn, 1) := by decide +kernel
theorem dX5_lawLasts_15 : decode cX5_lawLasts 15 = .ok (.aload_n 0, 1) := by decide +kernel
theorem dX5_lawLasts_16 : decode cX5_lawLasts 16 = .ok (.getfield 28, 3) := by decide +kernel
theorem dX5_lawLasts_19 : decode cX5_lawLasts 19 = .ok (.aload_n 0, 1) := by decide +kernel
theorem dX5_lawLasts_20 : decode cX5_lawLasts 20 = .ok (.getfield 41, 3) := by decide +kernel
theorem dX5_lawLasts_23 : decode cX5_lawLasts 23 = .ok (.invokestatic 159, 3) := by decide +kernel
theorem dX5_lawLasts_26 : decode cX5_lawLasts 26 = .ok (.iconst 0, 1) := by decide +kernel
theorem dX5_lawLasts_27 : decode cX5_lawLasts 27 = .ok (.istore_n 2, 1) := by decide +kernel
theorem dX5_lawLasts_28 : decode cX5_lawLasts 28 = .ok (.iload_n 2, 1) := by decide +kernel
theorem dX5_lawLasts_29 : decode cX5_lawLasts 29 = .ok (.bipush 99, 2) := by decide +kernel
theorem dX5_lawLasts_31 : decode cX5_lawLasts 31 = .ok (.if_icmp .ge 34, 3) := by decide +kernel
theorem dX5_lawLasts_34 : decode cX5_lawLasts 34 = .ok (.aload_n 0, 1) := by decide +kernel
theorem dX5_lawLasts_35 : decode cX5_lawLasts 35 = .ok (.getfield 41, 3) := by decide +kernel
theorem dX5_lawLasts_38 : decode cX5_lawLasts 38 = .ok (.invokestatic 106, 3) := by decide +kernel
theorem dX5_lawLasts_41 : decode cX5_lawLasts 41 = .ok (.iload_n 1, 1) := by decide +kernel
theorem dX5_lawLasts_42 : decode cX5_lawLasts 42 = .ok (.invokestatic 125, 3) := by decide +kernel
theorem dX5_lawLasts_45 : decode cX5_lawLasts 45 = .ok (.ifCond .eq 20, 3) := by decide +kernel
theorem dX5_lawLasts_48 : decode cX5_lawLasts 48 = .ok (.aload_n 0, 1) := by decide +kernel
theorem dX5_lawLasts_49 : decode cX5_lawLasts 49 = .ok (.aload_n 0, 1) := by decide +kernel
theorem dX5_lawLasts_50 : decode cX5_lawLasts 50 = .ok (.getfield 41, 3) := by decide +kernel
theorem dX5_lawLasts_53 : decode cX5_lawLasts 53 = .ok (.bipush (-9), 2) := by decide +kernel
theorem dX5_lawLasts_55 : decode cX5_lawLasts 55 = .ok (.invokevirtual 136, 3) := by decide +kernel
theorem dX5_lawLasts_58 : decode cX5_lawLasts 58 = .ok (.pop, 1) := by decide +kernel
theorem dX5_lawLasts_59 : decode cX5_lawLasts 59 = .ok (.iinc 2 1, 3) := by decide +kernel
theorem dX5_lawLasts_62 : decode cX5_lawLasts 62 = .ok (.goto (-34), 3) := by decide +kernel
theorem dX5_lawLasts_65 : decode cX5_lawLasts 65 = .ok (.iload_n 2, 1) := by decide +kernel
theorem dX5_lawLasts_66 : decode cX5_lawLasts 66 = .ok (.ireturn, 1) := by decide +kernel
theorem dX5_lost_0 : decode cX5_lost 0 = .ok (.aload_n 0, 1) := by decide +kernel
theorem dX5_lost_1 : decode cX5_lost 1 = .ok (.iconst 0, 1) := by decide +kernel
theorem dX5_lost_2 : decode cX5_lost 2 = .ok (.putfield 62, 3) := by decide +kernel
theorem dX5_lost_5 : decode cX5_lost 5 = .ok (.iload_n 1, 1) := by decide +kernel
theorem dX5_lost_6 : decode cX5_lost 6 = .ok (.i2l, 1) := by decide +kernel
theorem dX5_lost_7 : decode cX5_lost 7 = .ok (.lconst 0, 1) := by decide +kernel
theorem dX5_lost_8 : decode cX5_lost 8 = .ok (.ldc2_w 166, 3) := by decide +kernel
theorem dX5_lost_11 : decode cX5_lost 11 = .ok (.invokestatic 69, 3) := by decide +kernel
theorem dX5_lost_14 : decode cX5_lost 14 = .ok (.ifCond .ne 6, 3) := by decide +kernel
theorem dX5_lost_17 : decode cX5_lost 17 = .ok (.bipush (-2), 2) := by decide +kernel
theorem dX5_lost_19 : decode cX5_lost 19 = .ok (.ireturn, 1) := by decide +kernel
theorem dX5_lost_20 : decode cX5_lost 20 = .ok (.aload_n 0, 1) := by decide +kernel
theorem dX5_lost_21 : decode cX5_lost 21 = .ok (.getfield 28, 3) := by decide +kernel
theorem dX5_lost_24 : decode cX5_lost 24 = .ok (.aload_n 0, 1) := by decide +kernel
theorem dX5_lost_25 : decode cX5_lost 25 = .ok (.getfield 41, 3) := by decide +kernel
theorem dX5_lost_28 : decode cX5_lost 28 = .ok (.invokestatic 159, 3) := by decide +kernel
theorem dX5_lost_31 : decode cX5_lost 31 = .ok (.aload_n 0, 1) := by decide +kernel
theorem dX5_lost_32 : decode cX5_lost 32 = .ok (.aload_n 0, 1) := by decide +kernel
theorem dX5_lost_33 : decode cX5_lost 33 = .ok (.getfield 41, 3) := by decide +kernel
theorem dX5_lost_36 : decode cX5_lost 36 = .ok (.iload_n 1, 1) := by decide +kernel
theorem dX5_lost_37 : decode cX5_lost 37 = .ok (.invokevirtual 168, 3) := by decide +kernel
theorem dX5_lost_40 : decode cX5_lost 40 = .ok (.aload_n 0, 1) := by decide +kernel
theorem dX5_lost_41 : decode cX5_lost 41 = .ok (.getfield 110, 3) := by decide +kernel
theorem dX5_lost_44 : decode cX5_lost 44 = .ok (.aload_n 0, 1) := by decide +kernel
theorem dX5_lost_45 : decode cX5_lost 45 = .ok (.getfield 41, 3) := by decide +kernel
theorem dX5_lost_48 : decode cX5_lost 48 = .ok (.invokestatic 106, 3) := by decide +kernel
theorem dX5_lost_51 : decode cX5_lost 51 = .ok (.iconst (-1), 1) := by decide +kernel
theorem dX5_lost_52 : decode cX5_lost 52 = .ok (.ixor, 1) := by decide +kernel
theorem dX5_lost_53 : decode cX5_lost 53 = .ok (.iand, 1) := by decide +kernel
theorem dX5_lost_54 : decode cX5_lost 54 = .ok (.ireturn, 1) := by decide +kernel
theorem dX5_doPlan_0 : decode cX5_doPlan 0 = .ok (.iload_n 2, 1) := by decide +kernel
theorem dX5_doPlan_1 : decode cX5_doPlan 1 = .ok (.iconst 1, 1) := by decide +kernel
theorem dX5_doPlan_2 : decode cX5_doPlan 2 = .ok (.isub, 1) := by decide +kernel
theorem dX5_doPlan_3 : decode cX5_doPlan 3 = .ok (.iconst 2, 1) := by decide +kernel
theorem dX5_doPlan_4 : decode cX5_doPlan 4 = .ok (.idiv, 1) := by decide +kernel
theorem dX5_doPlan_5 : decode cX5_doPlan 5 = .ok (.istore_n 3, 1) := by decide +kernel
theorem dX5_doPlan_6 : decode cX5_doPlan 6 = .ok (.iload_n 2, 1) := by decide +kernel
theorem dX5_doPlan_7 : decode cX5_doPlan 7 = .ok (.iconst 1, 1) := by decide +kernel
theorem dX5_doPlan_8 : decode cX5_doPlan 8 = .ok (.isub, 1) := by decide +kernel
theorem dX5_doPlan_9 : decode cX5_doPlan 9 = .ok (.iconst 2, 1) := by decide +kernel
theorem dX5_doPlan_10 : decode cX5_doPlan 10 = .ok (.irem, 1) := by decide +kernel
theorem dX5_doPlan_11 : decode cX5_doPlan 11 = .ok (.istore 4, 2) := by decide +kernel
theorem dX5_doPlan_13 : decode cX5_doPlan 13 = .ok (.iload_n 2, 1) := by decide +kernel
theorem dX5_doPlan_14 : decode cX5_doPlan 14 = .ok (.ifCond .ne 5, 3) := by decide +kernel
theorem dX5_doPlan_17 : decode cX5_doPlan 17 = .ok (.iconst 1, 1) := by decide +kernel
theorem dX5_doPlan_18 : decode cX5_doPlan 18 = .ok (.ireturn, 1) := by decide +kernel
theorem dX5_doPlan_19 : decode cX5_doPlan 19 = .ok (.iload_n 3, 1) := by decide +kernel
theorem dX5_doPlan_20 : decode cX5_doPlan 20 = .ok (.aload_n 1, 1) := by decide +kernel
theorem dX5_doPlan_21 : decode cX5_doPlan 21 = .ok (.bipush 48, 2) := by decide +kernel
theorem dX5_doPlan_23 : decode cX5_doPlan 23 = .ok (.iaload, 1) := by decide +kernel
theorem dX5_doPlan_24 : decode cX5_doPlan 24 = .ok (.if_icmp .ge 23, 3) := by decide +kernel
theorem dX5_doPlan_27 : decode cX5_doPlan 27 = .ok (.aload_n 1, 1) := by decide +kernel
theorem dX5_doPlan_28 : decode cX5_doPlan 28 = .ok (.bipush 48, 2) := by decide +kernel
theorem dX5_doPlan_30 : decode cX5_doPlan 30 = .ok (.iaload, 1) := by decide +kernel
theorem dX5_doPlan_31 : decode cX5_doPlan 31 = .ok (.bipush 8, 2) := by decide +kernel
theorem dX5_doPlan_33 : decode cX5_doPlan 33 = .ok (.if_icmp .eq 14, 3) := by decide +kernel
theorem dX5_doPlan_36 : decode cX5_doPlan 36 = .ok (.aload_n 0, 1) := by decide +kernel
theorem dX5_doPlan_37 : decode cX5_doPlan 37 = .ok (.aload_n 1, 1) := by decide +kernel
theorem dX5_doPlan_38 : decode cX5_doPlan 38 = .ok (.iload_n 3, 1) := by decide +kernel
theorem dX5_doPlan_39 : decode cX5_doPlan 39 = .ok (.iload 4, 2) := by decide +kernel
theorem dX5_doPlan_41 : decode cX5_doPlan 41 = .ok (.invokevirtual 147, 3) := by decide +kernel
theorem dX5_doPlan_44 : decode cX5_doPlan 44 = .ok (.ifCond .ne 5, 3) := by decide +kernel
theorem dX5_doPlan_47 : decode cX5_doPlan 47 = .ok (.iconst 0, 1) := by decide +kernel
theorem dX5_doPlan_48 : decode cX5_doPlan 48 = .ok (.ireturn, 1) := by decide +kernel
theorem dX5_doPlan_49 : decode cX5_doPlan 49 = .ok (.aload_n 0, 1) := by decide +kernel
theorem dX5_doPlan_50 : decode cX5_doPlan 50 = .ok (.aload_n 1, 1) := by decide +kernel
theorem dX5_doPlan_51 : decode cX5_doPlan 51 = .ok (.iload_n 3, 1) := by decide +kernel
theorem dX5_doPlan_52 : decode cX5_doPlan 52 = .ok (.iload 4, 2) := by decide +kernel
theorem dX5_doPlan_54 : decode cX5_doPlan 54 = .ok (.bipush 6, 2) := by decide +kernel
theorem dX5_doPlan_56 : decode cX5_doPlan 56 = .ok (.aload_n 1, 1) := by decide +kernel
theorem dX5_doPlan_57 : decode cX5_doPlan 57 = .ok (.bipush 6, 2) := by decide +kernel
theorem dX5_doPlan_59 : decode cX5_doPlan 59 = .ok (.iload_n 3, 1) := by decide +kernel
theorem dX5_doPlan_60 : decode cX5_doPlan 60 = .ok (.imul, 1) := by decide +kernel
theorem dX5_doPlan_61 : decode cX5_doPlan 61 = .ok (.iconst 3, 1) := by decide +kernel
theorem dX5_doPlan_62 : decode cX5_doPlan 62 = .ok (.iadd, 1) := by decide +kernel
theorem dX5_doPlan_63 : decode cX5_doPlan 63 = .ok (.iaload, 1) := by decide +kernel
theorem dX5_doPlan_64 : decode cX5_doPlan 64 = .ok (.invokevirtual 151, 3) := by decide +kernel
theorem dX5_doPlan_67 : decode cX5_doPlan 67 = .ok (.iconst 1, 1) := by decide +kernel
theorem dX5_doPlan_68 : decode cX5_doPlan 68 = .ok (.ireturn, 1) := by decide +kernel
theorem dX5_plan_0 : decode cX5_plan 0 = .ok (.aload_n 0, 1) := by decide +kernel
theorem dX5_plan_1 : decode cX5_plan 1 = .ok (.iconst 0, 1) := by decide +kernel
theorem dX5_plan_2 : decode cX5_plan 2 = .ok (.putfield 62, 3) := by decide +kernel
theorem dX5_plan_5 : decode cX5_plan 5 = .ok (.iload_n 1, 1) := by decide +kernel
theorem dX5_plan_6 : decode cX5_plan 6 = .ok (.i2l, 1) := by decide +kernel
theorem dX5_plan_7 : decode cX5_plan 7 = .ok (.lconst 1, 1) := by decide +kernel
theorem dX5_plan_8 : decode cX5_plan 8 = .ok (.ldc2_w 172, 3) := by decide +kernel
theorem dX5_plan_11 : decode cX5_plan 11 = .ok (.invokestatic 69, 3) := by decide +kernel
theorem dX5_plan_14 : decode cX5_plan 14 = .ok (.ifCond .eq 13, 3) := by decide +kernel
theorem dX5_plan_17 : decode cX5_plan 17 = .ok (.iload_n 2, 1) := by decide +kernel
theorem dX5_plan_18 : decode cX5_plan 18 = .ok (.i2l, 1) := by decide +kernel
theorem dX5_plan_19 : decode cX5_plan 19 = .ok (.lconst 0, 1) := by decide +kernel
theorem dX5_plan_20 : decode cX5_plan 20 = .ok (.lconst 1, 1) := by decide +kernel
theorem dX5_plan_21 : decode cX5_plan 21 = .ok (.invokestatic 69, 3) := by decide +kernel
theorem dX5_plan_24 : decode cX5_plan 24 = .ok (.ifCond .ne 6, 3) := by decide +kernel
theorem dX5_plan_27 : decode cX5_plan 27 = .ok (.bipush (-2), 2) := by decide +kernel
theorem dX5_plan_29 : decode cX5_plan 29 = .ok (.ireturn, 1) := by decide +kernel
theorem dX5_plan_30 : decode cX5_plan 30 = .ok (.bipush (-9), 2) := by decide +kernel
theorem dX5_plan_32 : decode cX5_plan 32 = .ok (.istore_n 3, 1) := by decide +kernel
theorem dX5_plan_33 : decode cX5_plan 33 = .ok (.iconst 0, 1) := by decide +kernel
theorem dX5_plan_34 : decode cX5_plan 34 = .ok (.istore 4, 2) := by decide +kernel
theorem dX5_plan_36 : decode cX5_plan 36 = .ok (.iconst 0, 1) := by decide +kernel
theorem dX5_plan_37 : decode cX5_plan 37 = .ok (.istore 5, 2) := by decide +kernel
theorem dX5_plan_39 : decode cX5_plan 39 = .ok (.iconst 0, 1) := by decide +kernel
theorem dX5_plan_40 : decode cX5_plan 40 = .ok (.istore 6, 2) := by decide +kernel
theorem dX5_plan_42 : decode cX5_plan 42 = .ok (.iload 6, 2) := by decide +kernel
theorem dX5_plan_44 : decode cX5_plan 44 = .ok (.bipush 16, 2) := by decide +kernel
theorem dX5_plan_46 : decode cX5_plan 46 = .ok (.if_icmp .gt 178, 3) := by decide +kernel
theorem dX5_plan_49 : decode cX5_plan 49 = .ok (.aload_n 0, 1) := by decide +kernel
theorem dX5_plan_50 : decode cX5_plan 50 = .ok (.getfield 28, 3) := by decide +kernel
theorem dX5_plan_53 : decode cX5_plan 53 = .ok (.aload_n 0, 1) := by decide +kernel
theorem dX5_plan_54 : decode cX5_plan 54 = .ok (.getfield 41, 3) := by decide +kernel
theorem dX5_plan_57 : decode cX5_plan 57 = .ok (.invokestatic 159, 3) := by decide +kernel
theorem dX5_plan_60 : decode cX5_plan 60 = .ok (.aload_n 0, 1) := by decide +kernel
theorem dX5_plan_61 : decode cX5_plan 61 = .ok (.aload_n 0, 1) := by decide +kernel
theorem dX5_plan_62 : decode cX5_plan 62 = .ok (.getfield 41, 3) := by decide +kernel
theorem dX5_plan_65 : decode cX5_plan 65 = .ok (.iload 6, 2) := by decide +kernel
theorem dX5_plan_67 : decode cX5_plan 67 = .ok (.invokevirtual 174, 3) := by decide +kernel
theorem dX5_plan_70 : decode cX5_plan 70 = .ok (.istore 7, 2) := by decide +kernel
theorem dX5_plan_72 : decode cX5_plan 72 = .ok (.aload_n 0, 1) := by decide +kernel
theorem dX5_plan_73 : decode cX5_plan 73 = .ok (.aload_n 0, 1) := by decide +kernel
theorem dX5_plan_74 : decode cX5_plan 74 = .ok (.getfield 41, 3) := by decide +kernel
theorem dX5_plan_77 : decode cX5_plan 77 = .ok (.bipush (-9), 2) := by decide +kernel
theorem dX5_plan_79 : decode cX5_plan 79 = .ok (.invokevirtual 136, 3) := by decide +kernel
theorem dX5_plan_82 : decode cX5_plan 82 = .ok (.pop, 1) := by decide +kernel
theorem dX5_plan_83 : decode cX5_plan 83 = .ok (.iconst 0, 1) := by decide +kernel
theorem dX5_plan_84 : decode cX5_plan 84 = .ok (.istore 8, 2) := by decide +kernel
theorem dX5_plan_86 : decode cX5_plan 86 = .ok (.iload 8, 2) := by decide +kernel
theorem dX5_plan_88 : decode cX5_plan 88 = .ok (.iload_n 1, 1) := by decide +kernel
theorem dX5_plan_89 : decode cX5_plan 89 = .ok (.iconst 2, 1) := by decide +kernel
theorem dX5_plan_90 : decode cX5_plan 90 = .ok (.if_icmp .ne 8, 3) := by decide +kernel
theorem dX5_plan_93 : decode cX5_plan 93 = .ok (.bipush 16, 2) := by decide +kernel
theorem dX5_plan_95 : decode cX5_plan 95 = .ok (.goto 4, 3) := by decide +kernel
theorem dX5_plan_98 : decode cX5_plan 98 = .ok (.iconst 0, 1) := by decide +kernel
theorem dX5_plan_99 : decode cX5_plan 99 = .ok (.if_icmp .gt 119, 3) := by decide +kernel
theorem dX5_plan_102 : decode cX5_plan 102 = .ok (.iload 7, 2) := by decide +kernel
theorem dX5_plan_104 : decode cX5_plan 104 = .ok (.ifCond .eq 114, 3) := by decide +kernel
theorem dX5_plan_107 : decode cX5_plan 107 = .ok (.aload_n 0, 1) := by decide +kernel
theorem dX5_plan_108 : decode cX5_plan 108 = .ok (.getfield 41, 3) := by decide +kernel
theorem dX5_plan_111 : decode cX5_plan 111 = .ok (.aload_n 0, 1) := by decide +kernel
theorem dX5_plan_112 : decode cX5_plan 112 = .ok (.getfield 44, 3) := by decide +kernel
theorem dX5_plan_115 : decode cX5_plan 115 = .ok (.invokestatic 159, 3) := by decide +kernel
theorem dX5_plan_118 : decode cX5_plan 118 = .ok (.aload_n 0, 1) := by decide +kernel
theorem dX5_plan_119 : decode cX5_plan 119 = .ok (.aload_n 0, 1) := by decide +kernel
theorem dX5_plan_120 : decode cX5_plan 120 = .ok (.getfield 44, 3) := by decide +kernel
theorem dX5_plan_123 : decode cX5_plan 123 = .ok (.iload 8, 2) := by decide +kernel
theorem dX5_plan_125 : decode cX5_plan 125 = .ok (.invokevirtual 174, 3) := by decide +kernel
theorem dX5_plan_128 : decode cX5_plan 128 = .ok (.ifCond .eq 84, 3) := by decide +kernel
theorem dX5_plan_131 : decode cX5_plan 131 = .ok (.aload_n 0, 1) := by decide +kernel
theorem dX5_plan_132 : decode cX5_plan 132 = .ok (.aload_n 0, 1) := by decide +kernel
theorem dX5_plan_133 : decode cX5_plan 133 = .ok (.getfield 44, 3) := by decide +kernel
theorem dX5_plan_136 : decode cX5_plan 136 = .ok (.iload_n 1, 1) := by decide +kernel
theorem dX5_plan_137 : decode cX5_plan 137 = .ok (.iconst 2, 1) := by decide +kernel
theorem dX5_plan_138 : decode cX5_plan 138 = .ok (.iadd, 1) := by decide +kernel
theorem dX5_plan_139 : decode cX5_plan 139 = .ok (.invokevirtual 168, 3) := by decide +kernel
theorem dX5_plan_142 : decode cX5_plan 142 = .ok (.aload_n 0, 1) := by decide +kernel
theorem dX5_plan_143 : decode cX5_plan 143 = .ok (.getfield 44, 3) := by decide +kernel
theorem dX5_plan_146 : decode cX5_plan 146 = .ok (.invokestatic 106, 3) := by decide +kernel
theorem dX5_plan_149 : decode cX5_plan 149 = .ok (.aload_n 0, 1) := by decide +kernel
theorem dX5_plan_150 : decode cX5_plan 150 = .ok (.getfield 110, 3) := by decide +kernel
theorem dX5_plan_153 : decode cX5_plan 153 = .ok (.iand, 1) := by decide +kernel
theorem dX5_plan_154 : decode cX5_plan 154 = .ok (.invokestatic 178, 3) := by decide +kernel
theorem dX5_plan_157 : decode cX5_plan 157 = .ok (.istore 9, 2) := by decide +kernel
theorem dX5_plan_159 : decode cX5_plan 159 = .ok (.iload 6, 2) := by decide +kernel
theorem dX5_plan_161 : decode cX5_plan 161 = .ok (.ifCond .le 7, 3) := by decide +kernel
theorem dX5_plan_164 : decode cX5_plan 164 = .ok (.iconst 1, 1) := by decide +kernel
theorem dX5_plan_165 : decode cX5_plan 165 = .ok (.goto 4, 3) := by decide +kernel
theorem dX5_plan_168 : decode cX5_plan 168 = .ok (.iconst 0, 1) := by decide +kernel
theorem dX5_plan_169 : decode cX5_plan 169 = .ok (.iload 8, 2) := by decide +kernel
theorem dX5_plan_171 : decode cX5_plan 171 = .ok (.ifCond .le 7, 3) := by decide +kernel
theorem dX5_plan_174 : decode cX5_plan 174 = .ok (.iconst 1, 1) := by decide +kernel
theorem dX5_plan_175 : decode cX5_plan 175 = .ok (.goto 4, 3) := by decide +kernel
theorem dX5_plan_178 : decode cX5_plan 178 = .ok (.iconst 0, 1) := by decide +kernel
theorem dX5_plan_179 : decode cX5_plan 179 = .ok (.iadd, 1) := by decide +kernel
theorem dX5_plan_180 : decode cX5_plan 180 = .ok (.istore 10, 2) := by decide +kernel
theorem dX5_plan_182 : decode cX5_plan 182 = .ok (.iload 9, 2) := by decide +kernel
theorem dX5_plan_184 : decode cX5_plan 184 = .ok (.iload_n 3, 1) := by decide +kernel
theorem dX5_plan_185 : decode cX5_plan 185 = .ok (.if_icmp .gt 16, 3) := by decide +kernel
theorem dX5_plan_188 : decode cX5_plan 188 = .ok (.iload 9, 2) := by decide +kernel
theorem dX5_plan_190 : decode cX5_plan 190 = .ok (.iload_n 3, 1) := by decide +kernel
theorem dX5_plan_191 : decode cX5_plan 191 = .ok (.if_icmp .ne 21, 3) := by decide +kernel
theorem dX5_plan_194 : decode cX5_plan 194 = .ok (.iload 10, 2) := by decide +kernel
theorem dX5_plan_196 : decode cX5_plan 196 = .ok (.iload 4, 2) := by decide +kernel
theorem dX5_plan_198 : decode cX5_plan 198 = .ok (.if_icmp .ge 14, 3) := by decide +kernel
theorem dX5_plan_201 : decode cX5_plan 201 = .ok (.iload 9, 2) := by decide +kernel
theorem dX5_plan_203 : decode cX5_plan 203 = .ok (.istore_n 3, 1) := by decide +kernel
theorem dX5_plan_204 : decode cX5_plan 204 = .ok (.iload 10, 2) := by decide +kernel
theorem dX5_plan_206 : decode cX5_plan 206 = .ok (.istore 4, 2) := by decide +kernel
theorem dX5_plan_208 : decode cX5_plan 208 = .ok (.iload 6, 2) := by decide +kernel
theorem dX5_plan_210 : decode cX5_plan 210 = .ok (.istore 5, 2) := by decide +kernel
theorem dX5_plan_212 : decode cX5_plan 212 = .ok (.iinc 8 1, 3) := by decide +kernel
theorem dX5_plan_215 : decode cX5_plan 215 = .ok (.goto (-129), 3) := by decide +kernel
theorem dX5_plan_218 : decode cX5_plan 218 = .ok (.iinc 6 1, 3) := by decide +kernel
theorem dX5_plan_221 : decode cX5_plan 221 = .ok (.goto (-179), 3) := by decide +kernel
theorem dX5_plan_224 : decode cX5_plan 224 = .ok (.iload_n 2, 1) := by decide +kernel
theorem dX5_plan_225 : decode cX5_plan 225 = .ok (.ifCond .ne 7, 3) := by decide +kernel
theorem dX5_plan_228 : decode cX5_plan 228 = .ok (.iload_n 3, 1) := by decide +kernel
theorem dX5_plan_229 : decode cX5_plan 229 = .ok (.goto 5, 3) := by decide +kernel
theorem dX5_plan_232 : decode cX5_plan 232 = .ok (.iload 5, 2) := by decide +kernel
theorem dX5_plan_234 : decode cX5_plan 234 = .ok (.ireturn, 1) := by decide +kernel
theorem dX5_hadBy_0 : decode cX5_hadBy 0 = .ok (.aload_n 0, 1) := by decide +kernel
theorem dX5_hadBy_1 : decode cX5_hadBy 1 = .ok (.getfield 28, 3) := by decide +kernel
theorem dX5_hadBy_4 : decode cX5_hadBy 4 = .ok (.aload_n 0, 1) := by decide +kernel
theorem dX5_hadBy_5 : decode cX5_hadBy 5 = .ok (.getfield 47, 3) := by decide +kernel
theorem dX5_hadBy_8 : decode cX5_hadBy 8 = .ok (.invokestatic 159, 3) := by decide +kernel
theorem dX5_hadBy_11 : decode cX5_hadBy 11 = .ok (.aload_n 0, 1) := by decide +kernel
theorem dX5_hadBy_12 : decode cX5_hadBy 12 = .ok (.getfield 47, 3) := by decide +kernel
theorem dX5_hadBy_15 : decode cX5_hadBy 15 = .ok (.bipush 49, 2) := by decide +kernel
theorem dX5_hadBy_17 : decode cX5_hadBy 17 = .ok (.iload_n 1, 1) := by decide +kernel
theorem dX5_hadBy_18 : decode cX5_hadBy 18 = .ok (.iastore, 1) := by decide +kernel
theorem dX5_hadBy_19 : decode cX5_hadBy 19 = .ok (.aload_n 0, 1) := by decide +kernel
theorem dX5_hadBy_20 : decode cX5_hadBy 20 = .ok (.aload_n 0, 1) := by decide +kernel
theorem dX5_hadBy_21 : decode cX5_hadBy 21 = .ok (.getfield 47, 3) := by decide +kernel
theorem dX5_hadBy_24 : decode cX5_hadBy 24 = .ok (.iload_n 2, 1) := by decide +kernel
theorem dX5_hadBy_25 : decode cX5_hadBy 25 = .ok (.invokevirtual 168, 3) := by decide +kernel
theorem dX5_hadBy_28 : decode cX5_hadBy 28 = .ok (.aload_n 0, 1) := by decide +kernel
theorem dX5_hadBy_29 : decode cX5_hadBy 29 = .ok (.getfield 47, 3) := by decide +kernel
theorem dX5_hadBy_32 : decode cX5_hadBy 32 = .ok (.invokestatic 106, 3) := by decide +kernel
theorem dX5_hadBy_35 : decode cX5_hadBy 35 = .ok (.aload_n 0, 1) := by decide +kernel
theorem dX5_hadBy_36 : decode cX5_hadBy 36 = .ok (.getfield 110, 3) := by decide +kernel
theorem dX5_hadBy_39 : decode cX5_hadBy 39 = .ok (.iand, 1) := by decide +kernel
theorem dX5_hadBy_40 : decode cX5_hadBy 40 = .ok (.invokestatic 178, 3) := by decide +kernel
theorem dX5_hadBy_43 : decode cX5_hadBy 43 = .ok (.ireturn, 1) := by decide +kernel
theorem dX5_bestLid_0 : decode cX5_bestLid 0 = .ok (.aload_n 0, 1) := by decide +kernel
theorem dX5_bestLid_1 : decode cX5_bestLid 1 = .ok (.iconst 0, 1) := by decide +kernel
theorem dX5_bestLid_2 : decode cX5_bestLid 2 = .ok (.putfield 62, 3) := by decide +kernel
theorem dX5_bestLid_5 : decode cX5_bestLid 5 = .ok (.iload_n 1, 1) := by decide +kernel
theorem dX5_bestLid_6 : decode cX5_bestLid 6 = .ok (.i2l, 1) := by decide +kernel
theorem dX5_bestLid_7 : decode cX5_bestLid 7 = .ok (.lconst 1, 1) := by decide +kernel
theorem dX5_bestLid_8 : decode cX5_bestLid 8 = .ok (.ldc2_w 143, 3) := by decide +kernel
theorem dX5_bestLid_11 : decode cX5_bestLid 11 = .ok (.invokestatic 69, 3) := by decide +kernel
theorem dX5_bestLid_14 : decode cX5_bestLid 14 = .ok (.ifCond .ne 6, 3) := by decide +kernel
theorem dX5_bestLid_17 : decode cX5_bestLid 17 = .ok (.bipush (-2), 2) := by decide +kernel
theorem dX5_bestLid_19 : decode cX5_bestLid 19 = .ok (.ireturn, 1) := by decide +kernel
theorem dX5_bestLid_20 : decode cX5_bestLid 20 = .ok (.bipush (-9), 2) := by decide +kernel
theorem dX5_bestLid_22 : decode cX5_bestLid 22 = .ok (.istore_n 2, 1) := by decide +kernel
theorem dX5_bestLid_23 : decode cX5_bestLid 23 = .ok (.aload_n 0, 1) := by decide +kernel
theorem dX5_bestLid_24 : decode cX5_bestLid 24 = .ok (.aload_n 0, 1) := by decide +kernel
theorem dX5_bestLid_25 : decode cX5_bestLid 25 = .ok (.getfield 28, 3) := by decide +kernel
theorem dX5_bestLid_28 : decode cX5_bestLid 28 = .ok (.bipush 49, 2) := by decide +kernel
theorem dX5_bestLid_30 : decode cX5_bestLid 30 = .ok (.iaload, 1) := by decide +kernel
theorem dX5_bestLid_31 : decode cX5_bestLid 31 = .ok (.iload_n 1, 1) := by decide +kernel
theorem dX5_bestLid_32 : decode cX5_bestLid 32 = .ok (.invokevirtual 182, 3) := by decide +kernel
theorem dX5_bestLid_35 : decode cX5_bestLid 35 = .ok (.istore_n 3, 1) := by decide +kernel
theorem dX5_bestLid_36 : decode cX5_bestLid 36 = .ok (.iconst 0, 1) := by decide +kernel
theorem dX5_bestLid_37 : decode cX5_bestLid 37 = .ok (.istore 4, 2) := by decide +kernel
theorem dX5_bestLid_39 : decode cX5_bestLid 39 = .ok (.iload 4, 2) := by decide +kernel
theorem dX5_bestLid_41 : decode cX5_bestLid 41 = .ok (.aload_n 0, 1) := by decide +kernel
theorem dX5_bestLid_42 : decode cX5_bestLid 42 = .ok (.getfield 66, 3) := by decide +kernel
theorem dX5_bestLid_45 : decode cX5_bestLid 45 = .ok (.if_icmp .ge 73, 3) := by decide +kernel
theorem dX5_bestLid_48 : decode cX5_bestLid 48 = .ok (.aload_n 0, 1) := by decide +kernel
theorem dX5_bestLid_49 : decode cX5_bestLid 49 = .ok (.getfield 28, 3) := by decide +kernel
theorem dX5_bestLid_52 : decode cX5_bestLid 52 = .ok (.bipush 49, 2) := by decide +kernel
theorem dX5_bestLid_54 : decode cX5_bestLid 54 = .ok (.iaload, 1) := by decide +kernel
theorem dX5_bestLid_55 : decode cX5_bestLid 55 = .ok (.iload 4, 2) := by decide +kernel
theorem dX5_bestLid_57 : decode cX5_bestLid 57 = .ok (.invokestatic 125, 3) := by decide +kernel
theorem dX5_bestLid_60 : decode cX5_bestLid 60 = .ok (.ifCond .eq 7, 3) := by decide +kernel
theorem dX5_bestLid_63 : decode cX5_bestLid 63 = .ok (.iconst 0, 1) := by decide +kernel
theorem dX5_bestLid_64 : decode cX5_bestLid 64 = .ok (.goto 20, 3) := by decide +kernel
theorem dX5_bestLid_67 : decode cX5_bestLid 67 = .ok (.aload_n 0, 1) := by decide +kernel
theorem dX5_bestLid_68 : decode cX5_bestLid 68 = .ok (.aload_n 0, 1) := by decide +kernel
theorem dX5_bestLid_69 : decode cX5_bestLid 69 = .ok (.getfield 28, 3) := by decide +kernel
theorem dX5_bestLid_72 : decode cX5_bestLid 72 = .ok (.bipush 49, 2) := by decide +kernel
theorem dX5_bestLid_74 : decode cX5_bestLid 74 = .ok (.iaload, 1) := by decide +kernel
theorem dX5_bestLid_75 : decode cX5_bestLid 75 = .ok (.iconst 1, 1) := by decide +kernel
theorem dX5_bestLid_76 : decode cX5_bestLid 76 = .ok (.iload 4, 2) := by decide +kernel
theorem dX5_bestLid_78 : decode cX5_bestLid 78 = .ok (.ishl, 1) := by decide +kernel
theorem dX5_bestLid_79 : decode cX5_bestLid 79 = .ok (.ior, 1) := by decide +kernel
theorem dX5_bestLid_80 : decode cX5_bestLid 80 = .ok (.iload_n 1, 1) := by decide +kernel
theorem dX5_bestLid_81 : decode cX5_bestLid 81 = .ok (.invokevirtual 182, 3) := by decide +kernel
theorem dX5_bestLid_84 : decode cX5_bestLid 84 = .ok (.istore 5, 2) := by decide +kernel
theorem dX5_bestLid_86 : decode cX5_bestLid 86 = .ok (.iload 5, 2) := by decide +kernel
theorem dX5_bestLid_88 : decode cX5_bestLid 88 = .ok (.iload_n 3, 1) := by decide +kernel
theorem dX5_bestLid_89 : decode cX5_bestLid 89 = .ok (.if_icmp .le 8, 3) := by decide +kernel
theorem dX5_bestLid_92 : decode cX5_bestLid 92 = .ok (.iload 4, 2) := by decide +kernel
theorem dX5_bestLid_94 : decode cX5_bestLid 94 = .ok (.goto 4, 3) := by decide +kernel
theorem dX5_bestLid_97 : decode cX5_bestLid 97 = .ok (.iload_n 2, 1) := by decide +kernel
theorem dX5_bestLid_98 : decode cX5_bestLid 98 = .ok (.istore_n 2, 1) := by decide +kernel
theorem dX5_bestLid_99 : decode cX5_bestLid 99 = .ok (.iload 5, 2) := by decide +kernel
theorem dX5_bestLid_101 : decode cX5_bestLid 101 = .ok (.iload_n 3, 1) := by decide +kernel
theorem dX5_bestLid_102 : decode cX5_bestLid 102 = .ok (.if_icmp .le 8, 3) := by decide +kernel
theorem dX5_bestLid_105 : decode cX5_bestLid 105 = .ok (.iload 5, 2) := by decide +kernel
theorem dX5_bestLid_107 : decode cX5_bestLid 107 = .ok (.goto 4, 3) := by decide +kernel
theorem dX5_bestLid_110 : decode cX5_bestLid 110 = .ok (.iload_n 3, 1) := by decide +kernel
theorem dX5_bestLid_111 : decode cX5_bestLid 111 = .ok (.istore_n 3, 1) := by decide +kernel
theorem dX5_bestLid_112 : decode cX5_bestLid 112 = .ok (.iinc 4 1, 3) := by decide +kernel
theorem dX5_bestLid_115 : decode cX5_bestLid 115 = .ok (.goto (-76), 3) := by decide +kernel
theorem dX5_bestLid_118 : decode cX5_bestLid 118 = .ok (.iload_n 2, 1) := by decide +kernel
theorem dX5_bestLid_119 : decode cX5_bestLid 119 = .ok (.ireturn, 1) := by decide +kernel
theorem dX5_lamps_0 : decode cX5_lamps 0 = .ok (.aload_n 0, 1) := by decide +kernel
theorem dX5_lamps_1 : decode cX5_lamps 1 = .ok (.iconst 0, 1) := by decide +kernel
theorem dX5_lamps_2 : decode cX5_lamps 2 = .ok (.putfield 62, 3) := by decide +kernel
theorem dX5_lamps_5 : decode cX5_lamps 5 = .ok (.iconst 0, 1) := by decide +kernel
theorem dX5_lamps_6 : decode cX5_lamps 6 = .ok (.istore_n 1, 1) := by decide +kernel
theorem dX5_lamps_7 : decode cX5_lamps 7 = .ok (.iload_n 1, 1) := by decide +kernel
theorem dX5_lamps_8 : decode cX5_lamps 8 = .ok (.bipush 64, 2) := by decide +kernel
theorem dX5_lamps_10 : decode cX5_lamps 10 = .ok (.if_icmp .ge 25, 3) := by decide +kernel
theorem dX5_lamps_13 : decode cX5_lamps 13 = .ok (.aload_n 0, 1) := by decide +kernel
theorem dX5_lamps_14 : decode cX5_lamps 14 = .ok (.getfield 53, 3) := by decide +kernel
theorem dX5_lamps_17 : decode cX5_lamps 17 = .ok (.iload_n 1, 1) := by decide +kernel
theorem dX5_lamps_18 : decode cX5_lamps 18 = .ok (.iload_n 1, 1) := by decide +kernel
theorem dX5_lamps_19 : decode cX5_lamps 19 = .ok (.ifCond .ne 7, 3) := by decide +kernel
theorem dX5_lamps_22 : decode cX5_lamps 22 = .ok (.iconst 0, 1) := by decide +kernel
theorem dX5_lamps_23 : decode cX5_lamps 23 = .ok (.goto 5, 3) := by decide +kernel
theorem dX5_lamps_26 : decode cX5_lamps 26 = .ok (.bipush 99, 2) := by decide +kernel
theorem dX5_lamps_28 : decode cX5_lamps 28 = .ok (.iastore, 1) := by decide +kernel
theorem dX5_lamps_29 : decode cX5_lamps 29 = .ok (.iinc 1 1, 3) := by decide +kernel
theorem dX5_lamps_32 : decode cX5_lamps 32 = .ok (.goto (-25), 3) := by decide +kernel
theorem dX5_lamps_35 : decode cX5_lamps 35 = .ok (.iconst 0, 1) := by decide +kernel
theorem dX5_lamps_36 : decode cX5_lamps 36 = .ok (.istore_n 1, 1) := by decide +kernel
theorem dX5_lamps_37 : decode cX5_lamps 37 = .ok (.iload_n 1, 1) := by decide +kernel
theorem dX5_lamps_38 : decode cX5_lamps 38 = .ok (.bipush 6, 2) := by decide +kernel
theorem dX5_lamps_40 : decode cX5_lamps 40 = .ok (.if_icmp .ge 162, 3) := by decide +kernel
theorem dX5_lamps_43 : decode cX5_lamps 43 = .ok (.iconst 0, 1) := by decide +kernel
theorem dX5_lamps_44 : decode cX5_lamps 44 = .ok (.istore_n 2, 1) := by decide +kernel
theorem dX5_lamps_45 : decode cX5_lamps 45 = .ok (.iload_n 2, 1) := by decide +kernel
theorem dX5_lamps_46 : decode cX5_lamps 46 = .ok (.bipush 10, 2) := by decide +kernel
theorem dX5_lamps_48 : decode cX5_lamps 48 = .ok (.aload_n 0, 1) := by decide +kernel
theorem dX5_lamps_49 : decode cX5_lamps 49 = .ok (.getfield 66, 3) := by decide +kernel
theorem dX5_lamps_52 : decode cX5_lamps 52 = .ok (.imul, 1) := by decide +kernel
theorem dX5_lamps_53 : decode cX5_lamps 53 = .ok (.if_icmp .ge 143, 3) := by decide +kernel
theorem dX5_lamps_56 : decode cX5_lamps 56 = .ok (.iconst 0, 1) := by decide +kernel
theorem dX5_lamps_57 : decode cX5_lamps 57 = .ok (.istore_n 3, 1) := by decide +kernel
theorem dX5_lamps_58 : decode cX5_lamps 58 = .ok (.aload_n 0, 1) := by decide +kernel
theorem dX5_lamps_59 : decode cX5_lamps 59 = .ok (.iload_n 2, 1) := by decide +kernel
theorem dX5_lamps_60 : decode cX5_lamps 60 = .ok (.bipush 10, 2) := by decide +kernel
theorem dX5_lamps_62 : decode cX5_lamps 62 = .ok (.idiv, 1) := by decide +kernel
theorem dX5_lamps_63 : decode cX5_lamps 63 = .ok (.iload_n 2, 1) := by decide +kernel
theorem dX5_lamps_64 : decode cX5_lamps 64 = .ok (.bipush 10, 2) := by decide +kernel
theorem dX5_lamps_66 : decode cX5_lamps 66 = .ok (.irem, 1) := by decide +kernel
theorem dX5_lamps_67 : decode cX5_lamps 67 = .ok (.iconst 0, 1) := by decide +kernel
theorem dX5_lamps_68 : decode cX5_lamps 68 = .ok (.invokevirtual 155, 3) := by decide +kernel
theorem dX5_lamps_71 : decode cX5_lamps 71 = .ok (.istore 4, 2) := by decide +kernel
theorem dX5_lamps_73 : decode cX5_lamps 73 = .ok (.iconst 0, 1) := by decide +kernel
theorem dX5_lamps_74 : decode cX5_lamps 74 = .ok (.istore 5, 2) := by decide +kernel
theorem dX5_lamps_76 : decode cX5_lamps 76 = .ok (.iload 5, 2) := by decide +kernel
theorem dX5_lamps_78 : decode cX5_lamps 78 = .ok (.aload_n 0, 1) := by decide +kernel
theorem dX5_lamps_79 : decode cX5_lamps 79 = .ok (.getfield 28, 3) := by decide +kernel
theorem dX5_lamps_82 : decode cX5_lamps 82 = .ok (.bipush 48, 2) := by decide +kernel
theorem dX5_lamps_84 : decode cX5_lamps 84 = .ok (.iaload, 1) := by decide +kernel
theorem dX5_lamps_85 : decode cX5_lamps 85 = .ok (.if_icmp .ge 38, 3) := by decide +kernel
theorem dX5_lamps_88 : decode cX5_lamps 88 = .ok (.iload_n 3, 1) := by decide +kernel
theorem dX5_lamps_89 : decode cX5_lamps 89 = .ok (.iload 4, 2) := by decide +kernel
theorem dX5_lamps_91 : decode cX5_lamps 91 = .ok (.iload 5, 2) := by decide +kernel
theorem dX5_lamps_93 : decode cX5_lamps 93 = .ok (.invokestatic 125, 3) := by decide +kernel
theorem dX5_lamps_96 : decode cX5_lamps 96 = .ok (.ifCond .eq 18, 3) := by decide +kernel
theorem dX5_lamps_99 : decode cX5_lamps 99 = .ok (.iconst 1, 1) := by decide +kernel
theorem dX5_lamps_100 : decode cX5_lamps 100 = .ok (.aload_n 0, 1) := by decide +kernel
theorem dX5_lamps_101 : decode cX5_lamps 101 = .ok (.getfield 28, 3) := by decide +kernel
theorem dX5_lamps_104 : decode cX5_lamps 104 = .ok (.bipush 6, 2) := by decide +kernel
theorem dX5_lamps_106 : decode cX5_lamps 106 = .ok (.iload 5, 2) := by decide +kernel
theorem dX5_lamps_108 : decode cX5_lamps 108 = .ok (.imul, 1) := by decide +kernel
theorem dX5_lamps_109 : decode cX5_lamps 109 = .ok (.iaload, 1) := by decide +kernel
theorem dX5_lamps_110 : decode cX5_lamps 110 = .ok (.ishl, 1) := by decide +kernel
theorem dX5_lamps_111 : decode cX5_lamps 111 = .ok (.goto 4, 3) := by decide +kernel
theorem dX5_lamps_114 : decode cX5_lamps 114 = .ok (.iconst 0, 1) := by decide +kernel
theorem dX5_lamps_115 : decode cX5_lamps 115 = .ok (.ior, 1) := by decide +kernel
theorem dX5_lamps_116 : decode cX5_lamps 116 = .ok (.istore_n 3, 1) := by decide +kernel
theorem dX5_lamps_117 : decode cX5_lamps 117 = .ok (.iinc 5 1, 3) := by decide +kernel
theorem dX5_lamps_120 : decode cX5_lamps 120 = .ok (.goto (-44), 3) := by decide +kernel
theorem dX5_lamps_123 : decode cX5_lamps 123 = .ok (.iconst 0, 1) := by decide +kernel
theorem dX5_lamps_124 : decode cX5_lamps 124 = .ok (.istore 5, 2) := by decide +kernel
theorem dX5_lamps_126 : decode cX5_lamps 126 = .ok (.iload 5, 2) := by decide +kernel
theorem dX5_lamps_128 : decode cX5_lamps 128 = .ok (.bipush 64, 2) := by decide +kernel
theorem dX5_lamps_130 : decode cX5_lamps 130 = .ok (.if_icmp .ge 60, 3) := by decide +kernel
theorem dX5_lamps_133 : decode cX5_lamps 133 = .ok (.iload 5, 2) := by decide +kernel
theorem dX5_lamps_135 : decode cX5_lamps 135 = .ok (.iload_n 3, 1) := by decide +kernel
theorem dX5_lamps_136 : decode cX5_lamps 136 = .ok (.ior, 1) := by decide +kernel
theorem dX5_lamps_137 : decode cX5_lamps 137 = .ok (.istore 6, 2) := by decide +kernel
theorem dX5_lamps_139 : decode cX5_lamps 139 = .ok (.aload_n 0, 1) := by decide +kernel
theorem dX5_lamps_140 : decode cX5_lamps 140 = .ok (.getfield 53, 3) := by decide +kernel
theorem dX5_lamps_143 : decode cX5_lamps 143 = .ok (.iload 6, 2) := by decide +kernel
theorem dX5_lamps_145 : decode cX5_lamps 145 = .ok (.aload_n 0, 1) := by decide +kernel
theorem dX5_lamps_146 : decode cX5_lamps 146 = .ok (.getfield 53, 3) := by decide +kernel
theorem dX5_lamps_149 : decode cX5_lamps 149 = .ok (.iload 5, 2) := by decide +kernel
theorem dX5_lamps_151 : decode cX5_lamps 151 = .ok (.iaload, 1) := by decide +kernel
theorem dX5_lamps_152 : decode cX5_lamps 152 = .ok (.iconst 1, 1) := by decide +kernel
theorem dX5_lamps_153 : decode cX5_lamps 153 = .ok (.iadd, 1) := by decide +kernel
theorem dX5_lamps_154 : decode cX5_lamps 154 = .ok (.aload_n 0, 1) := by decide +kernel
theorem dX5_lamps_155 : decode cX5_lamps 155 = .ok (.getfield 53, 3) := by decide +kernel
theorem dX5_lamps_158 : decode cX5_lamps 158 = .ok (.iload 6, 2) := by decide +kernel
theorem dX5_lamps_160 : decode cX5_lamps 160 = .ok (.iaload, 1) := by decide +kernel
theorem dX5_lamps_161 : decode cX5_lamps 161 = .ok (.if_icmp .ge 15, 3) := by decide +kernel
theorem dX5_lamps_164 : decode cX5_lamps 164 = .ok (.aload_n 0, 1) := by decide +kernel
theorem dX5_lamps_165 : decode cX5_lamps 165 = .ok (.getfield 53, 3) := by decide +kernel
theorem dX5_lamps_168 : decode cX5_lamps 168 = .ok (.iload 5, 2) := by decide +kernel
theorem dX5_lamps_170 : decode cX5_lamps 170 = .ok (.iaload, 1) := by decide +kernel
theorem dX5_lamps_171 : decode cX5_lamps 171 = .ok (.iconst 1, 1) := by decide +kernel
theorem dX5_lamps_172 : decode cX5_lamps 172 = .ok (.iadd, 1) := by decide +kernel
theorem dX5_lamps_173 : decode cX5_lamps 173 = .ok (.goto 10, 3) := by decide +kernel
theorem dX5_lamps_176 : decode cX5_lamps 176 = .ok (.aload_n 0, 1) := by decide +kernel
theorem dX5_lamps_177 : decode cX5_lamps 177 = .ok (.getfield 53, 3) := by decide +kernel
theorem dX5_lamps_180 : decode cX5_lamps 180 = .ok (.iload 6, 2) := by decide +kernel
theorem dX5_lamps_182 : decode cX5_lamps 182 = .ok (.iaload, 1) := by decide +kernel
theorem dX5_lamps_183 : decode cX5_lamps 183 = .ok (.iastore, 1) := by decide +kernel
theorem dX5_lamps_184 : decode cX5_lamps 184 = .ok (.iinc 5 1, 3) := by decide +kernel
theorem dX5_lamps_187 : decode cX5_lamps 187 = .ok (.goto (-61), 3) := by decide +kernel
theorem dX5_lamps_190 : decode cX5_lamps 190 = .ok (.iinc 2 1, 3) := by decide +kernel
theorem dX5_lamps_193 : decode cX5_lamps 193 = .ok (.goto (-148), 3) := by decide +kernel
theorem dX5_lamps_196 : decode cX5_lamps 196 = .ok (.iinc 1 1, 3) := by decide +kernel
theorem dX5_lamps_199 : decode cX5_lamps 199 = .ok (.goto (-162), 3) := by decide +kernel
theorem dX5_lamps_202 : decode cX5_lamps 202 = .ok (.aload_n 0, 1) := by decide +kernel
theorem dX5_lamps_203 : decode cX5_lamps 203 = .ok (.getfield 53, 3) := by decide +kernel
theorem dX5_lamps_206 : decode cX5_lamps 206 = .ok (.aload_n 0, 1) := by decide +kernel
theorem dX5_lamps_207 : decode cX5_lamps 207 = .ok (.getfield 28, 3) := by decide +kernel
theorem dX5_lamps_210 : decode cX5_lamps 210 = .ok (.invokestatic 106, 3) := by decide +kernel
theorem dX5_lamps_213 : decode cX5_lamps 213 = .ok (.iaload, 1) := by decide +kernel
theorem dX5_lamps_214 : decode cX5_lamps 214 = .ok (.istore_n 1, 1) := by decide +kernel
theorem dX5_lamps_215 : decode cX5_lamps 215 = .ok (.iload_n 1, 1) := by decide +kernel
theorem dX5_lamps_216 : decode cX5_lamps 216 = .ok (.bipush 99, 2) := by decide +kernel
theorem dX5_lamps_218 : decode cX5_lamps 218 = .ok (.if_icmp .lt 8, 3) := by decide +kernel
theorem dX5_lamps_221 : decode cX5_lamps 221 = .ok (.bipush (-9), 2) := by decide +kernel
theorem dX5_lamps_223 : decode cX5_lamps 223 = .ok (.goto 4, 3) := by decide +kernel
theorem dX5_lamps_226 : decode cX5_lamps 226 = .ok (.iload_n 1, 1) := by decide +kernel
theorem dX5_lamps_227 : decode cX5_lamps 227 = .ok (.ireturn, 1) := by decide +kernel
theorem dX5_mostPitch_0 : decode cX5_mostPitch 0 = .ok (.aload_n 0, 1) := by decide +kernel
theorem dX5_mostPitch_1 : decode cX5_mostPitch 1 = .ok (.iconst 0, 1) := by decide +kernel
theorem dX5_mostPitch_2 : decode cX5_mostPitch 2 = .ok (.putfield 62, 3) := by decide +kernel
theorem dX5_mostPitch_5 : decode cX5_mostPitch 5 = .ok (.iload_n 1, 1) := by decide +kernel
theorem dX5_mostPitch_6 : decode cX5_mostPitch 6 = .ok (.invokestatic 163, 3) := by decide +kernel
theorem dX5_mostPitch_9 : decode cX5_mostPitch 9 = .ok (.ifCond .eq 6, 3) := by decide +kernel
theorem dX5_mostPitch_12 : decode cX5_mostPitch 12 = .ok (.bipush (-2), 2) := by decide +kernel
theorem dX5_mostPitch_14 : decode cX5_mostPitch 14 = .ok (.ireturn, 1) := by decide +kernel
theorem dX5_mostPitch_15 : decode cX5_mostPitch 15 = .ok (.bipush (-9), 2) := by decide +kernel
theorem dX5_mostPitch_17 : decode cX5_mostPitch 17 = .ok (.istore_n 2, 1) := by decide +kernel
theorem dX5_mostPitch_18 : decode cX5_mostPitch 18 = .ok (.iconst 0, 1) := by decide +kernel
theorem dX5_mostPitch_19 : decode cX5_mostPitch 19 = .ok (.istore_n 3, 1) := by decide +kernel
theorem dX5_mostPitch_20 : decode cX5_mostPitch 20 = .ok (.iconst 0, 1) := by decide +kernel
theorem dX5_mostPitch_21 : decode cX5_mostPitch 21 = .ok (.istore 4, 2) := by decide +kernel
theorem dX5_mostPitch_23 : decode cX5_mostPitch 23 = .ok (.iload 4, 2) := by decide +kernel
theorem dX5_mostPitch_25 : decode cX5_mostPitch 25 = .ok (.iconst 4, 1) := by decide +kernel
theorem dX5_mostPitch_26 : decode cX5_mostPitch 26 = .ok (.if_icmp .ge 111, 3) := by decide +kernel
theorem dX5_mostPitch_29 : decode cX5_mostPitch 29 = .ok (.iconst 0, 1) := by decide +kernel
theorem dX5_mostPitch_30 : decode cX5_mostPitch 30 = .ok (.istore 5, 2) := by decide +kernel
theorem dX5_mostPitch_32 : decode cX5_mostPitch 32 = .ok (.iconst 0, 1) := by decide +kernel
theorem dX5_mostPitch_33 : decode cX5_mostPitch 33 = .ok (.istore 6, 2) := by decide +kernel
theorem dX5_mostPitch_35 : decode cX5_mostPitch 35 = .ok (.iload 6, 2) := by decide +kernel
theorem dX5_mostPitch_37 : decode cX5_mostPitch 37 = .ok (.aload_n 0, 1) := by decide +kernel
theorem dX5_mostPitch_38 : decode cX5_mostPitch 38 = .ok (.getfield 28, 3) := by decide +kernel
theorem dX5_mostPitch_41 : decode cX5_mostPitch 41 = .ok (.bipush 48, 2) := by decide +kernel
theorem dX5_mostPitch_43 : decode cX5_mostPitch 43 = .ok (.iaload, 1) := by decide +kernel
theorem dX5_mostPitch_44 : decode cX5_mostPitch 44 = .ok (.if_icmp .ge 50, 3) := by decide +kernel
theorem dX5_mostPitch_47 : decode cX5_mostPitch 47 = .ok (.iload 5, 2) := by decide +kernel
theorem dX5_mostPitch_49 : decode cX5_mostPitch 49 = .ok (.aload_n 0, 1) := by decide +kernel
theorem dX5_mostPitch_50 : decode cX5_mostPitch 50 = .ok (.getfield 28, 3) := by decide +kernel
theorem dX5_mostPitch_53 : decode cX5_mostPitch 53 = .ok (.bipush 6, 2) := by decide +kernel
theorem dX5_mostPitch_55 : decode cX5_mostPitch 55 = .ok (.iload 6, 2) := by decide +kernel
theorem dX5_mostPitch_57 : decode cX5_mostPitch 57 = .ok (.imul, 1) := by decide +kernel
theorem dX5_mostPitch_58 : decode cX5_mostPitch 58 = .ok (.iaload, 1) := by decide +kernel
theorem dX5_mostPitch_59 : decode cX5_mostPitch 59 = .ok (.iload_n 1, 1) := by decide +kernel
theorem dX5_mostPitch_60 : decode cX5_mostPitch 60 = .ok (.if_icmp .ne 24, 3) := by decide +kernel
theorem dX5_mostPitch_63 : decode cX5_mostPitch 63 = .ok (.aload_n 0, 1) := by decide +kernel
theorem dX5_mostPitch_64 : decode cX5_mostPitch 64 = .ok (.getfield 28, 3) := by decide +kernel
theorem dX5_mostPitch_67 : decode cX5_mostPitch 67 = .ok (.bipush 6, 2) := by decide +kernel
theorem dX5_mostPitch_69 : decode cX5_mostPitch 69 = .ok (.iload 6, 2) := by decide +kernel
theorem dX5_mostPitch_71 : decode cX5_mostPitch 71 = .ok (.imul, 1) := by decide +kernel
theorem dX5_mostPitch_72 : decode cX5_mostPitch 72 = .ok (.iconst 3, 1) := by decide +kernel
theorem dX5_mostPitch_73 : decode cX5_mostPitch 73 = .ok (.iadd, 1) := by decide +kernel
theorem dX5_mostPitch_74 : decode cX5_mostPitch 74 = .ok (.iaload, 1) := by decide +kernel
theorem dX5_mostPitch_75 : decode cX5_mostPitch 75 = .ok (.iload 4, 2) := by decide +kernel
theorem dX5_mostPitch_77 : decode cX5_mostPitch 77 = .ok (.if_icmp .ne 7, 3) := by decide +kernel
theorem dX5_mostPitch_80 : decode cX5_mostPitch 80 = .ok (.iconst 1, 1) := by decide +kernel
theorem dX5_mostPitch_81 : decode cX5_mostPitch 81 = .ok (.goto 4, 3) := by decide +kernel
theorem dX5_mostPitch_84 : decode cX5_mostPitch 84 = .ok (.iconst 0, 1) := by decide +kernel
theorem dX5_mostPitch_85 : decode cX5_mostPitch 85 = .ok (.iadd, 1) := by decide +kernel
theorem dX5_mostPitch_86 : decode cX5_mostPitch 86 = .ok (.istore 5, 2) := by decide +kernel
theorem dX5_mostPitch_88 : decode cX5_mostPitch 88 = .ok (.iinc 6 1, 3) := by decide +kernel
theorem dX5_mostPitch_91 : decode cX5_mostPitch 91 = .ok (.goto (-56), 3) := by decide +kernel
theorem dX5_mostPitch_94 : decode cX5_mostPitch 94 = .ok (.iload 5, 2) := by decide +kernel
theorem dX5_mostPitch_96 : decode cX5_mostPitch 96 = .ok (.iload_n 3, 1) := by decide +kernel
theorem dX5_mostPitch_97 : decode cX5_mostPitch 97 = .ok (.if_icmp .le 8, 3) := by decide +kernel
theorem dX5_mostPitch_100 : decode cX5_mostPitch 100 = .ok (.iload 4, 2) := by decide +kernel
theorem dX5_mostPitch_102 : decode cX5_mostPitch 102 = .ok (.goto 15, 3) := by decide +kernel
theorem dX5_mostPitch_105 : decode cX5_mostPitch 105 = .ok (.iload 5, 2) := by decide +kernel
theorem dX5_mostPitch_107 : decode cX5_mostPitch 107 = .ok (.iload_n 3, 1) := by decide +kernel
theorem dX5_mostPitch_108 : decode cX5_mostPitch 108 = .ok (.if_icmp .ne 8, 3) := by decide +kernel
theorem dX5_mostPitch_111 : decode cX5_mostPitch 111 = .ok (.bipush (-9), 2) := by decide +kernel
theorem dX5_mostPitch_113 : decode cX5_mostPitch 113 = .ok (.goto 4, 3) := by decide +kernel
theorem dX5_mostPitch_116 : decode cX5_mostPitch 116 = .ok (.iload_n 2, 1) := by decide +kernel
theorem dX5_mostPitch_117 : decode cX5_mostPitch 117 = .ok (.istore_n 2, 1) := by decide +kernel
theorem dX5_mostPitch_118 : decode cX5_mostPitch 118 = .ok (.iload 5, 2) := by decide +kernel
theorem dX5_mostPitch_120 : decode cX5_mostPitch 120 = .ok (.iload_n 3, 1) := by decide +kernel
theorem dX5_mostPitch_121 : decode cX5_mostPitch 121 = .ok (.if_icmp .le 8, 3) := by decide +kernel
theorem dX5_mostPitch_124 : decode cX5_mostPitch 124 = .ok (.iload 5, 2) := by decide +kernel
theorem dX5_mostPitch_126 : decode cX5_mostPitch 126 = .ok (.goto 4, 3) := by decide +kernel
theorem dX5_mostPitch_129 : decode cX5_mostPitch 129 = .ok (.iload_n 3, 1) := by decide +kernel
theorem dX5_mostPitch_130 : decode cX5_mostPitch 130 = .ok (.istore_n 3, 1) := by decide +kernel
theorem dX5_mostPitch_131 : decode cX5_mostPitch 131 = .ok (.iinc 4 1, 3) := by decide +kernel
theorem dX5_mostPitch_134 : decode cX5_mostPitch 134 = .ok (.goto (-111), 3) := by decide +kernel
theorem dX5_mostPitch_137 : decode cX5_mostPitch 137 = .ok (.iload_n 3, 1) := by decide +kernel
theorem dX5_mostPitch_138 : decode cX5_mostPitch 138 = .ok (.ifCond .ne 8, 3) := by decide +kernel
theorem dX5_mostPitch_141 : decode cX5_mostPitch 141 = .ok (.bipush (-9), 2) := by decide +kernel
theorem dX5_mostPitch_143 : decode cX5_mostPitch 143 = .ok (.goto 4, 3) := by decide +kernel
theorem dX5_mostPitch_146 : decode cX5_mostPitch 146 = .ok (.iload_n 2, 1) := by decide +kernel
theorem dX5_mostPitch_147 : decode cX5_mostPitch 147 = .ok (.ireturn, 1) := by decide +kernel
theorem dX5_truest_0 : decode cX5_truest 0 = .ok (.aload_n 0, 1) := by decide +kernel
theorem dX5_truest_1 : decode cX5_truest 1 = .ok (.iconst 0, 1) := by decide +kernel
theorem dX5_truest_2 : decode cX5_truest 2 = .ok (.putfield 62, 3) := by decide +kernel
theorem dX5_truest_5 : decode cX5_truest 5 = .ok (.iload_n 1, 1) := by decide +kernel
theorem dX5_truest_6 : decode cX5_truest 6 = .ok (.invokestatic 163, 3) := by decide +kernel
theorem dX5_truest_9 : decode cX5_truest 9 = .ok (.ifCond .eq 6, 3) := by decide +kernel
theorem dX5_truest_12 : decode cX5_truest 12 = .ok (.bipush (-2), 2) := by decide +kernel
theorem dX5_truest_14 : decode cX5_truest 14 = .ok (.ireturn, 1) := by decide +kernel
theorem dX5_truest_15 : decode cX5_truest 15 = .ok (.bipush (-9), 2) := by decide +kernel
theorem dX5_truest_17 : decode cX5_truest 17 = .ok (.istore_n 2, 1) := by decide +kernel
theorem dX5_truest_18 : decode cX5_truest 18 = .ok (.iconst 0, 1) := by decide +kernel
theorem dX5_truest_19 : decode cX5_truest 19 = .ok (.istore_n 3, 1) := by decide +kernel
theorem dX5_truest_20 : decode cX5_truest 20 = .ok (.iload_n 3, 1) := by decide +kernel
theorem dX5_truest_21 : decode cX5_truest 21 = .ok (.aload_n 0, 1) := by decide +kernel
theorem dX5_truest_22 : decode cX5_truest 22 = .ok (.getfield 28, 3) := by decide +kernel
theorem dX5_truest_25 : decode cX5_truest 25 = .ok (.bipush 48, 2) := by decide +kernel
theorem dX5_truest_27 : decode cX5_truest 27 = .ok (.iaload, 1) := by decide +kernel
theorem dX5_truest_28 : decode cX5_truest 28 = .ok (.if_icmp .ge 59, 3) := by decide +kernel
theorem dX5_truest_31 : decode cX5_truest 31 = .ok (.aload_n 0, 1) := by decide +kernel
theorem dX5_truest_32 : decode cX5_truest 32 = .ok (.getfield 28, 3) := by decide +kernel
theorem dX5_truest_35 : decode cX5_truest 35 = .ok (.bipush 6, 2) := by decide +kernel
theorem dX5_truest_37 : decode cX5_truest 37 = .ok (.iload_n 3, 1) := by decide +kernel
theorem dX5_truest_38 : decode cX5_truest 38 = .ok (.imul, 1) := by decide +kernel
theorem dX5_truest_39 : decode cX5_truest 39 = .ok (.iaload, 1) := by decide +kernel
theorem dX5_truest_40 : decode cX5_truest 40 = .ok (.iload_n 1, 1) := by decide +kernel
theorem dX5_truest_41 : decode cX5_truest 41 = .ok (.if_icmp .ne 38, 3) := by decide +kernel
theorem dX5_truest_44 : decode cX5_truest 44 = .ok (.iload_n 2, 1) := by decide +kernel
theorem dX5_truest_45 : decode cX5_truest 45 = .ok (.bipush (-9), 2) := by decide +kernel
theorem dX5_truest_47 : decode cX5_truest 47 = .ok (.if_icmp .eq 28, 3) := by decide +kernel
theorem dX5_truest_50 : decode cX5_truest 50 = .ok (.aload_n 0, 1) := by decide +kernel
theorem dX5_truest_51 : decode cX5_truest 51 = .ok (.getfield 28, 3) := by decide +kernel
theorem dX5_truest_54 : decode cX5_truest 54 = .ok (.bipush 6, 2) := by decide +kernel
theorem dX5_truest_56 : decode cX5_truest 56 = .ok (.iload_n 3, 1) := by decide +kernel
theorem dX5_truest_57 : decode cX5_truest 57 = .ok (.imul, 1) := by decide +kernel
theorem dX5_truest_58 : decode cX5_truest 58 = .ok (.iconst 5, 1) := by decide +kernel
theorem dX5_truest_59 : decode cX5_truest 59 = .ok (.iadd, 1) := by decide +kernel
theorem dX5_truest_60 : decode cX5_truest 60 = .ok (.iaload, 1) := by decide +kernel
theorem dX5_truest_61 : decode cX5_truest 61 = .ok (.aload_n 0, 1) := by decide +kernel
theorem dX5_truest_62 : decode cX5_truest 62 = .ok (.getfield 28, 3) := by decide +kernel
theorem dX5_truest_65 : decode cX5_truest 65 = .ok (.bipush 6, 2) := by decide +kernel
theorem dX5_truest_67 : decode cX5_truest 67 = .ok (.iload_n 2, 1) := by decide +kernel
theorem dX5_truest_68 : decode cX5_truest 68 = .ok (.imul, 1) := by decide +kernel
theorem dX5_truest_69 : decode cX5_truest 69 = .ok (.iconst 5, 1) := by decide +kernel
theorem dX5_truest_70 : decode cX5_truest 70 = .ok (.iadd, 1) := by decide +kernel
theorem dX5_truest_71 : decode cX5_truest 71 = .ok (.iaload, 1) := by decide +kernel
theorem dX5_truest_72 : decode cX5_truest 72 = .ok (.if_icmp .ge 7, 3) := by decide +kernel
theorem dX5_truest_75 : decode cX5_truest 75 = .ok (.iload_n 3, 1) := by decide +kernel
theorem dX5_truest_76 : decode cX5_truest 76 = .ok (.goto 4, 3) := by decide +kernel
theorem dX5_truest_79 : decode cX5_truest 79 = .ok (.iload_n 2, 1) := by decide +kernel
theorem dX5_truest_80 : decode cX5_truest 80 = .ok (.istore_n 2, 1) := by decide +kernel
theorem dX5_truest_81 : decode cX5_truest 81 = .ok (.iinc 3 1, 3) := by decide +kernel
theorem dX5_truest_84 : decode cX5_truest 84 = .ok (.goto (-64), 3) := by decide +kernel
theorem dX5_truest_87 : decode cX5_truest 87 = .ok (.iload_n 2, 1) := by decide +kernel
theorem dX5_truest_88 : decode cX5_truest 88 = .ok (.ireturn, 1) := by decide +kernel
theorem dX5_back_0 : decode cX5_back 0 = .ok (.aload_n 0, 1) := by decide +kernel
theorem dX5_back_1 : decode cX5_back 1 = .ok (.iconst 0, 1) := by decide +kernel
theorem dX5_back_2 : decode cX5_back 2 = .ok (.putfield 62, 3) := by decide +kernel
theorem dX5_back_5 : decode cX5_back 5 = .ok (.aload_n 0, 1) := by decide +kernel
theorem dX5_back_6 : decode cX5_back 6 = .ok (.iload_n 1, 1) := by decide +kernel
theorem dX5_back_7 : decode cX5_back 7 = .ok (.invokevirtual 116, 3) := by decide +kernel
theorem dX5_back_10 : decode cX5_back 10 = .ok (.ifCond .eq 5, 3) := by decide +kernel
theorem dX5_back_13 : decode cX5_back 13 = .ok (.iconst (-1), 1) := by decide +kernel
theorem dX5_back_14 : decode cX5_back 14 = .ok (.ireturn, 1) := by decide +kernel
theorem dX5_back_15 : decode cX5_back 15 = .ok (.iload_n 2, 1) := by decide +kernel
theorem dX5_back_16 : decode cX5_back 16 = .ok (.i2l, 1) := by decide +kernel
theorem dX5_back_17 : decode cX5_back 17 = .ok (.lconst 1, 1) := by decide +kernel
theorem dX5_back_18 : decode cX5_back 18 = .ok (.ldc2_w 143, 3) := by decide +kernel
theorem dX5_back_21 : decode cX5_back 21 = .ok (.invokestatic 69, 3) := by decide +kernel
theorem dX5_back_24 : decode cX5_back 24 = .ok (.ifCond .eq 34, 3) := by decide +kernel
theorem dX5_back_27 : decode cX5_back 27 = .ok (.iload_n 3, 1) := by decide +kernel
theorem dX5_back_28 : decode cX5_back 28 = .ok (.i2l, 1) := by decide +kernel
theorem dX5_back_29 : decode cX5_back 29 = .ok (.lconst 0, 1) := by decide +kernel
theorem dX5_back_30 : decode cX5_back 30 = .ok (.ldc2_w 143, 3) := by decide +kernel
theorem dX5_back_33 : decode cX5_back 33 = .ok (.invokestatic 69, 3) := by decide +kernel
theorem dX5_back_36 : decode cX5_back 36 = .ok (.ifCond .eq 22, 3) := by decide +kernel
theorem dX5_back_39 : decode cX5_back 39 = .ok (.iload_n 2, 1) := by decide +kernel
theorem dX5_back_40 : decode cX5_back 40 = .ok (.iload_n 3, 1) := by decide +kernel
theorem dX5_back_41 : decode cX5_back 41 = .ok (.aload_n 0, 1) := by decide +kernel
theorem dX5_back_42 : decode cX5_back 42 = .ok (.iload_n 1, 1) := by decide +kernel
theorem dX5_back_43 : decode cX5_back 43 = .ok (.aload_n 0, 1) := by decide +kernel
theorem dX5_back_44 : decode cX5_back 44 = .ok (.getfield 28, 3) := by decide +kernel
theorem dX5_back_47 : decode cX5_back 47 = .ok (.bipush 49, 2) := by decide +kernel
theorem dX5_back_49 : decode cX5_back 49 = .ok (.iaload, 1) := by decide +kernel
theorem dX5_back_50 : decode cX5_back 50 = .ok (.invokevirtual 129, 3) := by decide +kernel
theorem dX5_back_53 : decode cX5_back 53 = .ok (.imul, 1) := by decide +kernel
theorem dX5_back_54 : decode cX5_back 54 = .ok (.iadd, 1) := by decide +kernel
theorem dX5_back_55 : decode cX5_back 55 = .ok (.goto 5, 3) := by decide +kernel
theorem dX5_back_58 : decode cX5_back 58 = .ok (.bipush (-2), 2) := by decide +kernel
theorem dX5_back_60 : decode cX5_back 60 = .ok (.ireturn, 1) := by decide +kernel
theorem dX5_lords_0 : decode cX5_lords 0 = .ok (.aload_n 0, 1) := by decide +kernel
theorem dX5_lords_1 : decode cX5_lords 1 = .ok (.iconst 0, 1) := by decide +kernel
theorem dX5_lords_2 : decode cX5_lords 2 = .ok (.putfield 62, 3) := by decide +kernel
theorem dX5_lords_5 : decode cX5_lords 5 = .ok (.iload_n 1, 1) := by decide +kernel
theorem dX5_lords_6 : decode cX5_lords 6 = .ok (.i2l, 1) := by decide +kernel
theorem dX5_lords_7 : decode cX5_lords 7 = .ok (.lconst 1, 1) := by decide +kernel
theorem dX5_lords_8 : decode cX5_lords 8 = .ok (.ldc2_w 145, 3) := by decide +kernel
theorem dX5_lords_11 : decode cX5_lords 11 = .ok (.invokestatic 69, 3) := by decide +kernel
theorem dX5_lords_14 : decode cX5_lords 14 = .ok (.ifCond .eq 13, 3) := by decide +kernel
theorem dX5_lords_17 : decode cX5_lords 17 = .ok (.iload_n 2, 1) := by decide +kernel
theorem dX5_lords_18 : decode cX5_lords 18 = .ok (.i2l, 1) := by decide +kernel
theorem dX5_lords_19 : decode cX5_lords 19 = .ok (.lconst 0, 1) := by decide +kernel
theorem dX5_lords_20 : decode cX5_lords 20 = .ok (.lconst 1, 1) := by decide +kernel
theorem dX5_lords_21 : decode cX5_lords 21 = .ok (.invokestatic 69, 3) := by decide +kernel
theorem dX5_lords_24 : decode cX5_lords 24 = .ok (.ifCond .ne 6, 3) := by decide +kernel
theorem dX5_lords_27 : decode cX5_lords 27 = .ok (.bipush (-2), 2) := by decide +kernel
theorem dX5_lords_29 : decode cX5_lords 29 = .ok (.ireturn, 1) := by decide +kernel
theorem dX5_lords_30 : decode cX5_lords 30 = .ok (.iconst 0, 1) := by decide +kernel
theorem dX5_lords_31 : decode cX5_lords 31 = .ok (.istore_n 3, 1) := by decide +kernel
theorem dX5_lords_32 : decode cX5_lords 32 = .ok (.iload_n 3, 1) := by decide +kernel
theorem dX5_lords_33 : decode cX5_lords 33 = .ok (.iconst 1, 1) := by decide +kernel
theorem dX5_lords_34 : decode cX5_lords 34 = .ok (.aload_n 0, 1) := by decide +kernel
theorem dX5_lords_35 : decode cX5_lords 35 = .ok (.getfield 66, 3) := by decide +kernel
theorem dX5_lords_38 : decode cX5_lords 38 = .ok (.ishl, 1) := by decide +kernel
theorem dX5_lords_39 : decode cX5_lords 39 = .ok (.if_icmp .ge 21, 3) := by decide +kernel
theorem dX5_lords_42 : decode cX5_lords 42 = .ok (.aload_n 0, 1) := by decide +kernel
theorem dX5_lords_43 : decode cX5_lords 43 = .ok (.getfield 56, 3) := by decide +kernel
theorem dX5_lords_46 : decode cX5_lords 46 = .ok (.iload_n 3, 1) := by decide +kernel
theorem dX5_lords_47 : decode cX5_lords 47 = .ok (.aload_n 0, 1) := by decide +kernel
theorem dX5_lords_48 : decode cX5_lords 48 = .ok (.iload_n 3, 1) := by decide +kernel
theorem dX5_lords_49 : decode cX5_lords 49 = .ok (.iconst 4, 1) := by decide +kernel
theorem dX5_lords_50 : decode cX5_lords 50 = .ok (.invokevirtual 182, 3) := by decide +kernel
theorem dX5_lords_53 : decode cX5_lords 53 = .ok (.iastore, 1) := by decide +kernel
theorem dX5_lords_54 : decode cX5_lords 54 = .ok (.iinc 3 1, 3) := by decide +kernel
theorem dX5_lords_57 : decode cX5_lords 57 = .ok (.goto (-25), 3) := by decide +kernel
theorem dX5_lords_60 : decode cX5_lords 60 = .ok (.iconst 0, 1) := by decide +kernel
theorem dX5_lords_61 : decode cX5_lords 61 = .ok (.istore_n 3, 1) := by decide +kernel
theorem dX5_lords_62 : decode cX5_lords 62 = .ok (.iload_n 1, 1) := by decide +kernel
theorem dX5_lords_63 : decode cX5_lords 63 = .ok (.iconst 1, 1) := by decide +kernel
theorem dX5_lords_64 : decode cX5_lords 64 = .ok (.isub, 1) := by decide +kernel
theorem dX5_lords_65 : decode cX5_lords 65 = .ok (.istore 4, 2) := by decide +kernel
theorem dX5_lords_67 : decode cX5_lords 67 = .ok (.iload 4, 2) := by decide +kernel
theorem dX5_lords_69 : decode cX5_lords 69 = .ok (.ifCond .lt 206, 3) := by decide +kernel
theorem dX5_lords_72 : decode cX5_lords 72 = .ok (.iconst 0, 1) := by decide +kernel
theorem dX5_lords_73 : decode cX5_lords 73 = .ok (.istore 5, 2) := by decide +kernel
theorem dX5_lords_75 : decode cX5_lords 75 = .ok (.iload 5, 2) := by decide +kernel
theorem dX5_lords_77 : decode cX5_lords 77 = .ok (.iconst 1, 1) := by decide +kernel
theorem dX5_lords_78 : decode cX5_lords 78 = .ok (.aload_n 0, 1) := by decide +kernel
theorem dX5_lords_79 : decode cX5_lords 79 = .ok (.getfield 66, 3) := by decide +kernel
theorem dX5_lords_82 : decode cX5_lords 82 = .ok (.ishl, 1) := by decide +kernel
theorem dX5_lords_83 : decode cX5_lords 83 = .ok (.if_icmp .ge 152, 3) := by decide +kernel
theorem dX5_lords_86 : decode cX5_lords 86 = .ok (.aload_n 0, 1) := by decide +kernel
theorem dX5_lords_87 : decode cX5_lords 87 = .ok (.getfield 56, 3) := by decide +kernel
theorem dX5_lords_90 : decode cX5_lords 90 = .ok (.iload 5, 2) := by decide +kernel
theorem dX5_lords_92 : decode cX5_lords 92 = .ok (.iaload, 1) := by decide +kernel
theorem dX5_lords_93 : decode cX5_lords 93 = .ok (.istore 6, 2) := by decide +kernel
theorem dX5_lords_95 : decode cX5_lords 95 = .ok (.iconst 0, 1) := by decide +kernel
theorem dX5_lords_96 : decode cX5_lords 96 = .ok (.istore 7, 2) := by decide +kernel
theorem dX5_lords_98 : decode cX5_lords 98 = .ok (.iconst 0, 1) := by decide +kernel
theorem dX5_lords_99 : decode cX5_lords 99 = .ok (.istore 8, 2) := by decide +kernel
theorem dX5_lords_101 : decode cX5_lords 101 = .ok (.iload 8, 2) := by decide +kernel
theorem dX5_lords_103 : decode cX5_lords 103 = .ok (.aload_n 0, 1) := by decide +kernel
theorem dX5_lords_104 : decode cX5_lords 104 = .ok (.getfield 66, 3) := by decide +kernel
theorem dX5_lords_107 : decode cX5_lords 107 = .ok (.if_icmp .ge 89, 3) := by decide +kernel
theorem dX5_lords_110 : decode cX5_lords 110 = .ok (.aload_n 0, 1) := by decide +kernel
theorem dX5_lords_111 : decode cX5_lords 111 = .ok (.getfield 56, 3) := by decide +kernel
theorem dX5_lords_114 : decode cX5_lords 114 = .ok (.iload 5, 2) := by decide +kernel
theorem dX5_lords_116 : decode cX5_lords 116 = .ok (.iconst 1, 1) := by decide +kernel
theorem dX5_lords_117 : decode cX5_lords 117 = .ok (.iload 8, 2) := by decide +kernel
theorem dX5_lords_119 : decode cX5_lords 119 = .ok (.ishl, 1) := by decide +kernel
theorem dX5_lords_120 : decode cX5_lords 120 = .ok (.ixor, 1) := by decide +kernel
theorem dX5_lords_121 : decode cX5_lords 121 = .ok (.iaload, 1) := by decide +kernel
theorem dX5_lords_122 : decode cX5_lords 122 = .ok (.istore 9, 2) := by decide +kernel
theorem dX5_lords_124 : decode cX5_lords 124 = .ok (.iload 4, 2) := by decide +kernel
theorem dX5_lords_126 : decode cX5_lords 126 = .ok (.iconst 2, 1) := by decide +kernel
theorem dX5_lords_127 : decode cX5_lords 127 = .ok (.irem, 1) := by decide +kernel
theorem dX5_lords_128 : decode cX5_lords 128 = .ok (.ifCond .ne 18, 3) := by decide +kernel
theorem dX5_lords_131 : decode cX5_lords 131 = .ok (.iload 9, 2) := by decide +kernel
theorem dX5_lords_133 : decode cX5_lords 133 = .ok (.iload 6, 2) := by decide +kernel
theorem dX5_lords_135 : decode cX5_lords 135 = .ok (.if_icmp .le 7, 3) := by decide +kernel
theorem dX5_lords_138 : decode cX5_lords 138 = .ok (.iconst 1, 1) := by decide +kernel
theorem dX5_lords_139 : decode cX5_lords 139 = .ok (.goto 19, 3) := by decide +kernel
theorem dX5_lords_142 : decode cX5_lords 142 = .ok (.iconst 0, 1) := by decide +kernel
theorem dX5_lords_143 : decode cX5_lords 143 = .ok (.goto 15, 3) := by decide +kernel
theorem dX5_lords_146 : decode cX5_lords 146 = .ok (.iload 9, 2) := by decide +kernel
theorem dX5_lords_148 : decode cX5_lords 148 = .ok (.iload 6, 2) := by decide +kernel
theorem dX5_lords_150 : decode cX5_lords 150 = .ok (.if_icmp .ge 7, 3) := by decide +kernel
theorem dX5_lords_153 : decode cX5_lords 153 = .ok (.iconst 1, 1) := by decide +kernel
theorem dX5_lords_154 : decode cX5_lords 154 = .ok (.goto 4, 3) := by decide +kernel
theorem dX5_lords_157 : decode cX5_lords 157 = .ok (.iconst 0, 1) := by decide +kernel
theorem dX5_lords_158 : decode cX5_lords 158 = .ok (.istore 10, 2) := by decide +kernel
theorem dX5_lords_160 : decode cX5_lords 160 = .ok (.iload 10, 2) := by decide +kernel
theorem dX5_lords_162 : decode cX5_lords 162 = .ok (.ifCond .eq 10, 3) := by decide +kernel
theorem dX5_lords_165 : decode cX5_lords 165 = .ok (.iconst 1, 1) := by decide +kernel
theorem dX5_lords_166 : decode cX5_lords 166 = .ok (.iload 8, 2) := by decide +kernel
theorem dX5_lords_168 : decode cX5_lords 168 = .ok (.iadd, 1) := by decide +kernel
theorem dX5_lords_169 : decode cX5_lords 169 = .ok (.goto 5, 3) := by decide +kernel
theorem dX5_lords_172 : decode cX5_lords 172 = .ok (.iload 7, 2) := by decide +kernel
theorem dX5_lords_174 : decode cX5_lords 174 = .ok (.istore 7, 2) := by decide +kernel
theorem dX5_lords_176 : decode cX5_lords 176 = .ok (.iload 10, 2) := by decide +kernel
theorem dX5_lords_178 : decode cX5_lords 178 = .ok (.ifCond .eq 8, 3) := by decide +kernel
theorem dX5_lords_181 : decode cX5_lords 181 = .ok (.iload 9, 2) := by decide +kernel
theorem dX5_lords_183 : decode cX5_lords 183 = .ok (.goto 5, 3) := by decide +kernel
theorem dX5_lords_186 : decode cX5_lords 186 = .ok (.iload 6, 2) := by decide +kernel
theorem dX5_lords_188 : decode cX5_lords 188 = .ok (.istore 6, 2) := by decide +kernel
theorem dX5_lords_190 : decode cX5_lords 190 = .ok (.iinc 8 1, 3) := by decide +kernel
theorem dX5_lords_193 : decode cX5_lords 193 = .ok (.goto (-92), 3) := by decide +kernel
theorem dX5_lords_196 : decode cX5_lords 196 = .ok (.aload_n 0, 1) := by decide +kernel
theorem dX5_lords_197 : decode cX5_lords 197 = .ok (.getfield 59, 3) := by decide +kernel
theorem dX5_lords_200 : decode cX5_lords 200 = .ok (.iload 5, 2) := by decide +kernel
theorem dX5_lords_202 : decode cX5_lords 202 = .ok (.iload 6, 2) := by decide +kernel
theorem dX5_lords_204 : decode cX5_lords 204 = .ok (.iastore, 1) := by decide +kernel
theorem dX5_lords_205 : decode cX5_lords 205 = .ok (.iload 4, 2) := by decide +kernel
theorem dX5_lords_207 : decode cX5_lords 207 = .ok (.ifCond .ne 20, 3) := by decide +kernel
theorem dX5_lords_210 : decode cX5_lords 210 = .ok (.iload 5, 2) := by decide +kernel
theorem dX5_lords_212 : decode cX5_lords 212 = .ok (.aload_n 0, 1) := by decide +kernel
theorem dX5_lords_213 : decode cX5_lords 213 = .ok (.getfield 28, 3) := by decide +kernel
theorem dX5_lords_216 : decode cX5_lords 216 = .ok (.bipush 49, 2) := by decide +kernel
theorem dX5_lords_218 : decode cX5_lords 218 = .ok (.iaload, 1) := by decide +kernel
theorem dX5_lords_219 : decode cX5_lords 219 = .ok (.if_icmp .ne 8, 3) := by decide +kernel
theorem dX5_lords_222 : decode cX5_lords 222 = .ok (.iload 7, 2) := by decide +kernel
theorem dX5_lords_224 : decode cX5_lords 224 = .ok (.goto 4, 3) := by decide +kernel
theorem dX5_lords_227 : decode cX5_lords 227 = .ok (.iload_n 3, 1) := by decide +kernel
theorem dX5_lords_228 : decode cX5_lords 228 = .ok (.istore_n 3, 1) := by decide +kernel
theorem dX5_lords_229 : decode cX5_lords 229 = .ok (.iinc 5 1, 3) := by decide +kernel
theorem dX5_lords_232 : decode cX5_lords 232 = .ok (.goto (-157), 3) := by decide +kernel
theorem dX5_lords_235 : decode cX5_lords 235 = .ok (.iconst 0, 1) := by decide +kernel
theorem dX5_lords_236 : decode cX5_lords 236 = .ok (.istore 5, 2) := by decide +kernel
theorem dX5_lords_238 : decode cX5_lords 238 = .ok (.iload 5, 2) := by decide +kernel
theorem dX5_lords_240 : decode cX5_lords 240 = .ok (.iconst 1, 1) := by decide +kernel
theorem dX5_lords_241 : decode cX5_lords 241 = .ok (.aload_n 0, 1) := by decide +kernel
theorem dX5_lords_242 : decode cX5_lords 242 = .ok (.getfield 66, 3) := by decide +kernel
theorem dX5_lords_245 : decode cX5_lords 245 = .ok (.ishl, 1) := by decide +kernel
theorem dX5_lords_246 : decode cX5_lords 246 = .ok (.if_icmp .ge 23, 3) := by decide +kernel
theorem dX5_lords_249 : decode cX5_lords 249 = .ok (.aload_n 0, 1) := by decide +kernel
theorem dX5_lords_250 : decode cX5_lords 250 = .ok (.getfield 56, 3) := by decide +kernel
theorem dX5_lords_253 : decode cX5_lords 253 = .ok (.iload 5, 2) := by decide +kernel
theorem dX5_lords_255 : decode cX5_lords 255 = .ok (.aload_n 0, 1) := by decide +kernel
theorem dX5_lords_256 : decode cX5_lords 256 = .ok (.getfield 59, 3) := by decide +kernel
theorem dX5_lords_259 : decode cX5_lords 259 = .ok (.iload 5, 2) := by decide +kernel
theorem dX5_lords_261 : decode cX5_lords 261 = .ok (.iaload, 1) := by decide +kernel
theorem dX5_lords_262 : decode cX5_lords 262 = .ok (.iastore, 1) := by decide +kernel
theorem dX5_lords_263 : decode cX5_lords 263 = .ok (.iinc 5 1, 3) := by decide +kernel
theorem dX5_lords_266 : decode cX5_lords 266 = .ok (.goto (-28), 3) := by decide +kernel
theorem dX5_lords_269 : decode cX5_lords 269 = .ok (.iinc 4 (-1), 3) := by decide +kernel
theorem dX5_lords_272 : decode cX5_lords 272 = .ok (.goto (-205), 3) := by decide +kernel
theorem dX5_lords_275 : decode cX5_lords 275 = .ok (.iload_n 2, 1) := by decide +kernel
theorem dX5_lords_276 : decode cX5_lords 276 = .ok (.ifCond .ne 18, 3) := by decide +kernel
theorem dX5_lords_279 : decode cX5_lords 279 = .ok (.aload_n 0, 1) := by decide +kernel
theorem dX5_lords_280 : decode cX5_lords 280 = .ok (.getfield 56, 3) := by decide +kernel
theorem dX5_lords_283 : decode cX5_lords 283 = .ok (.aload_n 0, 1) := by decide +kernel
theorem dX5_lords_284 : decode cX5_lords 284 = .ok (.getfield 28, 3) := by decide +kernel
theorem dX5_lords_287 : decode cX5_lords 287 = .ok (.bipush 49, 2) := by decide +kernel
theorem dX5_lords_289 : decode cX5_lords 289 = .ok (.iaload, 1) := by decide +kernel
theorem dX5_lords_290 : decode cX5_lords 290 = .ok (.iaload, 1) := by decide +kernel
theorem dX5_lords_291 : decode cX5_lords 291 = .ok (.goto 4, 3) := by decide +kernel
theorem dX5_lords_294 : decode cX5_lords 294 = .ok (.iload_n 3, 1) := by decide +kernel
theorem dX5_lords_295 : decode cX5_lords 295 = .ok (.ireturn, 1) := by decide +kernel
theorem dX5_flood_0 : decode cX5_flood 0 = .ok (.iconst 0, 1) := by decide +kernel
theorem dX5_flood_1 : decode cX5_flood 1 = .ok (.istore_n 3, 1) := by decide +kernel
theorem dX5_flood_2 : decode cX5_flood 2 = .ok (.iload_n 3, 1) := by decide +kernel
theorem dX5_flood_3 : decode cX5_flood 3 = .ok (.aload_n 1, 1) := by decide +kernel
theorem dX5_flood_4 : decode cX5_flood 4 = .ok (.bipush 48, 2) := by decide +kernel
theorem dX5_flood_6 : decode cX5_flood 6 = .ok (.iaload, 1) := by decide +kernel
theorem dX5_flood_7 : decode cX5_flood 7 = .ok (.if_icmp .ge 35, 3) := by decide +kernel
theorem dX5_flood_10 : decode cX5_flood 10 = .ok (.aload_n 0, 1) := by decide +kernel
theorem dX5_flood_11 : decode cX5_flood 11 = .ok (.getfield 50, 3) := by decide +kernel
theorem dX5_flood_14 : decode cX5_flood 14 = .ok (.iload_n 3, 1) := by decide +kernel
theorem dX5_flood_15 : decode cX5_flood 15 = .ok (.iload_n 2, 1) := by decide +kernel
theorem dX5_flood_16 : decode cX5_flood 16 = .ok (.aload_n 1, 1) := by decide +kernel
theorem dX5_flood_17 : decode cX5_flood 17 = .ok (.bipush 6, 2) := by decide +kernel
theorem dX5_flood_19 : decode cX5_flood 19 = .ok (.iload_n 3, 1) := by decide +kernel
theorem dX5_flood_20 : decode cX5_flood 20 = .ok (.imul, 1) := by decide +kernel
theorem dX5_flood_21 : decode cX5_flood 21 = .ok (.iconst 1, 1) := by decide +kernel
theorem dX5_flood_22 : decode cX5_flood 22 = .ok (.iadd, 1) := by decide +kernel
theorem dX5_flood_23 : decode cX5_flood 23 = .ok (.iaload, 1) := by decide +kernel
theorem dX5_flood_24 : decode cX5_flood 24 = .ok (.invokestatic 125, 3) := by decide +kernel
theorem dX5_flood_27 : decode cX5_flood 27 = .ok (.ifCond .eq 7, 3) := by decide +kernel
theorem dX5_flood_30 : decode cX5_flood 30 = .ok (.iconst 3, 1) := by decide +kernel
theorem dX5_flood_31 : decode cX5_flood 31 = .ok (.goto 4, 3) := by decide +kernel
theorem dX5_flood_34 : decode cX5_flood 34 = .ok (.iconst 0, 1) := by decide +kernel
theorem dX5_flood_35 : decode cX5_flood 35 = .ok (.iastore, 1) := by decide +kernel
theorem dX5_flood_36 : decode cX5_flood 36 = .ok (.iinc 3 1, 3) := by decide +kernel
theorem dX5_flood_39 : decode cX5_flood 39 = .ok (.goto (-37), 3) := by decide +kernel
theorem dX5_flood_42 : decode cX5_flood 42 = .ok (.aload_n 0, 1) := by decide +kernel
theorem dX5_flood_43 : decode cX5_flood 43 = .ok (.aload_n 1, 1) := by decide +kernel
theorem dX5_flood_44 : decode cX5_flood 44 = .ok (.bipush (-9), 2) := by decide +kernel
theorem dX5_flood_46 : decode cX5_flood 46 = .ok (.iconst 0, 1) := by decide +kernel
theorem dX5_flood_47 : decode cX5_flood 47 = .ok (.invokevirtual 132, 3) := by decide +kernel
theorem dX5_flood_50 : decode cX5_flood 50 = .ok (.pop, 1) := by decide +kernel
theorem dX5_flood_51 : decode cX5_flood 51 = .ok (.return_, 1) := by decide +kernel
theorem dX5_divisor_0 : decode cX5_divisor 0 = .ok (.iload_n 0, 1) := by decide +kernel
theorem dX5_divisor_1 : decode cX5_divisor 1 = .ok (.istore_n 2, 1) := by decide +kernel
theorem dX5_divisor_2 : decode cX5_divisor 2 = .ok (.iload_n 1, 1) := by decide +kernel
theorem dX5_divisor_3 : decode cX5_divisor 3 = .ok (.istore_n 3, 1) := by decide +kernel
theorem dX5_divisor_4 : decode cX5_divisor 4 = .ok (.iload_n 3, 1) := by decide +kernel
theorem dX5_divisor_5 : decode cX5_divisor 5 = .ok (.ifCond .eq 16, 3) := by decide +kernel
theorem dX5_divisor_8 : decode cX5_divisor 8 = .ok (.iload_n 2, 1) := by decide +kernel
theorem dX5_divisor_9 : decode cX5_divisor 9 = .ok (.iload_n 3, 1) := by decide +kernel
theorem dX5_divisor_10 : decode cX5_divisor 10 = .ok (.irem, 1) := by decide +kernel
theorem dX5_divisor_11 : decode cX5_divisor 11 = .ok (.istore 4, 2) := by decide +kernel
theorem dX5_divisor_13 : decode cX5_divisor 13 = .ok (.iload_n 3, 1) := by decide +kernel
theorem dX5_divisor_14 : decode cX5_divisor 14 = .ok (.istore_n 2, 1) := by decide +kernel
theorem dX5_divisor_15 : decode cX5_divisor 15 = .ok (.iload 4, 2) := by decide +kernel
theorem dX5_divisor_17 : decode cX5_divisor 17 = .ok (.istore_n 3, 1) := by decide +kernel
theorem dX5_divisor_18 : decode cX5_divisor 18 = .ok (.goto (-14), 3) := by decide +kernel
theorem dX5_divisor_21 : decode cX5_divisor 21 = .ok (.iload_n 2, 1) := by decide +kernel
theorem dX5_divisor_22 : decode cX5_divisor 22 = .ok (.ireturn, 1) := by decide +kernel
theorem dX5_rain_0 : decode cX5_rain 0 = .ok (.aload_n 0, 1) := by decide +kernel
theorem dX5_rain_1 : decode cX5_rain 1 = .ok (.iconst 0, 1) := by decide +kernel
theorem dX5_rain_2 : decode cX5_rain 2 = .ok (.putfield 62, 3) := by decide +kernel
theorem dX5_rain_5 : decode cX5_rain 5 = .ok (.iload_n 1, 1) := by decide +kernel
theorem dX5_rain_6 : decode cX5_rain 6 = .ok (.invokestatic 163, 3) := by decide +kernel
theorem dX5_rain_9 : decode cX5_rain 9 = .ok (.ifCond .ne 15, 3) := by decide +kernel
theorem dX5_rain_12 : decode cX5_rain 12 = .ok (.iload_n 2, 1) := by decide +kernel
theorem dX5_rain_13 : decode cX5_rain 13 = .ok (.i2l, 1) := by decide +kernel
theorem dX5_rain_14 : decode cX5_rain 14 = .ok (.lconst 0, 1) := by decide +kernel
theorem dX5_rain_15 : decode cX5_rain 15 = .ok (.ldc2_w 185, 3) := by decide +kernel
theorem dX5_rain_18 : decode cX5_rain 18 = .ok (.invokestatic 69, 3) := by decide +kernel
theorem dX5_rain_21 : decode cX5_rain 21 = .ok (.ifCond .ne 6, 3) := by decide +kernel
theorem dX5_rain_24 : decode cX5_rain 24 = .ok (.bipush (-2), 2) := by decide +kernel
theorem dX5_rain_26 : decode cX5_rain 26 = .ok (.ireturn, 1) := by decide +kernel
theorem dX5_rain_27 : decode cX5_rain 27 = .ok (.iconst 0, 1) := by decide +kernel
theorem dX5_rain_28 : decode cX5_rain 28 = .ok (.istore 4, 2) := by decide +kernel
theorem dX5_rain_30 : decode cX5_rain 30 = .ok (.iconst 1, 1) := by decide +kernel
theorem dX5_rain_31 : decode cX5_rain 31 = .ok (.istore 5, 2) := by decide +kernel
theorem dX5_rain_33 : decode cX5_rain 33 = .ok (.iconst 0, 1) := by decide +kernel
theorem dX5_rain_34 : decode cX5_rain 34 = .ok (.istore 6, 2) := by decide +kernel
theorem dX5_rain_36 : decode cX5_rain 36 = .ok (.iload 6, 2) := by decide +kernel
theorem dX5_rain_38 : decode cX5_rain 38 = .ok (.aload_n 0, 1) := by decide +kernel
theorem dX5_rain_39 : decode cX5_rain 39 = .ok (.getfield 66, 3) := by decide +kernel
theorem dX5_rain_42 : decode cX5_rain 42 = .ok (.if_icmp .ge 35, 3) := by decide +kernel
theorem dX5_rain_45 : decode cX5_rain 45 = .ok (.iload 5, 2) := by decide +kernel
theorem dX5_rain_47 : decode cX5_rain 47 = .ok (.aload_n 0, 1) := by decide +kernel
theorem dX5_rain_48 : decode cX5_rain 48 = .ok (.getfield 28, 3) := by decide +kernel
theorem dX5_rain_51 : decode cX5_rain 51 = .ok (.bipush 49, 2) := by decide +kernel
theorem dX5_rain_53 : decode cX5_rain 53 = .ok (.iaload, 1) := by decide +kernel
theorem dX5_rain_54 : decode cX5_rain 54 = .ok (.iload 6, 2) := by decide +kernel
theorem dX5_rain_56 : decode cX5_rain 56 = .ok (.invokestatic 125, 3) := by decide +kernel
theorem dX5_rain_59 : decode cX5_rain 59 = .ok (.ifCond .eq 7, 3) := by decide +kernel
theorem dX5_rain_62 : decode cX5_rain 62 = .ok (.iconst 1, 1) := by decide +kernel
theorem dX5_rain_63 : decode cX5_rain 63 = .ok (.goto 5, 3) := by decide +kernel
theorem dX5_rain_66 : decode cX5_rain 66 = .ok (.bipush 10, 2) := by decide +kernel
theorem dX5_rain_68 : decode cX5_rain 68 = .ok (.imul, 1) := by decide +kernel
theorem dX5_rain_69 : decode cX5_rain 69 = .ok (.istore 5, 2) := by decide +kernel
theorem dX5_rain_71 : decode cX5_rain 71 = .ok (.iinc 6 1, 3) := by decide +kernel
theorem dX5_rain_74 : decode cX5_rain 74 = .ok (.goto (-38), 3) := by decide +kernel
theorem dX5_rain_77 : decode cX5_rain 77 = .ok (.iconst 0, 1) := by decide +kernel
theorem dX5_rain_78 : decode cX5_rain 78 = .ok (.istore 6, 2) := by decide +kernel
theorem dX5_rain_80 : decode cX5_rain 80 = .ok (.iload 6, 2) := by decide +kernel
theorem dX5_rain_82 : decode cX5_rain 82 = .ok (.iconst 1, 1) := by decide +kernel
theorem dX5_rain_83 : decode cX5_rain 83 = .ok (.aload_n 0, 1) := by decide +kernel
theorem dX5_rain_84 : decode cX5_rain 84 = .ok (.getfield 66, 3) := by decide +kernel
theorem dX5_rain_87 : decode cX5_rain 87 = .ok (.ishl, 1) := by decide +kernel
theorem dX5_rain_88 : decode cX5_rain 88 = .ok (.if_icmp .ge 131, 3) := by decide +kernel
theorem dX5_rain_91 : decode cX5_rain 91 = .ok (.iload 6, 2) := by decide +kernel
theorem dX5_rain_93 : decode cX5_rain 93 = .ok (.aload_n 0, 1) := by decide +kernel
theorem dX5_rain_94 : decode cX5_rain 94 = .ok (.getfield 28, 3) := by decide +kernel
theorem dX5_rain_97 : decode cX5_rain 97 = .ok (.bipush 49, 2) := by decide +kernel
theorem dX5_rain_99 : decode cX5_rain 99 = .ok (.iaload, 1) := by decide +kernel
theorem dX5_rain_100 : decode cX5_rain 100 = .ok (.iand, 1) := by decide +kernel
theorem dX5_rain_101 : decode cX5_rain 101 = .ok (.ifCond .ne 112, 3) := by decide +kernel
theorem dX5_rain_104 : decode cX5_rain 104 = .ok (.iconst 1, 1) := by decide +kernel
theorem dX5_rain_105 : decode cX5_rain 105 = .ok (.istore 7, 2) := by decide +kernel
theorem dX5_rain_107 : decode cX5_rain 107 = .ok (.iconst 0, 1) := by decide +kernel
theorem dX5_rain_108 : decode cX5_rain 108 = .ok (.istore 8, 2) := by decide +kernel
theorem dX5_rain_110 : decode cX5_rain 110 = .ok (.iload 8, 2) := by decide +kernel
theorem dX5_rain_112 : decode cX5_rain 112 = .ok (.aload_n 0, 1) := by decide +kernel
theorem dX5_rain_113 : decode cX5_rain 113 = .ok (.getfield 66, 3) := by decide +kernel
theorem dX5_rain_116 : decode cX5_rain 116 = .ok (.if_icmp .ge 51, 3) := by decide +kernel
theorem dX5_rain_119 : decode cX5_rain 119 = .ok (.iload 7, 2) := by decide +kernel
theorem dX5_rain_121 : decode cX5_rain 121 = .ok (.aload_n 0, 1) := by decide +kernel
theorem dX5_rain_122 : decode cX5_rain 122 = .ok (.getfield 28, 3) := by decide +kernel
theorem dX5_rain_125 : decode cX5_rain 125 = .ok (.bipush 49, 2) := by decide +kernel
theorem dX5_rain_127 : decode cX5_rain 127 = .ok (.iaload, 1) := by decide +kernel
theorem dX5_rain_128 : decode cX5_rain 128 = .ok (.iload 8, 2) := by decide +kernel
theorem dX5_rain_130 : decode cX5_rain 130 = .ok (.invokestatic 125, 3) := by decide +kernel
theorem dX5_rain_133 : decode cX5_rain 133 = .ok (.ifCond .eq 7, 3) := by decide +kernel
theorem dX5_rain_136 : decode cX5_rain 136 = .ok (.iconst 1, 1) := by decide +kernel
theorem dX5_rain_137 : decode cX5_rain 137 = .ok (.goto 21, 3) := by decide +kernel
theorem dX5_rain_140 : decode cX5_rain 140 = .ok (.iload 6, 2) := by decide +kernel
theorem dX5_rain_142 : decode cX5_rain 142 = .ok (.iload 8, 2) := by decide +kernel
theorem dX5_rain_144 : decode cX5_rain 144 = .ok (.invokestatic 125, 3) := by decide +kernel
theorem dX5_rain_147 : decode cX5_rain 147 = .ok (.ifCond .eq 7, 3) := by decide +kernel
theorem dX5_rain_150 : decode cX5_rain 150 = .ok (.iload_n 2, 1) := by decide +kernel
theorem dX5_rain_151 : decode cX5_rain 151 = .ok (.goto 7, 3) := by decide +kernel
theorem dX5_rain_154 : decode cX5_rain 154 = .ok (.bipush 10, 2) := by decide +kernel
theorem dX5_rain_156 : decode cX5_rain 156 = .ok (.iload_n 2, 1) := by decide +kernel
theorem dX5_rain_157 : decode cX5_rain 157 = .ok (.isub, 1) := by decide +kernel
theorem dX5_rain_158 : decode cX5_rain 158 = .ok (.imul, 1) := by decide +kernel
theorem dX5_rain_159 : decode cX5_rain 159 = .ok (.istore 7, 2) := by decide +kernel
theorem dX5_rain_161 : decode cX5_rain 161 = .ok (.iinc 8 1, 3) := by decide +kernel
theorem dX5_rain_164 : decode cX5_rain 164 = .ok (.goto (-54), 3) := by decide +kernel
theorem dX5_rain_167 : decode cX5_rain 167 = .ok (.aload_n 0, 1) := by decide +kernel
theorem dX5_rain_168 : decode cX5_rain 168 = .ok (.getfield 28, 3) := by decide +kernel
theorem dX5_rain_171 : decode cX5_rain 171 = .ok (.aload_n 0, 1) := by decide +kernel
theorem dX5_rain_172 : decode cX5_rain 172 = .ok (.getfield 41, 3) := by decide +kernel
theorem dX5_rain_175 : decode cX5_rain 175 = .ok (.invokestatic 159, 3) := by decide +kernel
theorem dX5_rain_178 : decode cX5_rain 178 = .ok (.aload_n 0, 1) := by decide +kernel
theorem dX5_rain_179 : decode cX5_rain 179 = .ok (.aload_n 0, 1) := by decide +kernel
theorem dX5_rain_180 : decode cX5_rain 180 = .ok (.getfield 41, 3) := by decide +kernel
theorem dX5_rain_183 : decode cX5_rain 183 = .ok (.iload 6, 2) := by decide +kernel
theorem dX5_rain_185 : decode cX5_rain 185 = .ok (.invokevirtual 187, 3) := by decide +kernel
theorem dX5_rain_188 : decode cX5_rain 188 = .ok (.iload 4, 2) := by decide +kernel
theorem dX5_rain_190 : decode cX5_rain 190 = .ok (.aload_n 0, 1) := by decide +kernel
theorem dX5_rain_191 : decode cX5_rain 191 = .ok (.getfield 41, 3) := by decide +kernel
theorem dX5_rain_194 : decode cX5_rain 194 = .ok (.invokestatic 106, 3) := by decide +kernel
theorem dX5_rain_197 : decode cX5_rain 197 = .ok (.iload_n 1, 1) := by decide +kernel
theorem dX5_rain_198 : decode cX5_rain 198 = .ok (.invokestatic 125, 3) := by decide +kernel
theorem dX5_rain_201 : decode cX5_rain 201 = .ok (.ifCond .eq 8, 3) := by decide +kernel
theorem dX5_rain_204 : decode cX5_rain 204 = .ok (.iload 7, 2) := by decide +kernel
theorem dX5_rain_206 : decode cX5_rain 206 = .ok (.goto 4, 3) := by decide +kernel
theorem dX5_rain_209 : decode cX5_rain 209 = .ok (.iconst 0, 1) := by decide +kernel
theorem dX5_rain_210 : decode cX5_rain 210 = .ok (.iadd, 1) := by decide +kernel
theorem dX5_rain_211 : decode cX5_rain 211 = .ok (.istore 4, 2) := by decide +kernel
theorem dX5_rain_213 : decode cX5_rain 213 = .ok (.iinc 6 1, 3) := by decide +kernel
theorem dX5_rain_216 : decode cX5_rain 216 = .ok (.goto (-136), 3) := by decide +kernel
theorem dX5_rain_219 : decode cX5_rain 219 = .ok (.iload 4, 2) := by decide +kernel
theorem dX5_rain_221 : decode cX5_rain 221 = .ok (.iload 5, 2) := by decide +kernel
theorem dX5_rain_223 : decode cX5_rain 223 = .ok (.invokestatic 190, 3) := by decide +kernel
theorem dX5_rain_226 : decode cX5_rain 226 = .ok (.istore 6, 2) := by decide +kernel
theorem dX5_rain_228 : decode cX5_rain 228 = .ok (.iload_n 3, 1) := by decide +kernel
theorem dX5_rain_229 : decode cX5_rain 229 = .ok (.ifCond .eq 11, 3) := by decide +kernel
theorem dX5_rain_232 : decode cX5_rain 232 = .ok (.iload 4, 2) := by decide +kernel
theorem dX5_rain_234 : decode cX5_rain 234 = .ok (.iload 6, 2) := by decide +kernel
theorem dX5_rain_236 : decode cX5_rain 236 = .ok (.idiv, 1) := by decide +kernel
theorem dX5_rain_237 : decode cX5_rain 237 = .ok (.goto 8, 3) := by decide +kernel
theorem dX5_rain_240 : decode cX5_rain 240 = .ok (.iload 5, 2) := by decide +kernel
theorem dX5_rain_242 : decode cX5_rain 242 = .ok (.iload 6, 2) := by decide +kernel
theorem dX5_rain_244 : decode cX5_rain 244 = .ok (.idiv, 1) := by decide +kernel
theorem dX5_rain_245 : decode cX5_rain 245 = .ok (.ireturn, 1) := by decide +kernel
theorem dX5_seed_0 : decode cX5_seed 0 = .ok (.aload_n 0, 1) := by decide +kernel
theorem dX5_seed_1 : decode cX5_seed 1 = .ok (.iconst 0, 1) := by decide +kernel
theorem dX5_seed_2 : decode cX5_seed 2 = .ok (.putfield 62, 3) := by decide +kernel
theorem dX5_seed_5 : decode cX5_seed 5 = .ok (.aload_n 0, 1) := by decide +kernel
theorem dX5_seed_6 : decode cX5_seed 6 = .ok (.getfield 193, 3) := by decide +kernel
theorem dX5_seed_9 : decode cX5_seed 9 = .ok (.lstore_n 3, 1) := by decide +kernel
theorem dX5_seed_10 : decode cX5_seed 10 = .ok (.aload_n 0, 1) := by decide +kernel
theorem dX5_seed_11 : decode cX5_seed 11 = .ok (.lload_n 1, 1) := by decide +kernel
theorem dX5_seed_12 : decode cX5_seed 12 = .ok (.putfield 193, 3) := by decide +kernel
theorem dX5_seed_15 : decode cX5_seed 15 = .ok (.lload_n 3, 1) := by decide +kernel
theorem dX5_seed_16 : decode cX5_seed 16 = .ok (.lreturn, 1) := by decide +kernel
theorem dX5_rains_0 : decode cX5_rains 0 = .ok (.aload_n 0, 1) := by decide +kernel
theorem dX5_rains_1 : decode cX5_rains 1 = .ok (.iconst 0, 1) := by decide +kernel
theorem dX5_rains_2 : decode cX5_rains 2 = .ok (.putfield 62, 3) := by decide +kernel
theorem dX5_rains_5 : decode cX5_rains 5 = .ok (.iload_n 1, 1) := by decide +kernel
theorem dX5_rains_6 : decode cX5_rains 6 = .ok (.i2l, 1) := by decide +kernel
theorem dX5_rains_7 : decode cX5_rains 7 = .ok (.lconst 1, 1) := by decide +kernel
theorem dX5_rains_8 : decode cX5_rains 8 = .ok (.ldc2_w 197, 3) := by decide +kernel
theorem dX5_rains_11 : decode cX5_rains 11 = .ok (.invokestatic 69, 3) := by decide +kernel
theorem dX5_rains_14 : decode cX5_rains 14 = .ok (.ifCond .eq 15, 3) := by decide +kernel
theorem dX5_rains_17 : decode cX5_rains 17 = .ok (.iload_n 2, 1) := by decide +kernel
theorem dX5_rains_18 : decode cX5_rains 18 = .ok (.i2l, 1) := by decide +kernel
theorem dX5_rains_19 : decode cX5_rains 19 = .ok (.lconst 0, 1) := by decide +kernel
theorem dX5_rains_20 : decode cX5_rains 20 = .ok (.ldc2_w 185, 3) := by decide +kernel
theorem dX5_rains_23 : decode cX5_rains 23 = .ok (.invokestatic 69, 3) := by decide +kernel
theorem dX5_rains_26 : decode cX5_rains 26 = .ok (.ifCond .ne 6, 3) := by decide +kernel
theorem dX5_rains_29 : decode cX5_rains 29 = .ok (.bipush (-2), 2) := by decide +kernel
theorem dX5_rains_31 : decode cX5_rains 31 = .ok (.ireturn, 1) := by decide +kernel
theorem dX5_rains_32 : decode cX5_rains 32 = .ok (.aload_n 0, 1) := by decide +kernel
theorem dX5_rains_33 : decode cX5_rains 33 = .ok (.getfield 28, 3) := by decide +kernel
theorem dX5_rains_36 : decode cX5_rains 36 = .ok (.aload_n 0, 1) := by decide +kernel
theorem dX5_rains_37 : decode cX5_rains 37 = .ok (.getfield 41, 3) := by decide +kernel
theorem dX5_rains_40 : decode cX5_rains 40 = .ok (.invokestatic 159, 3) := by decide +kernel
theorem dX5_rains_43 : decode cX5_rains 43 = .ok (.iconst 0, 1) := by decide +kernel
theorem dX5_rains_44 : decode cX5_rains 44 = .ok (.istore_n 3, 1) := by decide +kernel
theorem dX5_rains_45 : decode cX5_rains 45 = .ok (.iload_n 3, 1) := by decide +kernel
theorem dX5_rains_46 : decode cX5_rains 46 = .ok (.iload_n 1, 1) := by decide +kernel
theorem dX5_rains_47 : decode cX5_rains 47 = .ok (.if_icmp .ge 112, 3) := by decide +kernel
theorem dX5_rains_50 : decode cX5_rains 50 = .ok (.aload_n 0, 1) := by decide +kernel
theorem dX5_rains_51 : decode cX5_rains 51 = .ok (.aload_n 0, 1) := by decide +kernel
theorem dX5_rains_52 : decode cX5_rains 52 = .ok (.getfield 41, 3) := by decide +kernel
theorem dX5_rains_55 : decode cX5_rains 55 = .ok (.bipush (-9), 2) := by decide +kernel
theorem dX5_rains_57 : decode cX5_rains 57 = .ok (.invokevirtual 136, 3) := by decide +kernel
theorem dX5_rains_60 : decode cX5_rains 60 = .ok (.pop, 1) := by decide +kernel
theorem dX5_rains_61 : decode cX5_rains 61 = .ok (.iconst 0, 1) := by decide +kernel
theorem dX5_rains_62 : decode cX5_rains 62 = .ok (.istore 4, 2) := by decide +kernel
theorem dX5_rains_64 : decode cX5_rains 64 = .ok (.iconst 0, 1) := by decide +kernel
theorem dX5_rains_65 : decode cX5_rains 65 = .ok (.istore 5, 2) := by decide +kernel
theorem dX5_rains_67 : decode cX5_rains 67 = .ok (.iload 5, 2) := by decide +kernel
theorem dX5_rains_69 : decode cX5_rains 69 = .ok (.aload_n 0, 1) := by decide +kernel
theorem dX5_rains_70 : decode cX5_rains 70 = .ok (.getfield 66, 3) := by decide +kernel
theorem dX5_rains_73 : decode cX5_rains 73 = .ok (.if_icmp .ge 70, 3) := by decide +kernel
theorem dX5_rains_76 : decode cX5_rains 76 = .ok (.aload_n 0, 1) := by decide +kernel
theorem dX5_rains_77 : decode cX5_rains 77 = .ok (.getfield 41, 3) := by decide +kernel
theorem dX5_rains_80 : decode cX5_rains 80 = .ok (.bipush 49, 2) := by decide +kernel
theorem dX5_rains_82 : decode cX5_rains 82 = .ok (.iaload, 1) := by decide +kernel
theorem dX5_rains_83 : decode cX5_rains 83 = .ok (.iload 5, 2) := by decide +kernel
theorem dX5_rains_85 : decode cX5_rains 85 = .ok (.invokestatic 125, 3) := by decide +kernel
theorem dX5_rains_88 : decode cX5_rains 88 = .ok (.ifCond .ne 49, 3) := by decide +kernel
theorem dX5_rains_91 : decode cX5_rains 91 = .ok (.aload_n 0, 1) := by decide +kernel
theorem dX5_rains_92 : decode cX5_rains 92 = .ok (.aload_n 0, 1) := by decide +kernel
theorem dX5_rains_93 : decode cX5_rains 93 = .ok (.getfield 193, 3) := by decide +kernel
theorem dX5_rains_96 : decode cX5_rains 96 = .ok (.ldc2_w 199, 3) := by decide +kernel
theorem dX5_rains_99 : decode cX5_rains 99 = .ok (.lmul, 1) := by decide +kernel
theorem dX5_rains_100 : decode cX5_rains 100 = .ok (.ldc2_w 201, 3) := by decide +kernel
theorem dX5_rains_103 : decode cX5_rains 103 = .ok (.ladd, 1) := by decide +kernel
theorem dX5_rains_104 : decode cX5_rains 104 = .ok (.putfield 193, 3) := by decide +kernel
theorem dX5_rains_107 : decode cX5_rains 107 = .ok (.iload 4, 2) := by decide +kernel
theorem dX5_rains_109 : decode cX5_rains 109 = .ok (.aload_n 0, 1) := by decide +kernel
theorem dX5_rains_110 : decode cX5_rains 110 = .ok (.getfield 193, 3) := by decide +kernel
theorem dX5_rains_113 : decode cX5_rains 113 = .ok (.bipush 33, 2) := by decide +kernel
theorem dX5_rains_115 : decode cX5_rains 115 = .ok (.lushr, 1) := by decide +kernel
theorem dX5_rains_116 : decode cX5_rains 116 = .ok (.ldc2_w 185, 3) := by decide +kernel
theorem dX5_rains_119 : decode cX5_rains 119 = .ok (.lrem, 1) := by decide +kernel
theorem dX5_rains_120 : decode cX5_rains 120 = .ok (.iload_n 2, 1) := by decide +kernel
theorem dX5_rains_121 : decode cX5_rains 121 = .ok (.i2l, 1) := by decide +kernel
theorem dX5_rains_122 : decode cX5_rains 122 = .ok (.lcmp, 1) := by decide +kernel
theorem dX5_rains_123 : decode cX5_rains 123 = .ok (.ifCond .ge 10, 3) := by decide +kernel
theorem dX5_rains_126 : decode cX5_rains 126 = .ok (.iconst 1, 1) := by decide +kernel
theorem dX5_rains_127 : decode cX5_rains 127 = .ok (.iload 5, 2) := by decide +kernel
theorem dX5_rains_129 : decode cX5_rains 129 = .ok (.ishl, 1) := by decide +kernel
theorem dX5_rains_130 : decode cX5_rains 130 = .ok (.goto 4, 3) := by decide +kernel
theorem dX5_rains_133 : decode cX5_rains 133 = .ok (.iconst 0, 1) := by decide +kernel
theorem dX5_rains_134 : decode cX5_rains 134 = .ok (.ior, 1) := by decide +kernel
theorem dX5_rains_135 : decode cX5_rains 135 = .ok (.istore 4, 2) := by decide +kernel
theorem dX5_rains_137 : decode cX5_rains 137 = .ok (.iinc 5 1, 3) := by decide +kernel
theorem dX5_rains_140 : decode cX5_rains 140 = .ok (.goto (-73), 3) := by decide +kernel
theorem dX5_rains_143 : decode cX5_rains 143 = .ok (.aload_n 0, 1) := by decide +kernel
theorem dX5_rains_144 : decode cX5_rains 144 = .ok (.aload_n 0, 1) := by decide +kernel
theorem dX5_rains_145 : decode cX5_rains 145 = .ok (.getfield 41, 3) := by decide +kernel
theorem dX5_rains_148 : decode cX5_rains 148 = .ok (.iload 4, 2) := by decide +kernel
theorem dX5_rains_150 : decode cX5_rains 150 = .ok (.invokevirtual 187, 3) := by decide +kernel
theorem dX5_rains_153 : decode cX5_rains 153 = .ok (.iinc 3 1, 3) := by decide +kernel
theorem dX5_rains_156 : decode cX5_rains 156 = .ok (.goto (-111), 3) := by decide +kernel
theorem dX5_rains_159 : decode cX5_rains 159 = .ok (.aload_n 0, 1) := by decide +kernel
theorem dX5_rains_160 : decode cX5_rains 160 = .ok (.getfield 41, 3) := by decide +kernel
theorem dX5_rains_163 : decode cX5_rains 163 = .ok (.invokestatic 106, 3) := by decide +kernel
theorem dX5_rains_166 : decode cX5_rains 166 = .ok (.ireturn, 1) := by decide +kernel
theorem dX5_keep_0 : decode cX5_keep 0 = .ok (.aload_n 0, 1) := by decide +kernel
theorem dX5_keep_1 : decode cX5_keep 1 = .ok (.iconst 0, 1) := by decide +kernel
theorem dX5_keep_2 : decode cX5_keep 2 = .ok (.putfield 62, 3) := by decide +kernel
theorem dX5_keep_5 : decode cX5_keep 5 = .ok (.iload_n 1, 1) := by decide +kernel
theorem dX5_keep_6 : decode cX5_keep 6 = .ok (.i2l, 1) := by decide +kernel
theorem dX5_keep_7 : decode cX5_keep 7 = .ok (.lconst 0, 1) := by decide +kernel
theorem dX5_keep_8 : decode cX5_keep 8 = .ok (.lconst 1, 1) := by decide +kernel
theorem dX5_keep_9 : decode cX5_keep 9 = .ok (.invokestatic 69, 3) := by decide +kernel
theorem dX5_keep_12 : decode cX5_keep 12 = .ok (.ifCond .ne 5, 3) := by decide +kernel
theorem dX5_keep_15 : decode cX5_keep 15 = .ok (.iconst (-1), 1) := by decide +kernel
theorem dX5_keep_16 : decode cX5_keep 16 = .ok (.ireturn, 1) := by decide +kernel
theorem dX5_keep_17 : decode cX5_keep 17 = .ok (.aload_n 0, 1) := by decide +kernel
theorem dX5_keep_18 : decode cX5_keep 18 = .ok (.getfield 37, 3) := by decide +kernel
theorem dX5_keep_21 : decode cX5_keep 21 = .ok (.iload_n 1, 1) := by decide +kernel
theorem dX5_keep_22 : decode cX5_keep 22 = .ok (.iconst 1, 1) := by decide +kernel
theorem dX5_keep_23 : decode cX5_keep 23 = .ok (.bastore, 1) := by decide +kernel
theorem dX5_keep_24 : decode cX5_keep 24 = .ok (.iconst 0, 1) := by decide +kernel
theorem dX5_keep_25 : decode cX5_keep 25 = .ok (.istore_n 2, 1) := by decide +kernel
theorem dX5_keep_26 : decode cX5_keep 26 = .ok (.iload_n 2, 1) := by decide +kernel
theorem dX5_keep_27 : decode cX5_keep 27 = .ok (.bipush 52, 2) := by decide +kernel
theorem dX5_keep_29 : decode cX5_keep 29 = .ok (.if_icmp .ge 26, 3) := by decide +kernel
theorem dX5_keep_32 : decode cX5_keep 32 = .ok (.aload_n 0, 1) := by decide +kernel
theorem dX5_keep_33 : decode cX5_keep 33 = .ok (.getfield 34, 3) := by decide +kernel
theorem dX5_keep_36 : decode cX5_keep 36 = .ok (.bipush 52, 2) := by decide +kernel
theorem dX5_keep_38 : decode cX5_keep 38 = .ok (.iload_n 1, 1) := by decide +kernel
theorem dX5_keep_39 : decode cX5_keep 39 = .ok (.imul, 1) := by decide +kernel
theorem dX5_keep_40 : decode cX5_keep 40 = .ok (.iload_n 2, 1) := by decide +kernel
theorem dX5_keep_41 : decode cX5_keep 41 = .ok (.iadd, 1) := by decide +kernel
theorem dX5_keep_42 : decode cX5_keep 42 = .ok (.aload_n 0, 1) := by decide +kernel
theorem dX5_keep_43 : decode cX5_keep 43 = .ok (.getfield 28, 3) := by decide +kernel
theorem dX5_keep_46 : decode cX5_keep 46 = .ok (.iload_n 2, 1) := by decide +kernel
theorem dX5_keep_47 : decode cX5_keep 47 = .ok (.iaload, 1) := by decide +kernel
theorem dX5_keep_48 : decode cX5_keep 48 = .ok (.iastore, 1) := by decide +kernel
theorem dX5_keep_49 : decode cX5_keep 49 = .ok (.iinc 2 1, 3) := by decide +kernel
theorem dX5_keep_52 : decode cX5_keep 52 = .ok (.goto (-26), 3) := by decide +kernel
theorem dX5_keep_55 : decode cX5_keep 55 = .ok (.aload_n 0, 1) := by decide +kernel
theorem dX5_keep_56 : decode cX5_keep 56 = .ok (.getfield 28, 3) := by decide +kernel
theorem dX5_keep_59 : decode cX5_keep 59 = .ok (.bipush 48, 2) := by decide +kernel
theorem dX5_keep_61 : decode cX5_keep 61 = .ok (.iaload, 1) := by decide +kernel
theorem dX5_keep_62 : decode cX5_keep 62 = .ok (.ireturn, 1) := by decide +kernel
theorem dX5_again_0 : decode cX5_again 0 = .ok (.aload_n 0, 1) := by decide +kernel
theorem dX5_again_1 : decode cX5_again 1 = .ok (.iconst 0, 1) := by decide +kernel
theorem dX5_again_2 : decode cX5_again 2 = .ok (.putfield 62, 3) := by decide +kernel
theorem dX5_again_5 : decode cX5_again 5 = .ok (.iload_n 1, 1) := by decide +kernel
theorem dX5_again_6 : decode cX5_again 6 = .ok (.i2l, 1) := by decide +kernel
theorem dX5_again_7 : decode cX5_again 7 = .ok (.lconst 0, 1) := by decide +kernel
theorem dX5_again_8 : decode cX5_again 8 = .ok (.lconst 1, 1) := by decide +kernel
theorem dX5_again_9 : decode cX5_again 9 = .ok (.invokestatic 69, 3) := by decide +kernel
theorem dX5_again_12 : decode cX5_again 12 = .ok (.ifCond .ne 5, 3) := by decide +kernel
theorem dX5_again_15 : decode cX5_again 15 = .ok (.iconst (-1), 1) := by decide +kernel
theorem dX5_again_16 : decode cX5_again 16 = .ok (.ireturn, 1) := by decide +kernel
theorem dX5_again_17 : decode cX5_again 17 = .ok (.aload_n 0, 1) := by decide +kernel
theorem dX5_again_18 : decode cX5_again 18 = .ok (.getfield 37, 3) := by decide +kernel
theorem dX5_again_21 : decode cX5_again 21 = .ok (.iload_n 1, 1) := by decide +kernel
theorem dX5_again_22 : decode cX5_again 22 = .ok (.baload, 1) := by decide +kernel
theorem dX5_again_23 : decode cX5_again 23 = .ok (.ifCond .ne 6, 3) := by decide +kernel
theorem dX5_again_26 : decode cX5_again 26 = .ok (.bipush (-3), 2) := by decide +kernel
theorem dX5_again_28 : decode cX5_again 28 = .ok (.ireturn, 1) := by decide +kernel
theorem dX5_again_29 : decode cX5_again 29 = .ok (.iconst 0, 1) := by decide +kernel
theorem dX5_again_30 : decode cX5_again 30 = .ok (.istore_n 2, 1) := by decide +kernel
theorem dX5_again_31 : decode cX5_again 31 = .ok (.iload_n 2, 1) := by decide +kernel
theorem dX5_again_32 : decode cX5_again 32 = .ok (.bipush 52, 2) := by decide +kernel
theorem dX5_again_34 : decode cX5_again 34 = .ok (.if_icmp .ge 26, 3) := by decide +kernel
theorem dX5_again_37 : decode cX5_again 37 = .ok (.aload_n 0, 1) := by decide +kernel
theorem dX5_again_38 : decode cX5_again 38 = .ok (.getfield 28, 3) := by decide +kernel
theorem dX5_again_41 : decode cX5_again 41 = .ok (.iload_n 2, 1) := by decide +kernel
theorem dX5_again_42 : decode cX5_again 42 = .ok (.aload_n 0, 1) := by decide +kernel
theorem dX5_again_43 : decode cX5_again 43 = .ok (.getfield 34, 3) := by decide +kernel
theorem dX5_again_46 : decode cX5_again 46 = .ok (.bipush 52, 2) := by decide +kernel
theorem dX5_again_48 : decode cX5_again 48 = .ok (.iload_n 1, 1) := by decide +kernel
theorem dX5_again_49 : decode cX5_again 49 = .ok (.imul, 1) := by decide +kernel
theorem dX5_again_50 : decode cX5_again 50 = .ok (.iload_n 2, 1) := by decide +kernel
theorem dX5_again_51 : decode cX5_again 51 = .ok (.iadd, 1) := by decide +kernel
theorem dX5_again_52 : decode cX5_again 52 = .ok (.iaload, 1) := by decide +kernel
theorem dX5_again_53 : decode cX5_again 53 = .ok (.iastore, 1) := by decide +kernel
theorem dX5_again_54 : decode cX5_again 54 = .ok (.iinc 2 1, 3) := by decide +kernel
theorem dX5_again_57 : decode cX5_again 57 = .ok (.goto (-26), 3) := by decide +kernel
theorem dX5_again_60 : decode cX5_again 60 = .ok (.aload_n 0, 1) := by decide +kernel
theorem dX5_again_61 : decode cX5_again 61 = .ok (.iconst 0, 1) := by decide +kernel
theorem dX5_again_62 : decode cX5_again 62 = .ok (.putfield 113, 3) := by decide +kernel
theorem dX5_again_65 : decode cX5_again 65 = .ok (.aload_n 0, 1) := by decide +kernel
theorem dX5_again_66 : decode cX5_again 66 = .ok (.getfield 28, 3) := by decide +kernel
theorem dX5_again_69 : decode cX5_again 69 = .ok (.bipush 48, 2) := by decide +kernel
theorem dX5_again_71 : decode cX5_again 71 = .ok (.iaload, 1) := by decide +kernel
theorem dX5_again_72 : decode cX5_again 72 = .ok (.ireturn, 1) := by decide +kernel
theorem dJ6_bitCount_0f7a4_0 : decode cJ6_bitCount_0f7a4 0 = .ok (.iload_n 0, 1) := by decide +kernel
theorem dJ6_bitCount_0f7a4_1 : decode cJ6_bitCount_0f7a4 1 = .ok (.iload_n 0, 1) := by decide +kernel
theorem dJ6_bitCount_0f7a4_2 : decode cJ6_bitCount_0f7a4 2 = .ok (.iconst 1, 1) := by decide +kernel
theorem dJ6_bitCount_0f7a4_3 : decode cJ6_bitCount_0f7a4 3 = .ok (.iushr, 1) := by decide +kernel
theorem dJ6_bitCount_0f7a4_4 : decode cJ6_bitCount_0f7a4 4 = .ok (.ldc_w 265, 3) := by decide +kernel
theorem dJ6_bitCount_0f7a4_7 : decode cJ6_bitCount_0f7a4 7 = .ok (.iand, 1) := by decide +kernel
theorem dJ6_bitCount_0f7a4_8 : decode cJ6_bitCount_0f7a4 8 = .ok (.isub, 1) := by decide +kernel
theorem dJ6_bitCount_0f7a4_9 : decode cJ6_bitCount_0f7a4 9 = .ok (.istore_n 0, 1) := by decide +kernel
theorem dJ6_bitCount_0f7a4_10 : decode cJ6_bitCount_0f7a4 10 = .ok (.iload_n 0, 1) := by decide +kernel
theorem dJ6_bitCount_0f7a4_11 : decode cJ6_bitCount_0f7a4 11 = .ok (.ldc_w 266, 3) := by decide +kernel
theorem dJ6_bitCount_0f7a4_14 : decode cJ6_bitCount_0f7a4 14 = .ok (.iand, 1) := by decide +kernel
theorem dJ6_bitCount_0f7a4_15 : decode cJ6_bitCount_0f7a4 15 = .ok (.iload_n 0, 1) := by decide +kernel
theorem dJ6_bitCount_0f7a4_16 : decode cJ6_bitCount_0f7a4 16 = .ok (.iconst 2, 1) := by decide +kernel
theorem dJ6_bitCount_0f7a4_17 : decode cJ6_bitCount_0f7a4 17 = .ok (.iushr, 1) := by decide +kernel
theorem dJ6_bitCount_0f7a4_18 : decode cJ6_bitCount_0f7a4 18 = .ok (.ldc_w 266, 3) := by decide +kernel
theorem dJ6_bitCount_0f7a4_21 : decode cJ6_bitCount_0f7a4 21 = .ok (.iand, 1) := by decide +kernel
theorem dJ6_bitCount_0f7a4_22 : decode cJ6_bitCount_0f7a4 22 = .ok (.iadd, 1) := by decide +kernel
theorem dJ6_bitCount_0f7a4_23 : decode cJ6_bitCount_0f7a4 23 = .ok (.istore_n 0, 1) := by decide +kernel
theorem dJ6_bitCount_0f7a4_24 : decode cJ6_bitCount_0f7a4 24 = .ok (.iload_n 0, 1) := by decide +kernel
theorem dJ6_bitCount_0f7a4_25 : decode cJ6_bitCount_0f7a4 25 = .ok (.iload_n 0, 1) := by decide +kernel
theorem dJ6_bitCount_0f7a4_26 : decode cJ6_bitCount_0f7a4 26 = .ok (.iconst 4, 1) := by decide +kernel
theorem dJ6_bitCount_0f7a4_27 : decode cJ6_bitCount_0f7a4 27 = .ok (.iushr, 1) := by decide +kernel
theorem dJ6_bitCount_0f7a4_28 : decode cJ6_bitCount_0f7a4 28 = .ok (.iadd, 1) := by decide +kernel
theorem dJ6_bitCount_0f7a4_29 : decode cJ6_bitCount_0f7a4 29 = .ok (.ldc_w 267, 3) := by decide +kernel
theorem dJ6_bitCount_0f7a4_32 : decode cJ6_bitCount_0f7a4 32 = .ok (.iand, 1) := by decide +kernel
theorem dJ6_bitCount_0f7a4_33 : decode cJ6_bitCount_0f7a4 33 = .ok (.istore_n 0, 1) := by decide +kernel
theorem dJ6_bitCount_0f7a4_34 : decode cJ6_bitCount_0f7a4 34 = .ok (.iload_n 0, 1) := by decide +kernel
theorem dJ6_bitCount_0f7a4_35 : decode cJ6_bitCount_0f7a4 35 = .ok (.iload_n 0, 1) := by decide +kernel
theorem dJ6_bitCount_0f7a4_36 : decode cJ6_bitCount_0f7a4 36 = .ok (.bipush 8, 2) := by decide +kernel
theorem dJ6_bitCount_0f7a4_38 : decode cJ6_bitCount_0f7a4 38 = .ok (.iushr, 1) := by decide +kernel
theorem dJ6_bitCount_0f7a4_39 : decode cJ6_bitCount_0f7a4 39 = .ok (.iadd, 1) := by decide +kernel
theorem dJ6_bitCount_0f7a4_40 : decode cJ6_bitCount_0f7a4 40 = .ok (.istore_n 0, 1) := by decide +kernel
theorem dJ6_bitCount_0f7a4_41 : decode cJ6_bitCount_0f7a4 41 = .ok (.iload_n 0, 1) := by decide +kernel
theorem dJ6_bitCount_0f7a4_42 : decode cJ6_bitCount_0f7a4 42 = .ok (.iload_n 0, 1) := by decide +kernel
theorem dJ6_bitCount_0f7a4_43 : decode cJ6_bitCount_0f7a4 43 = .ok (.bipush 16, 2) := by decide +kernel
theorem dJ6_bitCount_0f7a4_45 : decode cJ6_bitCount_0f7a4 45 = .ok (.iushr, 1) := by decide +kernel
theorem dJ6_bitCount_0f7a4_46 : decode cJ6_bitCount_0f7a4 46 = .ok (.iadd, 1) := by decide +kernel
theorem dJ6_bitCount_0f7a4_47 : decode cJ6_bitCount_0f7a4 47 = .ok (.istore_n 0, 1) := by decide +kernel
theorem dJ6_bitCount_0f7a4_48 : decode cJ6_bitCount_0f7a4 48 = .ok (.iload_n 0, 1) := by decide +kernel
theorem dJ6_bitCount_0f7a4_49 : decode cJ6_bitCount_0f7a4 49 = .ok (.bipush 63, 2) := by decide +kernel
theorem dJ6_bitCount_0f7a4_51 : decode cJ6_bitCount_0f7a4 51 = .ok (.iand, 1) := by decide +kernel
theorem dJ6_bitCount_0f7a4_52 : decode cJ6_bitCount_0f7a4 52 = .ok (.ireturn, 1) := by decide +kernel
theorem dJ9_abs_0f7a4_0 : decode cJ9_abs_0f7a4 0 = .ok (.iload_n 0, 1) := by decide +kernel
theorem dJ9_abs_0f7a4_1 : decode cJ9_abs_0f7a4 1 = .ok (.ifCond .ge 8, 3) := by decide +kernel
theorem dJ9_abs_0f7a4_4 : decode cJ9_abs_0f7a4 4 = .ok (.iload_n 0, 1) := by decide +kernel
theorem dJ9_abs_0f7a4_5 : decode cJ9_abs_0f7a4 5 = .ok (.ineg, 1) := by decide +kernel
theorem dJ9_abs_0f7a4_6 : decode cJ9_abs_0f7a4 6 = .ok (.goto 4, 3) := by decide +kernel
theorem dJ9_abs_0f7a4_9 : decode cJ9_abs_0f7a4 9 = .ok (.iload_n 0, 1) := by decide +kernel
theorem dJ9_abs_0f7a4_10 : decode cJ9_abs_0f7a4 10 = .ok (.ireturn, 1) := by decide +kernel
theorem dJ9_max_7cf53_0 : decode cJ9_max_7cf53 0 = .ok (.iload_n 0, 1) := by decide +kernel
theorem dJ9_max_7cf53_1 : decode cJ9_max_7cf53 1 = .ok (.iload_n 1, 1) := by decide +kernel
theorem dJ9_max_7cf53_2 : decode cJ9_max_7cf53 2 = .ok (.if_icmp .lt 7, 3) := by decide +kernel
theorem dJ9_max_7cf53_5 : decode cJ9_max_7cf53 5 = .ok (.iload_n 0, 1) := by decide +kernel
theorem dJ9_max_7cf53_6 : decode cJ9_max_7cf53 6 = .ok (.goto 4, 3) := by decide +kernel
theorem dJ9_max_7cf53_9 : decode cJ9_max_7cf53 9 = .ok (.iload_n 1, 1) := by decide +kernel
theorem dJ9_max_7cf53_10 : decode cJ9_max_7cf53 10 = .ok (.ireturn, 1) := by decide +kernel
theorem dJ9_min_7cf53_0 : decode cJ9_min_7cf53 0 = .ok (.iload_n 0, 1) := by decide +kernel
theorem dJ9_min_7cf53_1 : decode cJ9_min_7cf53 1 = .ok (.iload_n 1, 1) := by decide +kernel
theorem dJ9_min_7cf53_2 : decode cJ9_min_7cf53 2 = .ok (.if_icmp .gt 7, 3) := by decide +kernel
theorem dJ9_min_7cf53_5 : decode cJ9_min_7cf53 5 = .ok (.iload_n 0, 1) := by decide +kernel
theorem dJ9_min_7cf53_6 : decode cJ9_min_7cf53 6 = .ok (.goto 4, 3) := by decide +kernel
theorem dJ9_min_7cf53_9 : decode cJ9_min_7cf53 9 = .ok (.iload_n 1, 1) := by decide +kernel
theorem dJ9_min_7cf53_10 : decode cJ9_min_7cf53 10 = .ok (.ireturn, 1) := by decide +kernel
theorem dL_law_0 : decode cL_law 0 = .ok (.new 7, 3) := by decide +kernel
theorem dL_law_3 : decode cL_law 3 = .ok (.dup, 1) := by decide +kernel
theorem dL_law_4 : decode cL_law 4 = .ok (.invokespecial 9, 3) := by decide +kernel
theorem dL_law_7 : decode cL_law 7 = .ok (.astore_n 1, 1) := by decide +kernel
theorem dL_law_8 : decode cL_law 8 = .ok (.new 10, 3) := by decide +kernel
theorem dL_law_11 : decode cL_law 11 = .ok (.dup, 1) := by decide +kernel
theorem dL_law_12 : decode cL_law 12 = .ok (.invokespecial 12, 3) := by decide +kernel
theorem dL_law_15 : decode cL_law 15 = .ok (.astore_n 2, 1) := by decide +kernel
theorem dL_law_16 : decode cL_law 16 = .ok (.iconst 0, 1) := by decide +kernel
theorem dL_law_17 : decode cL_law 17 = .ok (.istore_n 3, 1) := by decide +kernel
theorem dL_law_18 : decode cL_law 18 = .ok (.iload_n 3, 1) := by decide +kernel
theorem dL_law_19 : decode cL_law 19 = .ok (.aload_n 0, 1) := by decide +kernel
theorem dL_law_20 : decode cL_law 20 = .ok (.arraylength, 1) := by decide +kernel
theorem dL_law_21 : decode cL_law 21 = .ok (.iconst 5, 1) := by decide +kernel
theorem dL_law_22 : decode cL_law 22 = .ok (.isub, 1) := by decide +kernel
theorem dL_law_23 : decode cL_law 23 = .ok (.if_icmp .gt 903, 3) := by decide +kernel
theorem dL_law_26 : decode cL_law 26 = .ok (.aload_n 0, 1) := by decide +kernel
theorem dL_law_27 : decode cL_law 27 = .ok (.iload_n 3, 1) := by decide +kernel
theorem dL_law_28 : decode cL_law 28 = .ok (.iaload, 1) := by decide +kernel
theorem dL_law_29 : decode cL_law 29 = .ok (.bipush 31, 2) := by decide +kernel
theorem dL_law_31 : decode cL_law 31 = .ok (.iand, 1) := by decide +kernel
theorem dL_law_32 : decode cL_law 32 = .ok (.tableswitch 888 0 26 #[124, 147, 160, 173, 186, 209, 242, 275, 288, 341, 364, 377, 436, 459, 482, 505, 538, 561, 574, 597, 620, 663, 696, 755, 809, 842, 865], 124) := by decide +kernel
theorem dL_law_156 : decode cL_law 156 = .ok (.aload_n 1, 1) := by decide +kernel
theorem dL_law_157 : decode cL_law 157 = .ok (.aload_n 0, 1) := by decide +kernel
theorem dL_law_158 : decode cL_law 158 = .ok (.iload_n 3, 1) := by decide +kernel
theorem dL_law_159 : decode cL_law 159 = .ok (.iconst 1, 1) := by decide +kernel
theorem dL_law_160 : decode cL_law 160 = .ok (.iadd, 1) := by decide +kernel
theorem dL_law_161 : decode cL_law 161 = .ok (.iaload, 1) := by decide +kernel
theorem dL_law_162 : decode cL_law 162 = .ok (.invokevirtual 13, 3) := by decide +kernel
theorem dL_law_165 : decode cL_law 165 = .ok (.aload_n 2, 1) := by decide +kernel
theorem dL_law_166 : decode cL_law 166 = .ok (.aload_n 0, 1) := by decide +kernel
theorem dL_law_167 : decode cL_law 167 = .ok (.iload_n 3, 1) := by decide +kernel
theorem dL_law_168 : decode cL_law 168 = .ok (.iconst 1, 1) := by decide +kernel
theorem dL_law_169 : decode cL_law 169 = .ok (.iadd, 1) := by decide +kernel
theorem dL_law_170 : decode cL_law 170 = .ok (.iaload, 1) := by decide +kernel
theorem dL_law_171 : decode cL_law 171 = .ok (.invokevirtual 17, 3) := by decide +kernel
theorem dL_law_174 : decode cL_law 174 = .ok (.if_icmp .eq 746, 3) := by decide +kernel
theorem dL_law_177 : decode cL_law 177 = .ok (.iconst 0, 1) := by decide +kernel
theorem dL_law_178 : decode cL_law 178 = .ok (.ireturn, 1) := by decide +kernel
theorem dL_law_179 : decode cL_law 179 = .ok (.aload_n 1, 1) := by decide +kernel
theorem dL_law_180 : decode cL_law 180 = .ok (.invokevirtual 18, 3) := by decide +kernel
theorem dL_law_183 : decode cL_law 183 = .ok (.aload_n 2, 1) := by decide +kernel
theorem dL_law_184 : decode cL_law 184 = .ok (.invokevirtual 22, 3) := by decide +kernel
theorem dL_law_187 : decode cL_law 187 = .ok (.if_icmp .eq 733, 3) := by decide +kernel
theorem dL_law_190 : decode cL_law 190 = .ok (.iconst 0, 1) := by decide +kernel
theorem dL_law_191 : decode cL_law 191 = .ok (.ireturn, 1) := by decide +kernel
theorem dL_law_192 : decode cL_law 192 = .ok (.aload_n 1, 1) := by decide +kernel
theorem dL_law_193 : decode cL_law 193 = .ok (.invokevirtual 23, 3) := by decide +kernel
theorem dL_law_196 : decode cL_law 196 = .ok (.aload_n 2, 1) := by decide +kernel
theorem dL_law_197 : decode cL_law 197 = .ok (.invokevirtual 26, 3) := by decide +kernel
theorem dL_law_200 : decode cL_law 200 = .ok (.if_icmp .eq 720, 3) := by decide +kernel
theorem dL_law_203 : decode cL_law 203 = .ok (.iconst 0, 1) := by decide +kernel
theorem dL_law_204 : decode cL_law 204 = .ok (.ireturn, 1) := by decide +kernel
theorem dL_law_205 : decode cL_law 205 = .ok (.aload_n 1, 1) := by decide +kernel
theorem dL_law_206 : decode cL_law 206 = .ok (.invokevirtual 27, 3) := by decide +kernel
theorem dL_law_209 : decode cL_law 209 = .ok (.aload_n 2, 1) := by decide +kernel
theorem dL_law_210 : decode cL_law 210 = .ok (.invokevirtual 30, 3) := by decide +kernel
theorem dL_law_213 : decode cL_law 213 = .ok (.if_icmp .eq 707, 3) := by decide +kernel
theorem dL_law_216 : decode cL_law 216 = .ok (.iconst 0, 1) := by decide +kernel
theorem dL_law_217 : decode cL_law 217 = .ok (.ireturn, 1) := by decide +kernel
theorem dL_law_218 : decode cL_law 218 = .ok (.aload_n 1, 1) := by decide +kernel
theorem dL_law_219 : decode cL_law 219 = .ok (.aload_n 0, 1) := by decide +kernel
theorem dL_law_220 : decode cL_law 220 = .ok (.iload_n 3, 1) := by decide +kernel
theorem dL_law_221 : decode cL_law 221 = .ok (.iconst 1, 1) := by decide +kernel
theorem dL_law_222 : decode cL_law 222 = .ok (.iadd, 1) := by decide +kernel
theorem dL_law_223 : decode cL_law 223 = .ok (.iaload, 1) := by decide +kernel
theorem dL_law_224 : decode cL_law 224 = .ok (.invokevirtual 31, 3) := by decide +kernel
theorem dL_law_227 : decode cL_law 227 = .ok (.aload_n 2, 1) := by decide +kernel
theorem dL_law_228 : decode cL_law 228 = .ok (.aload_n 0, 1) := by decide +kernel
theorem dL_law_229 : decode cL_law 229 = .ok (.iload_n 3, 1) := by decide +kernel
theorem dL_law_230 : decode cL_law 230 = .ok (.iconst 1, 1) := by decide +kernel
theorem dL_law_231 : decode cL_law 231 = .ok (.iadd, 1) := by decide +kernel
theorem dL_law_232 : decode cL_law 232 = .ok (.iaload, 1) := by decide +kernel
theorem dL_law_233 : decode cL_law 233 = .ok (.invokevirtual 34, 3) := by decide +kernel
theorem dL_law_236 : decode cL_law 236 = .ok (.if_icmp .eq 684, 3) := by decide +kernel
theorem dL_law_239 : decode cL_law 239 = .ok (.iconst 0, 1) := by decide +kernel
theorem dL_law_240 : decode cL_law 240 = .ok (.ireturn, 1) := by decide +kernel
theorem dL_law_241 : decode cL_law 241 = .ok (.aload_n 1, 1) := by decide +kernel
theorem dL_law_242 : decode cL_law 242 = .ok (.aload_n 0, 1) := by decide +kernel
theorem dL_law_243 : decode cL_law 243 = .ok (.iload_n 3, 1) := by decide +kernel
theorem dL_law_244 : decode cL_law 244 = .ok (.iconst 1, 1) := by decide +kernel
theorem dL_law_245 : decode cL_law 245 = .ok (.iadd, 1) := by decide +kernel
theorem dL_law_246 : decode cL_law 246 = .ok (.iaload, 1) := by decide +kernel
theorem dL_law_247 : decode cL_law 247 = .ok (.aload_n 0, 1) := by decide +kernel
theorem dL_law_248 : decode cL_law 248 = .ok (.iload_n 3, 1) := by decide +kernel
theorem dL_law_249 : decode cL_law 249 = .ok (.iconst 2, 1) := by decide +kernel
theorem dL_law_250 : decode cL_law 250 = .ok (.iadd, 1) := by decide +kernel
theorem dL_law_251 : decode cL_law 251 = .ok (.iaload, 1) := by decide +kernel
theorem dL_law_252 : decode cL_law 252 = .ok (.invokevirtual 35, 3) := by decide +kernel
theorem dL_law_255 : decode cL_law 255 = .ok (.aload_n 2, 1) := by decide +kernel
theorem dL_law_256 : decode cL_law 256 = .ok (.aload_n 0, 1) := by decide +kernel
theorem dL_law_257 : decode cL_law 257 = .ok (.iload_n 3, 1) := by decide +kernel
theorem dL_law_258 : decode cL_law 258 = .ok (.iconst 1, 1) := by decide +kernel
theorem dL_law_259 : decode cL_law 259 = .ok (.iadd, 1) := by decide +kernel
theorem dL_law_260 : decode cL_law 260 = .ok (.iaload, 1) := by decide +kernel
theorem dL_law_261 : decode cL_law 261 = .ok (.aload_n 0, 1) := by decide +kernel
theorem dL_law_262 : decode cL_law 262 = .ok (.iload_n 3, 1) := by decide +kernel
theorem dL_law_263 : decode cL_law 263 = .ok (.iconst 2, 1) := by decide +kernel
theorem dL_law_264 : decode cL_law 264 = .ok (.iadd, 1) := by decide +kernel
theorem dL_law_265 : decode cL_law 265 = .ok (.iaload, 1) := by decide +kernel
theorem dL_law_266 : decode cL_law 266 = .ok (.invokevirtual 39, 3) := by decide +kernel
theorem dL_law_269 : decode cL_law 269 = .ok (.if_icmp .eq 651, 3) := by decide +kernel
theorem dL_law_272 : decode cL_law 272 = .ok (.iconst 0, 1) := by decide +kernel
theorem dL_law_273 : decode cL_law 273 = .ok (.ireturn, 1) := by decide +kernel
theorem dL_law_274 : decode cL_law 274 = .ok (.aload_n 1, 1) := by decide +kernel
theorem dL_law_275 : decode cL_law 275 = .ok (.aload_n 0, 1) := by decide +kernel
theorem dL_law_276 : decode cL_law 276 = .ok (.iload_n 3, 1) := by decide +kernel
theorem dL_law_277 : decode cL_law 277 = .ok (.iconst 1, 1) := by decide +kernel
theorem dL_law_278 : decode cL_law 278 = .ok (.iadd, 1) := by decide +kernel
theorem dL_law_279 : decode cL_law 279 = .ok (.iaload, 1) := by decide +kernel
theorem dL_law_280 : decode cL_law 280 = .ok (.aload_n 0, 1) := by decide +kernel
theorem dL_law_281 : decode cL_law 281 = .ok (.iload_n 3, 1) := by decide +kernel
theorem dL_law_282 : decode cL_law 282 = .ok (.iconst 2, 1) := by decide +kernel
theorem dL_law_283 : decode cL_law 283 = .ok (.iadd, 1) := by decide +kernel
theorem dL_law_284 : decode cL_law 284 = .ok (.iaload, 1) := by decide +kernel
theorem dL_law_285 : decode cL_law 285 = .ok (.invokevirtual 40, 3) := by decide +kernel
theorem dL_law_288 : decode cL_law 288 = .ok (.aload_n 2, 1) := by decide +kernel
theorem dL_law_289 : decode cL_law 289 = .ok (.aload_n 0, 1) := by decide +kernel
theorem dL_law_290 : decode cL_law 290 = .ok (.iload_n 3, 1) := by decide +kernel
theorem dL_law_291 : decode cL_law 291 = .ok (.iconst 1, 1) := by decide +kernel
theorem dL_law_292 : decode cL_law 292 = .ok (.iadd, 1) := by decide +kernel
theorem dL_law_293 : decode cL_law 293 = .ok (.iaload, 1) := by decide +kernel
theorem dL_law_294 : decode cL_law 294 = .ok (.aload_n 0, 1) := by decide +kernel
theorem dL_law_295 : decode cL_law 295 = .ok (.iload_n 3, 1) := by decide +kernel
theorem dL_law_296 : decode cL_law 296 = .ok (.iconst 2, 1) := by decide +kernel
theorem dL_law_297 : decode cL_law 297 = .ok (.iadd, 1) := by decide +kernel
theorem dL_law_298 : decode cL_law 298 = .ok (.iaload, 1) := by decide +kernel
theorem dL_law_299 : decode cL_law 299 = .ok (.invokevirtual 43, 3) := by decide +kernel
theorem dL_law_302 : decode cL_law 302 = .ok (.if_icmp .eq 618, 3) := by decide +kernel
theorem dL_law_305 : decode cL_law 305 = .ok (.iconst 0, 1) := by decide +kernel
theorem dL_law_306 : decode cL_law 306 = .ok (.ireturn, 1) := by decide +kernel
theorem dL_law_307 : decode cL_law 307 = .ok (.aload_n 1, 1) := by decide +kernel
theorem dL_law_308 : decode cL_law 308 = .ok (.invokevirtual 44, 3) := by decide +kernel
theorem dL_law_311 : decode cL_law 311 = .ok (.aload_n 2, 1) := by decide +kernel
theorem dL_law_312 : decode cL_law 312 = .ok (.invokevirtual 47, 3) := by decide +kernel
theorem dL_law_315 : decode cL_law 315 = .ok (.if_icmp .eq 605, 3) := by decide +kernel
theorem dL_law_318 : decode cL_law 318 = .ok (.iconst 0, 1) := by decide +kernel
theorem dL_law_319 : decode cL_law 319 = .ok (.ireturn, 1) := by decide +kernel
theorem dL_law_320 : decode cL_law 320 = .ok (.aload_n 1, 1) := by decide +kernel
theorem dL_law_321 : decode cL_law 321 = .ok (.aload_n 0, 1) := by decide +kernel
theorem dL_law_322 : decode cL_law 322 = .ok (.iload_n 3, 1) := by decide +kernel
theorem dL_law_323 : decode cL_law 323 = .ok (.iconst 1, 1) := by decide +kernel
theorem dL_law_324 : decode cL_law 324 = .ok (.iadd, 1) := by decide +kernel
theorem dL_law_325 : decode cL_law 325 = .ok (.iaload, 1) := by decide +kernel
theorem dL_law_326 : decode cL_law 326 = .ok (.aload_n 0, 1) := by decide +kernel
theorem dL_law_327 : decode cL_law 327 = .ok (.iload_n 3, 1) := by decide +kernel
theorem dL_law_328 : decode cL_law 328 = .ok (.iconst 2, 1) := by decide +kernel
theorem dL_law_329 : decode cL_law 329 = .ok (.iadd, 1) := by decide +kernel
theorem dL_law_330 : decode cL_law 330 = .ok (.iaload, 1) := by decide +kernel
theorem dL_law_331 : decode cL_law 331 = .ok (.aload_n 0, 1) := by decide +kernel
theorem dL_law_332 : decode cL_law 332 = .ok (.iload_n 3, 1) := by decide +kernel
theorem dL_law_333 : decode cL_law 333 = .ok (.iconst 3, 1) := by decide +kernel
theorem dL_law_334 : decode cL_law 334 = .ok (.iadd, 1) := by decide +kernel
theorem dL_law_335 : decode cL_law 335 = .ok (.iaload, 1) := by decide +kernel
theorem dL_law_336 : decode cL_law 336 = .ok (.aload_n 0, 1) := by decide +kernel
theorem dL_law_337 : decode cL_law 337 = .ok (.iload_n 3, 1) := by decide +kernel
theorem dL_law_338 : decode cL_law 338 = .ok (.iconst 4, 1) := by decide +kernel
theorem dL_law_339 : decode cL_law 339 = .ok (.iadd, 1) := by decide +kernel
theorem dL_law_340 : decode cL_law 340 = .ok (.iaload, 1) := by decide +kernel
theorem dL_law_341 : decode cL_law 341 = .ok (.invokevirtual 48, 3) := by decide +kernel
theorem dL_law_344 : decode cL_law 344 = .ok (.aload_n 2, 1) := by decide +kernel
theorem dL_law_345 : decode cL_law 345 = .ok (.aload_n 0, 1) := by decide +kernel
theorem dL_law_346 : decode cL_law 346 = .ok (.iload_n 3, 1) := by decide +kernel
theorem dL_law_347 : decode cL_law 347 = .ok (.iconst 1, 1) := by decide +kernel
theorem dL_law_348 : decode cL_law 348 = .ok (.iadd, 1) := by decide +kernel
theorem dL_law_349 : decode cL_law 349 = .ok (.iaload, 1) := by decide +kernel
theorem dL_law_350 : decode cL_law 350 = .ok (.aload_n 0, 1) := by decide +kernel
theorem dL_law_351 : decode cL_law 351 = .ok (.iload_n 3, 1) := by decide +kernel
theorem dL_law_352 : decode cL_law 352 = .ok (.iconst 2, 1) := by decide +kernel
theorem dL_law_353 : decode cL_law 353 = .ok (.iadd, 1) := by decide +kernel
theorem dL_law_354 : decode cL_law 354 = .ok (.iaload, 1) := by decide +kernel
theorem dL_law_355 : decode cL_law 355 = .ok (.aload_n 0, 1) := by decide +kernel
theorem dL_law_356 : decode cL_law 356 = .ok (.iload_n 3, 1) := by decide +kernel
theorem dL_law_357 : decode cL_law 357 = .ok (.iconst 3, 1) := by decide +kernel
theorem dL_law_358 : decode cL_law 358 = .ok (.iadd, 1) := by decide +kernel
theorem dL_law_359 : decode cL_law 359 = .ok (.iaload, 1) := by decide +kernel
theorem dL_law_360 : decode cL_law 360 = .ok (.aload_n 0, 1) := by decide +kernel
theorem dL_law_361 : decode cL_law 361 = .ok (.iload_n 3, 1) := by decide +kernel
theorem dL_law_362 : decode cL_law 362 = .ok (.iconst 4, 1) := by decide +kernel
theorem dL_law_363 : decode cL_law 363 = .ok (.iadd, 1) := by decide +kernel
theorem dL_law_364 : decode cL_law 364 = .ok (.iaload, 1) := by decide +kernel
theorem dL_law_365 : decode cL_law 365 = .ok (.invokevirtual 52, 3) := by decide +kernel
theorem dL_law_368 : decode cL_law 368 = .ok (.if_icmp .eq 552, 3) := by decide +kernel
theorem dL_law_371 : decode cL_law 371 = .ok (.iconst 0, 1) := by decide +kernel
theorem dL_law_372 : decode cL_law 372 = .ok (.ireturn, 1) := by decide +kernel
theorem dL_law_373 : decode cL_law 373 = .ok (.aload_n 1, 1) := by decide +kernel
theorem dL_law_374 : decode cL_law 374 = .ok (.aload_n 0, 1) := by decide +kernel
theorem dL_law_375 : decode cL_law 375 = .ok (.iload_n 3, 1) := by decide +kernel
theorem dL_law_376 : decode cL_law 376 = .ok (.iconst 1, 1) := by decide +kernel
theorem dL_law_377 : decode cL_law 377 = .ok (.iadd, 1) := by decide +kernel
theorem dL_law_378 : decode cL_law 378 = .ok (.iaload, 1) := by decide +kernel
theorem dL_law_379 : decode cL_law 379 = .ok (.invokevirtual 53, 3) := by decide +kernel
theorem dL_law_382 : decode cL_law 382 = .ok (.aload_n 2, 1) := by decide +kernel
theorem dL_law_383 : decode cL_law 383 = .ok (.aload_n 0, 1) := by decide +kernel
theorem dL_law_384 : decode cL_law 384 = .ok (.iload_n 3, 1) := by decide +kernel
theorem dL_law_385 : decode cL_law 385 = .ok (.iconst 1, 1) := by decide +kernel
theorem dL_law_386 : decode cL_law 386 = .ok (.iadd, 1) := by decide +kernel
theorem dL_law_387 : decode cL_law 387 = .ok (.iaload, 1) := by decide +kernel
theorem dL_law_388 : decode cL_law 388 = .ok (.invokevirtual 56, 3) := by decide +kernel
theorem dL_law_391 : decode cL_law 391 = .ok (.if_icmp .eq 529, 3) := by decide +kernel
theorem dL_law_394 : decode cL_law 394 = .ok (.iconst 0, 1) := by decide +kernel
theorem dL_law_395 : decode cL_law 395 = .ok (.ireturn, 1) := by decide +kernel
theorem dL_law_396 : decode cL_law 396 = .ok (.aload_n 1, 1) := by decide +kernel
theorem dL_law_397 : decode cL_law 397 = .ok (.invokevirtual 57, 3) := by decide +kernel
theorem dL_law_400 : decode cL_law 400 = .ok (.aload_n 2, 1) := by decide +kernel
theorem dL_law_401 : decode cL_law 401 = .ok (.invokevirtual 60, 3) := by decide +kernel
theorem dL_law_404 : decode cL_law 404 = .ok (.if_icmp .eq 516, 3) := by decide +kernel
theorem dL_law_407 : decode cL_law 407 = .ok (.iconst 0, 1) := by decide +kernel
theorem dL_law_408 : decode cL_law 408 = .ok (.ireturn, 1) := by decide +kernel
theorem dL_law_409 : decode cL_law 409 = .ok (.aload_n 1, 1) := by decide +kernel
theorem dL_law_410 : decode cL_law 410 = .ok (.aload_n 0, 1) := by decide +kernel
theorem dL_law_411 : decode cL_law 411 = .ok (.iload_n 3, 1) := by decide +kernel
theorem dL_law_412 : decode cL_law 412 = .ok (.iconst 1, 1) := by decide +kernel
theorem dL_law_413 : decode cL_law 413 = .ok (.iadd, 1) := by decide +kernel
theorem dL_law_414 : decode cL_law 414 = .ok (.iaload, 1) := by decide +kernel
theorem dL_law_415 : decode cL_law 415 = .ok (.aload_n 0, 1) := by decide +kernel
theorem dL_law_416 : decode cL_law 416 = .ok (.iload_n 3, 1) := by decide +kernel
theorem dL_law_417 : decode cL_law 417 = .ok (.iconst 2, 1) := by decide +kernel
theorem dL_law_418 : decode cL_law 418 = .ok (.iadd, 1) := by decide +kernel
theorem dL_law_419 : decode cL_law 419 = .ok (.iaload, 1) := by decide +kernel
theorem dL_law_420 : decode cL_law 420 = .ok (.aload_n 0, 1) := by decide +kernel
theorem dL_law_421 : decode cL_law 421 = .ok (.iload_n 3, 1) := by decide +kernel
theorem dL_law_422 : decode cL_law 422 = .ok (.iconst 3, 1) := by decide +kernel
theorem dL_law_423 : decode cL_law 423 = .ok (.iadd, 1) := by decide +kernel
theorem dL_law_424 : decode cL_law 424 = .ok (.iaload, 1) := by decide +kernel
theorem dL_law_425 : decode cL_law 425 = .ok (.ifCond .eq 7, 3) := by decide +kernel
theorem dL_law_428 : decode cL_law 428 = .ok (.iconst 1, 1) := by decide +kernel
theorem dL_law_429 : decode cL_law 429 = .ok (.goto 4, 3) := by decide +kernel
theorem dL_law_432 : decode cL_law 432 = .ok (.iconst 0, 1) := by decide +kernel
theorem dL_law_433 : decode cL_law 433 = .ok (.invokevirtual 61, 3) := by decide +kernel
theorem dL_law_436 : decode cL_law 436 = .ok (.aload_n 2, 1) := by decide +kernel
theorem dL_law_437 : decode cL_law 437 = .ok (.aload_n 0, 1) := by decide +kernel
theorem dL_law_438 : decode cL_law 438 = .ok (.iload_n 3, 1) := by decide +kernel
theorem dL_law_439 : decode cL_law 439 = .ok (.iconst 1, 1) := by decide +kernel
theorem dL_law_440 : decode cL_law 440 = .ok (.iadd, 1) := by decide +kernel
theorem dL_law_441 : decode cL_law 441 = .ok (.iaload, 1) := by decide +kernel
theorem dL_law_442 : decode cL_law 442 = .ok (.aload_n 0, 1) := by decide +kernel
theorem dL_law_443 : decode cL_law 443 = .ok (.iload_n 3, 1) := by decide +kernel
theorem dL_law_444 : decode cL_law 444 = .ok (.iconst 2, 1) := by decide +kernel
theorem dL_law_445 : decode cL_law 445 = .ok (.iadd, 1) := by decide +kernel
theorem dL_law_446 : decode cL_law 446 = .ok (.iaload, 1) := by decide +kernel
theorem dL_law_447 : decode cL_law 447 = .ok (.aload_n 0, 1) := by decide +kernel
theorem dL_law_448 : decode cL_law 448 = .ok (.iload_n 3, 1) := by decide +kernel
theorem dL_law_449 : decode cL_law 449 = .ok (.iconst 3, 1) := by decide +kernel
theorem dL_law_450 : decode cL_law 450 = .ok (.iadd, 1) := by decide +kernel
theorem dL_law_451 : decode cL_law 451 = .ok (.iaload, 1) := by decide +kernel
theorem dL_law_452 : decode cL_law 452 = .ok (.ifCond .eq 7, 3) := by decide +kernel
theorem dL_law_455 : decode cL_law 455 = .ok (.iconst 1, 1) := by decide +kernel
theorem dL_law_456 : decode cL_law 456 = .ok (.goto 4, 3) := by decide +kernel
theorem dL_law_459 : decode cL_law 459 = .ok (.iconst 0, 1) := by decide +kernel
theorem dL_law_460 : decode cL_law 460 = .ok (.invokevirtual 65, 3) := by decide +kernel
theorem dL_law_463 : decode cL_law 463 = .ok (.if_icmp .eq 457, 3) := by decide +kernel
theorem dL_law_466 : decode cL_law 466 = .ok (.iconst 0, 1) := by decide +kernel
theorem dL_law_467 : decode cL_law 467 = .ok (.ireturn, 1) := by decide +kernel
theorem dL_law_468 : decode cL_law 468 = .ok (.aload_n 1, 1) := by decide +kernel
theorem dL_law_469 : decode cL_law 469 = .ok (.aload_n 0, 1) := by decide +kernel
theorem dL_law_470 : decode cL_law 470 = .ok (.iload_n 3, 1) := by decide +kernel
theorem dL_law_471 : decode cL_law 471 = .ok (.iconst 1, 1) := by decide +kernel
theorem dL_law_472 : decode cL_law 472 = .ok (.iadd, 1) := by decide +kernel
theorem dL_law_473 : decode cL_law 473 = .ok (.iaload, 1) := by decide +kernel
theorem dL_law_474 : decode cL_law 474 = .ok (.invokevirtual 66, 3) := by decide +kernel
theorem dL_law_477 : decode cL_law 477 = .ok (.aload_n 2, 1) := by decide +kernel
theorem dL_law_478 : decode cL_law 478 = .ok (.aload_n 0, 1) := by decide +kernel
theorem dL_law_479 : decode cL_law 479 = .ok (.iload_n 3, 1) := by decide +kernel
theorem dL_law_480 : decode cL_law 480 = .ok (.iconst 1, 1) := by decide +kernel
theorem dL_law_481 : decode cL_law 481 = .ok (.iadd, 1) := by decide +kernel
theorem dL_law_482 : decode cL_law 482 = .ok (.iaload, 1) := by decide +kernel
theorem dL_law_483 : decode cL_law 483 = .ok (.invokevirtual 69, 3) := by decide +kernel
theorem dL_law_486 : decode cL_law 486 = .ok (.if_icmp .eq 434, 3) := by decide +kernel
theorem dL_law_489 : decode cL_law 489 = .ok (.iconst 0, 1) := by decide +kernel
theorem dL_law_490 : decode cL_law 490 = .ok (.ireturn, 1) := by decide +kernel
theorem dL_law_491 : decode cL_law 491 = .ok (.aload_n 1, 1) := by decide +kernel
theorem dL_law_492 : decode cL_law 492 = .ok (.aload_n 0, 1) := by decide +kernel
theorem dL_law_493 : decode cL_law 493 = .ok (.iload_n 3, 1) := by decide +kernel
theorem dL_law_494 : decode cL_law 494 = .ok (.iconst 1, 1) := by decide +kernel
theorem dL_law_495 : decode cL_law 495 = .ok (.iadd, 1) := by decide +kernel
theorem dL_law_496 : decode cL_law 496 = .ok (.iaload, 1) := by decide +kernel
theorem dL_law_497 : decode cL_law 497 = .ok (.invokevirtual 70, 3) := by decide +kernel
theorem dL_law_500 : decode cL_law 500 = .ok (.aload_n 2, 1) := by decide +kernel
theorem dL_law_501 : decode cL_law 501 = .ok (.aload_n 0, 1) := by decide +kernel
theorem dL_law_502 : decode cL_law 502 = .ok (.iload_n 3, 1) := by decide +kernel
theorem dL_law_503 : decode cL_law 503 = .ok (.iconst 1, 1) := by decide +kernel
theorem dL_law_504 : decode cL_law 504 = .ok (.iadd, 1) := by decide +kernel
theorem dL_law_505 : decode cL_law 505 = .ok (.iaload, 1) := by decide +kernel
theorem dL_law_506 : decode cL_law 506 = .ok (.invokevirtual 73, 3) := by decide +kernel
theorem dL_law_509 : decode cL_law 509 = .ok (.if_icmp .eq 411, 3) := by decide +kernel
theorem dL_law_512 : decode cL_law 512 = .ok (.iconst 0, 1) := by decide +kernel
theorem dL_law_513 : decode cL_law 513 = .ok (.ireturn, 1) := by decide +kernel
theorem dL_law_514 : decode cL_law 514 = .ok (.aload_n 1, 1) := by decide +kernel
theorem dL_law_515 : decode cL_law 515 = .ok (.aload_n 0, 1) := by decide +kernel
theorem dL_law_516 : decode cL_law 516 = .ok (.iload_n 3, 1) := by decide +kernel
theorem dL_law_517 : decode cL_law 517 = .ok (.iconst 1, 1) := by decide +kernel
theorem dL_law_518 : decode cL_law 518 = .ok (.iadd, 1) := by decide +kernel
theorem dL_law_519 : decode cL_law 519 = .ok (.iaload, 1) := by decide +kernel
theorem dL_law_520 : decode cL_law 520 = .ok (.invokevirtual 74, 3) := by decide +kernel
theorem dL_law_523 : decode cL_law 523 = .ok (.aload_n 2, 1) := by decide +kernel
theorem dL_law_524 : decode cL_law 524 = .ok (.aload_n 0, 1) := by decide +kernel
theorem dL_law_525 : decode cL_law 525 = .ok (.iload_n 3, 1) := by decide +kernel
theorem dL_law_526 : decode cL_law 526 = .ok (.iconst 1, 1) := by decide +kernel
theorem dL_law_527 : decode cL_law 527 = .ok (.iadd, 1) := by decide +kernel
theorem dL_law_528 : decode cL_law 528 = .ok (.iaload, 1) := by decide +kernel
theorem dL_law_529 : decode cL_law 529 = .ok (.invokevirtual 77, 3) := by decide +kernel
theorem dL_law_532 : decode cL_law 532 = .ok (.if_icmp .eq 388, 3) := by decide +kernel
theorem dL_law_535 : decode cL_law 535 = .ok (.iconst 0, 1) := by decide +kernel
theorem dL_law_536 : decode cL_law 536 = .ok (.ireturn, 1) := by decide +kernel
theorem dL_law_537 : decode cL_law 537 = .ok (.aload_n 1, 1) := by decide +kernel
theorem dL_law_538 : decode cL_law 538 = .ok (.aload_n 0, 1) := by decide +kernel
theorem dL_law_539 : decode cL_law 539 = .ok (.iload_n 3, 1) := by decide +kernel
theorem dL_law_540 : decode cL_law 540 = .ok (.iconst 1, 1) := by decide +kernel
theorem dL_law_541 : decode cL_law 541 = .ok (.iadd, 1) := by decide +kernel
theorem dL_law_542 : decode cL_law 542 = .ok (.iaload, 1) := by decide +kernel
theorem dL_law_543 : decode cL_law 543 = .ok (.aload_n 0, 1) := by decide +kernel
theorem dL_law_544 : decode cL_law 544 = .ok (.iload_n 3, 1) := by decide +kernel
theorem dL_law_545 : decode cL_law 545 = .ok (.iconst 2, 1) := by decide +kernel
theorem dL_law_546 : decode cL_law 546 = .ok (.iadd, 1) := by decide +kernel
theorem dL_law_547 : decode cL_law 547 = .ok (.iaload, 1) := by decide +kernel
theorem dL_law_548 : decode cL_law 548 = .ok (.invokevirtual 78, 3) := by decide +kernel
theorem dL_law_551 : decode cL_law 551 = .ok (.aload_n 2, 1) := by decide +kernel
theorem dL_law_552 : decode cL_law 552 = .ok (.aload_n 0, 1) := by decide +kernel
theorem dL_law_553 : decode cL_law 553 = .ok (.iload_n 3, 1) := by decide +kernel
theorem dL_law_554 : decode cL_law 554 = .ok (.iconst 1, 1) := by decide +kernel
theorem dL_law_555 : decode cL_law 555 = .ok (.iadd, 1) := by decide +kernel
theorem dL_law_556 : decode cL_law 556 = .ok (.iaload, 1) := by decide +kernel
theorem dL_law_557 : decode cL_law 557 = .ok (.aload_n 0, 1) := by decide +kernel
theorem dL_law_558 : decode cL_law 558 = .ok (.iload_n 3, 1) := by decide +kernel
theorem dL_law_559 : decode cL_law 559 = .ok (.iconst 2, 1) := by decide +kernel
theorem dL_law_560 : decode cL_law 560 = .ok (.iadd, 1) := by decide +kernel
theorem dL_law_561 : decode cL_law 561 = .ok (.iaload, 1) := by decide +kernel
theorem dL_law_562 : decode cL_law 562 = .ok (.invokevirtual 81, 3) := by decide +kernel
theorem dL_law_565 : decode cL_law 565 = .ok (.if_icmp .eq 355, 3) := by decide +kernel
theorem dL_law_568 : decode cL_law 568 = .ok (.iconst 0, 1) := by decide +kernel
theorem dL_law_569 : decode cL_law 569 = .ok (.ireturn, 1) := by decide +kernel
theorem dL_law_570 : decode cL_law 570 = .ok (.aload_n 1, 1) := by decide +kernel
theorem dL_law_571 : decode cL_law 571 = .ok (.aload_n 0, 1) := by decide +kernel
theorem dL_law_572 : decode cL_law 572 = .ok (.iload_n 3, 1) := by decide +kernel
theorem dL_law_573 : decode cL_law 573 = .ok (.iconst 1, 1) := by decide +kernel
theorem dL_law_574 : decode cL_law 574 = .ok (.iadd, 1) := by decide +kernel
theorem dL_law_575 : decode cL_law 575 = .ok (.iaload, 1) := by decide +kernel
theorem dL_law_576 : decode cL_law 576 = .ok (.invokevirtual 82, 3) := by decide +kernel
theorem dL_law_579 : decode cL_law 579 = .ok (.aload_n 2, 1) := by decide +kernel
theorem dL_law_580 : decode cL_law 580 = .ok (.aload_n 0, 1) := by decide +kernel
theorem dL_law_581 : decode cL_law 581 = .ok (.iload_n 3, 1) := by decide +kernel
theorem dL_law_582 : decode cL_law 582 = .ok (.iconst 1, 1) := by decide +kernel
theorem dL_law_583 : decode cL_law 583 = .ok (.iadd, 1) := by decide +kernel
theorem dL_law_584 : decode cL_law 584 = .ok (.iaload, 1) := by decide +kernel
theorem dL_law_585 : decode cL_law 585 = .ok (.invokevirtual 85, 3) := by decide +kernel
theorem dL_law_588 : decode cL_law 588 = .ok (.if_icmp .eq 332, 3) := by decide +kernel
theorem dL_law_591 : decode cL_law 591 = .ok (.iconst 0, 1) := by decide +kernel
theorem dL_law_592 : decode cL_law 592 = .ok (.ireturn, 1) := by decide +kernel
theorem dL_law_593 : decode cL_law 593 = .ok (.aload_n 1, 1) := by decide +kernel
theorem dL_law_594 : decode cL_law 594 = .ok (.invokevirtual 86, 3) := by decide +kernel
theorem dL_law_597 : decode cL_law 597 = .ok (.aload_n 2, 1) := by decide +kernel
theorem dL_law_598 : decode cL_law 598 = .ok (.invokevirtual 89, 3) := by decide +kernel
theorem dL_law_601 : decode cL_law 601 = .ok (.if_icmp .eq 319, 3) := by decide +kernel
theorem dL_law_604 : decode cL_law 604 = .ok (.iconst 0, 1) := by decide +kernel
theorem dL_law_605 : decode cL_law 605 = .ok (.ireturn, 1) := by decide +kernel
theorem dL_law_606 : decode cL_law 606 = .ok (.aload_n 1, 1) := by decide +kernel
theorem dL_law_607 : decode cL_law 607 = .ok (.aload_n 0, 1) := by decide +kernel
theorem dL_law_608 : decode cL_law 608 = .ok (.iload_n 3, 1) := by decide +kernel
theorem dL_law_609 : decode cL_law 609 = .ok (.iconst 1, 1) := by decide +kernel
theorem dL_law_610 : decode cL_law 610 = .ok (.iadd, 1) := by decide +kernel
theorem dL_law_611 : decode cL_law 611 = .ok (.iaload, 1) := by decide +kernel
theorem dL_law_612 : decode cL_law 612 = .ok (.invokevirtual 90, 3) := by decide +kernel
theorem dL_law_615 : decode cL_law 615 = .ok (.aload_n 2, 1) := by decide +kernel
theorem dL_law_616 : decode cL_law 616 = .ok (.aload_n 0, 1) := by decide +kernel
theorem dL_law_617 : decode cL_law 617 = .ok (.iload_n 3, 1) := by decide +kernel
theorem dL_law_618 : decode cL_law 618 = .ok (.iconst 1, 1) := by decide +kernel
theorem dL_law_619 : decode cL_law 619 = .ok (.iadd, 1) := by decide +kernel
theorem dL_law_620 : decode cL_law 620 = .ok (.iaload, 1) := by decide +kernel
theorem dL_law_621 : decode cL_law 621 = .ok (.invokevirtual 93, 3) := by decide +kernel
theorem dL_law_624 : decode cL_law 624 = .ok (.if_icmp .eq 296, 3) := by decide +kernel
theorem dL_law_627 : decode cL_law 627 = .ok (.iconst 0, 1) := by decide +kernel
theorem dL_law_628 : decode cL_law 628 = .ok (.ireturn, 1) := by decide +kernel
theorem dL_law_629 : decode cL_law 629 = .ok (.aload_n 1, 1) := by decide +kernel
theorem dL_law_630 : decode cL_law 630 = .ok (.aload_n 0, 1) := by decide +kernel
theorem dL_law_631 : decode cL_law 631 = .ok (.iload_n 3, 1) := by decide +kernel
theorem dL_law_632 : decode cL_law 632 = .ok (.iconst 1, 1) := by decide +kernel
theorem dL_law_633 : decode cL_law 633 = .ok (.iadd, 1) := by decide +kernel
theorem dL_law_634 : decode cL_law 634 = .ok (.iaload, 1) := by decide +kernel
theorem dL_law_635 : decode cL_law 635 = .ok (.invokevirtual 94, 3) := by decide +kernel
theorem dL_law_638 : decode cL_law 638 = .ok (.aload_n 2, 1) := by decide +kernel
theorem dL_law_639 : decode cL_law 639 = .ok (.aload_n 0, 1) := by decide +kernel
theorem dL_law_640 : decode cL_law 640 = .ok (.iload_n 3, 1) := by decide +kernel
theorem dL_law_641 : decode cL_law 641 = .ok (.iconst 1, 1) := by decide +kernel
theorem dL_law_642 : decode cL_law 642 = .ok (.iadd, 1) := by decide +kernel
theorem dL_law_643 : decode cL_law 643 = .ok (.iaload, 1) := by decide +kernel
theorem dL_law_644 : decode cL_law 644 = .ok (.invokevirtual 97, 3) := by decide +kernel
theorem dL_law_647 : decode cL_law 647 = .ok (.if_icmp .eq 273, 3) := by decide +kernel
theorem dL_law_650 : decode cL_law 650 = .ok (.iconst 0, 1) := by decide +kernel
theorem dL_law_651 : decode cL_law 651 = .ok (.ireturn, 1) := by decide +kernel
theorem dL_law_652 : decode cL_law 652 = .ok (.aload_n 1, 1) := by decide +kernel
theorem dL_law_653 : decode cL_law 653 = .ok (.aload_n 0, 1) := by decide +kernel
theorem dL_law_654 : decode cL_law 654 = .ok (.iload_n 3, 1) := by decide +kernel
theorem dL_law_655 : decode cL_law 655 = .ok (.iconst 1, 1) := by decide +kernel
theorem dL_law_656 : decode cL_law 656 = .ok (.iadd, 1) := by decide +kernel
theorem dL_law_657 : decode cL_law 657 = .ok (.iaload, 1) := by decide +kernel
theorem dL_law_658 : decode cL_law 658 = .ok (.aload_n 0, 1) := by decide +kernel
theorem dL_law_659 : decode cL_law 659 = .ok (.iload_n 3, 1) := by decide +kernel
theorem dL_law_660 : decode cL_law 660 = .ok (.iconst 2, 1) := by decide +kernel
theorem dL_law_661 : decode cL_law 661 = .ok (.iadd, 1) := by decide +kernel
theorem dL_law_662 : decode cL_law 662 = .ok (.iaload, 1) := by decide +kernel
theorem dL_law_663 : decode cL_law 663 = .ok (.aload_n 0, 1) := by decide +kernel
theorem dL_law_664 : decode cL_law 664 = .ok (.iload_n 3, 1) := by decide +kernel
theorem dL_law_665 : decode cL_law 665 = .ok (.iconst 3, 1) := by decide +kernel
theorem dL_law_666 : decode cL_law 666 = .ok (.iadd, 1) := by decide +kernel
theorem dL_law_667 : decode cL_law 667 = .ok (.iaload, 1) := by decide +kernel
theorem dL_law_668 : decode cL_law 668 = .ok (.invokevirtual 98, 3) := by decide +kernel
theorem dL_law_671 : decode cL_law 671 = .ok (.aload_n 2, 1) := by decide +kernel
theorem dL_law_672 : decode cL_law 672 = .ok (.aload_n 0, 1) := by decide +kernel
theorem dL_law_673 : decode cL_law 673 = .ok (.iload_n 3, 1) := by decide +kernel
theorem dL_law_674 : decode cL_law 674 = .ok (.iconst 1, 1) := by decide +kernel
theorem dL_law_675 : decode cL_law 675 = .ok (.iadd, 1) := by decide +kernel
theorem dL_law_676 : decode cL_law 676 = .ok (.iaload, 1) := by decide +kernel
theorem dL_law_677 : decode cL_law 677 = .ok (.aload_n 0, 1) := by decide +kernel
theorem dL_law_678 : decode cL_law 678 = .ok (.iload_n 3, 1) := by decide +kernel
theorem dL_law_679 : decode cL_law 679 = .ok (.iconst 2, 1) := by decide +kernel
theorem dL_law_680 : decode cL_law 680 = .ok (.iadd, 1) := by decide +kernel
theorem dL_law_681 : decode cL_law 681 = .ok (.iaload, 1) := by decide +kernel
theorem dL_law_682 : decode cL_law 682 = .ok (.aload_n 0, 1) := by decide +kernel
theorem dL_law_683 : decode cL_law 683 = .ok (.iload_n 3, 1) := by decide +kernel
theorem dL_law_684 : decode cL_law 684 = .ok (.iconst 3, 1) := by decide +kernel
theorem dL_law_685 : decode cL_law 685 = .ok (.iadd, 1) := by decide +kernel
theorem dL_law_686 : decode cL_law 686 = .ok (.iaload, 1) := by decide +kernel
theorem dL_law_687 : decode cL_law 687 = .ok (.invokevirtual 102, 3) := by decide +kernel
theorem dL_law_690 : decode cL_law 690 = .ok (.if_icmp .eq 230, 3) := by decide +kernel
theorem dL_law_693 : decode cL_law 693 = .ok (.iconst 0, 1) := by decide +kernel
theorem dL_law_694 : decode cL_law 694 = .ok (.ireturn, 1) := by decide +kernel
theorem dL_law_695 : decode cL_law 695 = .ok (.aload_n 1, 1) := by decide +kernel
theorem dL_law_696 : decode cL_law 696 = .ok (.aload_n 0, 1) := by decide +kernel
theorem dL_law_697 : decode cL_law 697 = .ok (.iload_n 3, 1) := by decide +kernel
theorem dL_law_698 : decode cL_law 698 = .ok (.iconst 1, 1) := by decide +kernel
theorem dL_law_699 : decode cL_law 699 = .ok (.iadd, 1) := by decide +kernel
theorem dL_law_700 : decode cL_law 700 = .ok (.iaload, 1) := by decide +kernel
theorem dL_law_701 : decode cL_law 701 = .ok (.aload_n 0, 1) := by decide +kernel
theorem dL_law_702 : decode cL_law 702 = .ok (.iload_n 3, 1) := by decide +kernel
theorem dL_law_703 : decode cL_law 703 = .ok (.iconst 2, 1) := by decide +kernel
theorem dL_law_704 : decode cL_law 704 = .ok (.iadd, 1) := by decide +kernel
theorem dL_law_705 : decode cL_law 705 = .ok (.iaload, 1) := by decide +kernel
theorem dL_law_706 : decode cL_law 706 = .ok (.invokevirtual 103, 3) := by decide +kernel
theorem dL_law_709 : decode cL_law 709 = .ok (.aload_n 2, 1) := by decide +kernel
theorem dL_law_710 : decode cL_law 710 = .ok (.aload_n 0, 1) := by decide +kernel
theorem dL_law_711 : decode cL_law 711 = .ok (.iload_n 3, 1) := by decide +kernel
theorem dL_law_712 : decode cL_law 712 = .ok (.iconst 1, 1) := by decide +kernel
theorem dL_law_713 : decode cL_law 713 = .ok (.iadd, 1) := by decide +kernel
theorem dL_law_714 : decode cL_law 714 = .ok (.iaload, 1) := by decide +kernel
theorem dL_law_715 : decode cL_law 715 = .ok (.aload_n 0, 1) := by decide +kernel
theorem dL_law_716 : decode cL_law 716 = .ok (.iload_n 3, 1) := by decide +kernel
theorem dL_law_717 : decode cL_law 717 = .ok (.iconst 2, 1) := by decide +kernel
theorem dL_law_718 : decode cL_law 718 = .ok (.iadd, 1) := by decide +kernel
theorem dL_law_719 : decode cL_law 719 = .ok (.iaload, 1) := by decide +kernel
theorem dL_law_720 : decode cL_law 720 = .ok (.invokevirtual 106, 3) := by decide +kernel
theorem dL_law_723 : decode cL_law 723 = .ok (.if_icmp .eq 197, 3) := by decide +kernel
theorem dL_law_726 : decode cL_law 726 = .ok (.iconst 0, 1) := by decide +kernel
theorem dL_law_727 : decode cL_law 727 = .ok (.ireturn, 1) := by decide +kernel
theorem dL_law_728 : decode cL_law 728 = .ok (.aload_n 1, 1) := by decide +kernel
theorem dL_law_729 : decode cL_law 729 = .ok (.aload_n 0, 1) := by decide +kernel
theorem dL_law_730 : decode cL_law 730 = .ok (.iload_n 3, 1) := by decide +kernel
theorem dL_law_731 : decode cL_law 731 = .ok (.iconst 1, 1) := by decide +kernel
theorem dL_law_732 : decode cL_law 732 = .ok (.iadd, 1) := by decide +kernel
theorem dL_law_733 : decode cL_law 733 = .ok (.iaload, 1) := by decide +kernel
theorem dL_law_734 : decode cL_law 734 = .ok (.aload_n 0, 1) := by decide +kernel
theorem dL_law_735 : decode cL_law 735 = .ok (.iload_n 3, 1) := by decide +kernel
theorem dL_law_736 : decode cL_law 736 = .ok (.iconst 2, 1) := by decide +kernel
theorem dL_law_737 : decode cL_law 737 = .ok (.iadd, 1) := by decide +kernel
theorem dL_law_738 : decode cL_law 738 = .ok (.iaload, 1) := by decide +kernel
theorem dL_law_739 : decode cL_law 739 = .ok (.aload_n 0, 1) := by decide +kernel
theorem dL_law_740 : decode cL_law 740 = .ok (.iload_n 3, 1) := by decide +kernel
theorem dL_law_741 : decode cL_law 741 = .ok (.iconst 3, 1) := by decide +kernel
theorem dL_law_742 : decode cL_law 742 = .ok (.iadd, 1) := by decide +kernel
theorem dL_law_743 : decode cL_law 743 = .ok (.iaload, 1) := by decide +kernel
theorem dL_law_744 : decode cL_law 744 = .ok (.ifCond .eq 7, 3) := by decide +kernel
theorem dL_law_747 : decode cL_law 747 = .ok (.iconst 1, 1) := by decide +kernel
theorem dL_law_748 : decode cL_law 748 = .ok (.goto 4, 3) := by decide +kernel
theorem dL_law_751 : decode cL_law 751 = .ok (.iconst 0, 1) := by decide +kernel
theorem dL_law_752 : decode cL_law 752 = .ok (.invokevirtual 107, 3) := by decide +kernel
theorem dL_law_755 : decode cL_law 755 = .ok (.aload_n 2, 1) := by decide +kernel
theorem dL_law_756 : decode cL_law 756 = .ok (.aload_n 0, 1) := by decide +kernel
theorem dL_law_757 : decode cL_law 757 = .ok (.iload_n 3, 1) := by decide +kernel
theorem dL_law_758 : decode cL_law 758 = .ok (.iconst 1, 1) := by decide +kernel
theorem dL_law_759 : decode cL_law 759 = .ok (.iadd, 1) := by decide +kernel
theorem dL_law_760 : decode cL_law 760 = .ok (.iaload, 1) := by decide +kernel
theorem dL_law_761 : decode cL_law 761 = .ok (.aload_n 0, 1) := by decide +kernel
theorem dL_law_762 : decode cL_law 762 = .ok (.iload_n 3, 1) := by decide +kernel
theorem dL_law_763 : decode cL_law 763 = .ok (.iconst 2, 1) := by decide +kernel
theorem dL_law_764 : decode cL_law 764 = .ok (.iadd, 1) := by decide +kernel
theorem dL_law_765 : decode cL_law 765 = .ok (.iaload, 1) := by decide +kernel
theorem dL_law_766 : decode cL_law 766 = .ok (.aload_n 0, 1) := by decide +kernel
theorem dL_law_767 : decode cL_law 767 = .ok (.iload_n 3, 1) := by decide +kernel
theorem dL_law_768 : decode cL_law 768 = .ok (.iconst 3, 1) := by decide +kernel
theorem dL_law_769 : decode cL_law 769 = .ok (.iadd, 1) := by decide +kernel
theorem dL_law_770 : decode cL_law 770 = .ok (.iaload, 1) := by decide +kernel
theorem dL_law_771 : decode cL_law 771 = .ok (.ifCond .eq 7, 3) := by decide +kernel
theorem dL_law_774 : decode cL_law 774 = .ok (.iconst 1, 1) := by decide +kernel
theorem dL_law_775 : decode cL_law 775 = .ok (.goto 4, 3) := by decide +kernel
theorem dL_law_778 : decode cL_law 778 = .ok (.iconst 0, 1) := by decide +kernel
theorem dL_law_779 : decode cL_law 779 = .ok (.invokevirtual 110, 3) := by decide +kernel
theorem dL_law_782 : decode cL_law 782 = .ok (.if_icmp .eq 138, 3) := by decide +kernel
theorem dL_law_785 : decode cL_law 785 = .ok (.iconst 0, 1) := by decide +kernel
theorem dL_law_786 : decode cL_law 786 = .ok (.ireturn, 1) := by decide +kernel
theorem dL_law_787 : decode cL_law 787 = .ok (.aload_n 1, 1) := by decide +kernel
theorem dL_law_788 : decode cL_law 788 = .ok (.aload_n 0, 1) := by decide +kernel
theorem dL_law_789 : decode cL_law 789 = .ok (.iload_n 3, 1) := by decide +kernel
theorem dL_law_790 : decode cL_law 790 = .ok (.iconst 1, 1) := by decide +kernel
theorem dL_law_791 : decode cL_law 791 = .ok (.iadd, 1) := by decide +kernel
theorem dL_law_792 : decode cL_law 792 = .ok (.iaload, 1) := by decide +kernel
theorem dL_law_793 : decode cL_law 793 = .ok (.i2l, 1) := by decide +kernel
theorem dL_law_794 : decode cL_law 794 = .ok (.bipush 32, 2) := by decide +kernel
theorem dL_law_796 : decode cL_law 796 = .ok (.lshl, 1) := by decide +kernel
theorem dL_law_797 : decode cL_law 797 = .ok (.aload_n 0, 1) := by decide +kernel
theorem dL_law_798 : decode cL_law 798 = .ok (.iload_n 3, 1) := by decide +kernel
theorem dL_law_799 : decode cL_law 799 = .ok (.iconst 2, 1) := by decide +kernel
theorem dL_law_800 : decode cL_law 800 = .ok (.iadd, 1) := by decide +kernel
theorem dL_law_801 : decode cL_law 801 = .ok (.iaload, 1) := by decide +kernel
theorem dL_law_802 : decode cL_law 802 = .ok (.i2l, 1) := by decide +kernel
theorem dL_law_803 : decode cL_law 803 = .ok (.ldc2_w 111, 3) := by decide +kernel
theorem dL_law_806 : decode cL_law 806 = .ok (.land, 1) := by decide +kernel
theorem dL_law_807 : decode cL_law 807 = .ok (.lor, 1) := by decide +kernel
theorem dL_law_808 : decode cL_law 808 = .ok (.invokevirtual 113, 3) := by decide +kernel
theorem dL_law_811 : decode cL_law 811 = .ok (.aload_n 2, 1) := by decide +kernel
theorem dL_law_812 : decode cL_law 812 = .ok (.aload_n 0, 1) := by decide +kernel
theorem dL_law_813 : decode cL_law 813 = .ok (.iload_n 3, 1) := by decide +kernel
theorem dL_law_814 : decode cL_law 814 = .ok (.iconst 1, 1) := by decide +kernel
theorem dL_law_815 : decode cL_law 815 = .ok (.iadd, 1) := by decide +kernel
theorem dL_law_816 : decode cL_law 816 = .ok (.iaload, 1) := by decide +kernel
theorem dL_law_817 : decode cL_law 817 = .ok (.i2l, 1) := by decide +kernel
theorem dL_law_818 : decode cL_law 818 = .ok (.bipush 32, 2) := by decide +kernel
theorem dL_law_820 : decode cL_law 820 = .ok (.lshl, 1) := by decide +kernel
theorem dL_law_821 : decode cL_law 821 = .ok (.aload_n 0, 1) := by decide +kernel
theorem dL_law_822 : decode cL_law 822 = .ok (.iload_n 3, 1) := by decide +kernel
theorem dL_law_823 : decode cL_law 823 = .ok (.iconst 2, 1) := by decide +kernel
theorem dL_law_824 : decode cL_law 824 = .ok (.iadd, 1) := by decide +kernel
theorem dL_law_825 : decode cL_law 825 = .ok (.iaload, 1) := by decide +kernel
theorem dL_law_826 : decode cL_law 826 = .ok (.i2l, 1) := by decide +kernel
theorem dL_law_827 : decode cL_law 827 = .ok (.ldc2_w 111, 3) := by decide +kernel
theorem dL_law_830 : decode cL_law 830 = .ok (.land, 1) := by decide +kernel
theorem dL_law_831 : decode cL_law 831 = .ok (.lor, 1) := by decide +kernel
theorem dL_law_832 : decode cL_law 832 = .ok (.invokevirtual 117, 3) := by decide +kernel
theorem dL_law_835 : decode cL_law 835 = .ok (.lcmp, 1) := by decide +kernel
theorem dL_law_836 : decode cL_law 836 = .ok (.ifCond .eq 84, 3) := by decide +kernel
theorem dL_law_839 : decode cL_law 839 = .ok (.iconst 0, 1) := by decide +kernel
theorem dL_law_840 : decode cL_law 840 = .ok (.ireturn, 1) := by decide +kernel
theorem dL_law_841 : decode cL_law 841 = .ok (.aload_n 1, 1) := by decide +kernel
theorem dL_law_842 : decode cL_law 842 = .ok (.aload_n 0, 1) := by decide +kernel
theorem dL_law_843 : decode cL_law 843 = .ok (.iload_n 3, 1) := by decide +kernel
theorem dL_law_844 : decode cL_law 844 = .ok (.iconst 1, 1) := by decide +kernel
theorem dL_law_845 : decode cL_law 845 = .ok (.iadd, 1) := by decide +kernel
theorem dL_law_846 : decode cL_law 846 = .ok (.iaload, 1) := by decide +kernel
theorem dL_law_847 : decode cL_law 847 = .ok (.aload_n 0, 1) := by decide +kernel
theorem dL_law_848 : decode cL_law 848 = .ok (.iload_n 3, 1) := by decide +kernel
theorem dL_law_849 : decode cL_law 849 = .ok (.iconst 2, 1) := by decide +kernel
theorem dL_law_850 : decode cL_law 850 = .ok (.iadd, 1) := by decide +kernel
theorem dL_law_851 : decode cL_law 851 = .ok (.iaload, 1) := by decide +kernel
theorem dL_law_852 : decode cL_law 852 = .ok (.invokevirtual 118, 3) := by decide +kernel
theorem dL_law_855 : decode cL_law 855 = .ok (.aload_n 2, 1) := by decide +kernel
theorem dL_law_856 : decode cL_law 856 = .ok (.aload_n 0, 1) := by decide +kernel
theorem dL_law_857 : decode cL_law 857 = .ok (.iload_n 3, 1) := by decide +kernel
theorem dL_law_858 : decode cL_law 858 = .ok (.iconst 1, 1) := by decide +kernel
theorem dL_law_859 : decode cL_law 859 = .ok (.iadd, 1) := by decide +kernel
theorem dL_law_860 : decode cL_law 860 = .ok (.iaload, 1) := by decide +kernel
theorem dL_law_861 : decode cL_law 861 = .ok (.aload_n 0, 1) := by decide +kernel
theorem dL_law_862 : decode cL_law 862 = .ok (.iload_n 3, 1) := by decide +kernel
theorem dL_law_863 : decode cL_law 863 = .ok (.iconst 2, 1) := by decide +kernel
theorem dL_law_864 : decode cL_law 864 = .ok (.iadd, 1) := by decide +kernel
theorem dL_law_865 : decode cL_law 865 = .ok (.iaload, 1) := by decide +kernel
theorem dL_law_866 : decode cL_law 866 = .ok (.invokevirtual 121, 3) := by decide +kernel
theorem dL_law_869 : decode cL_law 869 = .ok (.if_icmp .eq 51, 3) := by decide +kernel
theorem dL_law_872 : decode cL_law 872 = .ok (.iconst 0, 1) := by decide +kernel
theorem dL_law_873 : decode cL_law 873 = .ok (.ireturn, 1) := by decide +kernel
theorem dL_law_874 : decode cL_law 874 = .ok (.aload_n 1, 1) := by decide +kernel
theorem dL_law_875 : decode cL_law 875 = .ok (.aload_n 0, 1) := by decide +kernel
theorem dL_law_876 : decode cL_law 876 = .ok (.iload_n 3, 1) := by decide +kernel
theorem dL_law_877 : decode cL_law 877 = .ok (.iconst 1, 1) := by decide +kernel
theorem dL_law_878 : decode cL_law 878 = .ok (.iadd, 1) := by decide +kernel
theorem dL_law_879 : decode cL_law 879 = .ok (.iaload, 1) := by decide +kernel
theorem dL_law_880 : decode cL_law 880 = .ok (.invokevirtual 122, 3) := by decide +kernel
theorem dL_law_883 : decode cL_law 883 = .ok (.aload_n 2, 1) := by decide +kernel
theorem dL_law_884 : decode cL_law 884 = .ok (.aload_n 0, 1) := by decide +kernel
theorem dL_law_885 : decode cL_law 885 = .ok (.iload_n 3, 1) := by decide +kernel
theorem dL_law_886 : decode cL_law 886 = .ok (.iconst 1, 1) := by decide +kernel
theorem dL_law_887 : decode cL_law 887 = .ok (.iadd, 1) := by decide +kernel
theorem dL_law_888 : decode cL_law 888 = .ok (.iaload, 1) := by decide +kernel
theorem dL_law_889 : decode cL_law 889 = .ok (.invokevirtual 125, 3) := by decide +kernel
theorem dL_law_892 : decode cL_law 892 = .ok (.if_icmp .eq 28, 3) := by decide +kernel
theorem dL_law_895 : decode cL_law 895 = .ok (.iconst 0, 1) := by decide +kernel
theorem dL_law_896 : decode cL_law 896 = .ok (.ireturn, 1) := by decide +kernel
theorem dL_law_897 : decode cL_law 897 = .ok (.aload_n 1, 1) := by decide +kernel
theorem dL_law_898 : decode cL_law 898 = .ok (.aload_n 0, 1) := by decide +kernel
theorem dL_law_899 : decode cL_law 899 = .ok (.iload_n 3, 1) := by decide +kernel
theorem dL_law_900 : decode cL_law 900 = .ok (.iconst 1, 1) := by decide +kernel
theorem dL_law_901 : decode cL_law 901 = .ok (.iadd, 1) := by decide +kernel
theorem dL_law_902 : decode cL_law 902 = .ok (.iaload, 1) := by decide +kernel
theorem dL_law_903 : decode cL_law 903 = .ok (.invokevirtual 126, 3) := by decide +kernel
theorem dL_law_906 : decode cL_law 906 = .ok (.aload_n 2, 1) := by decide +kernel
theorem dL_law_907 : decode cL_law 907 = .ok (.aload_n 0, 1) := by decide +kernel
theorem dL_law_908 : decode cL_law 908 = .ok (.iload_n 3, 1) := by decide +kernel
theorem dL_law_909 : decode cL_law 909 = .ok (.iconst 1, 1) := by decide +kernel
theorem dL_law_910 : decode cL_law 910 = .ok (.iadd, 1) := by decide +kernel
theorem dL_law_911 : decode cL_law 911 = .ok (.iaload, 1) := by decide +kernel
theorem dL_law_912 : decode cL_law 912 = .ok (.invokevirtual 129, 3) := by decide +kernel
theorem dL_law_915 : decode cL_law 915 = .ok (.if_icmp .eq 5, 3) := by decide +kernel
theorem dL_law_918 : decode cL_law 918 = .ok (.iconst 0, 1) := by decide +kernel
theorem dL_law_919 : decode cL_law 919 = .ok (.ireturn, 1) := by decide +kernel
theorem dL_law_920 : decode cL_law 920 = .ok (.iinc 3 5, 3) := by decide +kernel
theorem dL_law_923 : decode cL_law 923 = .ok (.goto (-905), 3) := by decide +kernel
theorem dL_law_926 : decode cL_law 926 = .ok (.iconst 1, 1) := by decide +kernel
theorem dL_law_927 : decode cL_law 927 = .ok (.ireturn, 1) := by decide +kernel
end
section
/-! THE JUDGEMENT XX: a walk over a world of named cells; the context in one K -/
abbrev CL : List vw_C := [(RX0, TX0, 2), (RX1, TX1, 5), (RX2, TX2, 2), (RX3, TX3, 3), (RX4, TX4, 13), (RX5, TX5, 25)]
def wA : List Cond := lw_tbl.filter goodWord
theorem wA_mem {w : Cond} (h : w ∈ lw_tbl) (g : goodWord w = true) : w ∈ wA := List.mem_filter.mpr ⟨h, g⟩
theorem wA_t {w : Cond} (i : Nat) (h : tables_1[i]? = some w) (g : goodWord w = true) : w ∈ wA := wA_mem (List.mem_append_right _ (List.mem_of_getElem? h)) g
theorem wA_p {w : Cond} (i : Nat) (h : (k2_sels lw_privs)[i]? = some w) (g : goodWord w = true) : w ∈ wA := wA_mem (List.mem_append_left _ (List.mem_of_getElem? h)) g
theorem wA_g {w : Cond} (h : w ∈ wA) : (w.onTables && w.keeps) = true ∨ ∃ ty, w = .arrayClass ty := good_of_word (List.mem_filter.mp h).2
theorem wA_in : GoodIn wA wA := fun _ h => ⟨h, wA_g h⟩
theorem wA_cons {w : Cond} (hw : w ∈ wA) {ws : List Cond} (h : GoodIn wA ws) : GoodIn wA (w :: ws) := fun v hv => by
  rcases List.mem_cons.mp hv with rfl | hv
  · exact ⟨hw, wA_g hw⟩
  · exact h v hv
/-- the nest mates' links, and the array of Songs -/
def nestW : List Cond := [
  .fieldLinkNest RX4 60 "WellEchoes$Text" "length" "I" RX4, .fieldLinkNest RX4 68 "WellEchoes$Wells" "count" "I" RX4,
  .fieldLinkNest RX4 88 "WellEchoes$Songs" "count" "I" RX4, .fieldLinkNest RX4 109 "WellEchoes$Songs" "lids" "I" RX4,
  .fieldLinkNest RX4 103 "WellEchoes$Songs" "years" "I" RX4, .fieldLinkNest RX4 106 "WellEchoes$Songs" "breath" "I" RX4,
  .fieldLinkNest RX4 74 "WellEchoes$Acts" "count" "I" RX4,
  .methodLinkNest RX4 9 yX2_init RX4, .methodLinkNest RX4 18 yX3_init RX4, .methodLinkNest RX4 25 yX1_init RX4,
  .methodLinkNest RX0 17 yX1_init RX4, .methodLinkNest RX2 34 yX4_isWithin RX4]
def NW (U : State) : Prop := ∀ w ∈ nestW, va_Nw w U
theorem NW.warm {s U : State} (hW : s.WarmedH U.vm) (h : NW s) : NW U := by
  intro w hw
  have h1 := h w hw
  simp only [nestW, List.mem_cons, List.not_mem_nil, or_false] at hw
  rcases hw with rfl | rfl | rfl | rfl | rfl | rfl | rfl | rfl | rfl | rfl | rfl | rfl
  all_goals first | exact va_Nw.warmF hW h1 | exact va_Nw.warmM hW h1
theorem NW.same {u U : State} (hv : u.vm = U.vm) (h : NW u) : NW U := by
  intro w hw
  have h1 := h w hw
  simp only [nestW, List.mem_cons, List.not_mem_nil, or_false] at hw
  rcases hw with rfl | rfl | rfl | rfl | rfl | rfl | rfl | rfl | rfl | rfl | rfl | rfl
  all_goals exact va_Nw.same rfl hv h1
def VK (D : va_G) (tys : List (ClassId × FieldType)) (U : State) : Prop := va_K D CL tys U ∧ NW U ∧ va_AO "WellEchoes$Songs" U
theorem VK.warm {D : va_G} {tys : List (ClassId × FieldType)} {s U : State} (hW : s.WarmedH U.vm) (h : VK D tys s) : VK D tys U := ⟨va_K.moved hW.alike h.1, h.2.1.warm hW, h.2.2.moved hW.alike⟩
theorem VK.same {D : va_G} {tys : List (ClassId × FieldType)} {u U : State} (hv : u.vm = U.vm) (h : VK D tys u) : VK D tys U := ⟨va_K.moved (by rw [hv]; exact Vm.Alike.refl U.vm) h.1, h.2.1.same hv, h.2.2.moved (by rw [hv]; exact Vm.Alike.refl U.vm)⟩
abbrev KA : Type := Program × Launch × Env × Room × State × MethodId × Array Value × List Frame × Method × Code
abbrev KB : Type := Heap × (Nat → Prop) × va_G × List (ClassId × FieldType) × Nat × Nat × Nat × (State → Prop)
def XX (K : KA × KB) (ws : va_W) (lv : List (Nat × Value)) (pc : Nat) (st : List Value) : Prop :=
  match K with
  | ((p, l, e, R, s, m, args, below, meth, c), (H0, A, D, tys, nL, ce, sl, Q)) =>
    ∀ (H : Heap) (locs : List Loc) (ls : Array Slot), va_P D CL ws H → va_D A ws → va_S A H0 H locs → lv_has ls nL lv → W p l e R s m args below meth c H locs ce sl Q (F0 m pc ls st)
/-- the context's facts: code, class, room left (frames, locals' words, cells, slots) -/
def OKX (K : KA × KB) (l0 : Launch) (D0 : va_G) (tys0 : List (ClassId × FieldType)) (cc : ByteArray) (own : String) (nL0 fr lo rc rs : Nat) : Prop :=
  match K with
  | ((p, l, _e, R, s, m, args, _below, _meth, c), (H0, A, D, tys, nL, ce, sl, _Q)) =>
    (p.tables.exec = Jvm.exec ∧ c.code = cc ∧ c.maxLocals = nL ∧ s.vm.findClass own = some m.cls ∧ ∀ w ∈ wA, w.before args s = true) ∧ VK D tys s ∧ (∀ q : Nat, H0.size ≤ q → A q) ∧ fr ≤ R.frames ∧ lo ≤ R.locals ∧ ce + rc ≤ R.cells ∧ sl + rs ≤ R.slots ∧ l = l0 ∧ D = D0 ∧ tys = tys0 ∧ nL = nL0
def KX_al (K : KA × KB) (a b : Nat) : KA × KB :=
  match K with
  | (x, (H0, A, D, tys, nL, ce, sl, Q)) => (x, (H0, A, D, tys, nL, ce + a, sl + b, Q))
def QG {σ : Type} (rv : σ → Option Value) (post : σ → Prop) (B : σ → State → Prop) (A : Nat → Prop) : Array Value → State → Outcome → State → Prop := fun _ st oc t => (∃ u : σ, oc = .returned (rv u) ∧ post u ∧ B u t) ∧ va_F A st t
/-- A CONTRACT: from the world wc, with the arguments av, y returns rv u, the world is cs u, and po u holds; mc cells of ms slots are new -/
def CO (l : Launch) (D : va_G) (tys : List (ClassId × FieldType)) (y : MethodName) (bytes : ByteArray) (maxL : Nat) (ret : Option FieldType) (fr lo mc ms : Nat) (av : List Value) (wc : va_W) {σ : Type} (rv : σ → Option Value) (cs : σ → va_W) (po : σ → Prop) : Prop :=
  ∀ sz : Nat, Met l y (Cond.code y bytes maxL ret :: wA) { frames := fr, cells := mc, slots := ms, locals := lo } (va_Pc av (fun U => U.heap.size = sz ∧ va_P D CL wc U.heap ∧ VK D tys U ∧ va_D (fun _ => True) wc)) (QG rv po (fun u t => va_P D CL (cs u) t.heap ∧ va_D (va_A wc sz) (cs u)) (va_A wc sz)) mc ms (va_A wc sz)
theorem fm_of {α β : Type} {f : α → Option β} {is : List α} {ws : List β} (h : is.map f = ws.map some) : is.filterMap f = ws := by
  have h1 : is.filterMap f = (is.map f).filterMap id := by rw [List.filterMap_map]; rfl
  rw [h1, h, List.filterMap_map]
  exact List.filterMap_some
theorem KX_al0 (K : KA × KB) : KX_al K 0 0 = K := by
  obtain ⟨x, H0, A, D, tys, nL, ce, sl, Q⟩ := K
  rfl
theorem OKX_al {K : KA × KB} {l0 : Launch} {D0 : va_G} {tys0 : List (ClassId × FieldType)} {cc : ByteArray} {own : String} {nL fr lo rc rs a b rc' rs' : Nat} (ok : OKX K l0 D0 tys0 cc own nL fr lo rc rs) (h1 : a + rc' ≤ rc) (h2 : b + rs' ≤ rs) : OKX (KX_al K a b) l0 D0 tys0 cc own nL fr lo rc' rs' := by
  obtain ⟨⟨p, l, e, R, s, m, args, below, meth, c⟩, H0, A, D, tys, nL, ce, sl, Q⟩ := K
  obtain ⟨a1, a2, a3, a4, a5, a6, a7, a8⟩ := ok
  exact ⟨a1, a2, a3, a4, a5, by omega, by omega, a8⟩
def INI (K : KA × KB) : Prop :=
  match K with
  | ((_p, _l, _e, _R, _s, _m, _args, _below, meth, _c), _) => meth.name = "<init>"
def bz (b : Bool) : Int32 := if b = true then 1 else 0
theorem bz_t : bz true = 1 := rfl
theorem bz_f : bz false = 0 := rfl
theorem bz_nar (b : Bool) : narrow .boolean (.int (bz b)) = .int (bz b) := by cases b <;> rfl
theorem CO_mki {l : Launch} {D : va_G} {tys : List (ClassId × FieldType)} {y : MethodName} {bytes : ByteArray} {maxL : Nat} {fr lo : Nat} {av : List Value} {wc : va_W} {σ : Type} {vf : σ → Int32} {cs : σ → va_W} {po : σ → Prop}
    (hy : plainName y.cls = true) (hn : (lg_sl av).length ≤ maxL)
    (h : ∀ K : KA × KB, OKX K l D tys bytes y.cls maxL fr lo 0 0 → (∀ (u : σ) (ws : va_W) (lv : List (Nat × Value)) (pc : Nat) (v : Int32), decode bytes pc = .ok (.ireturn, 1) → cs u = ws → vf u = v → po u → XX K ws lv pc [.int v]) → XX K wc (lv_args 0 av) 0 []) : CO l D tys y bytes maxL (some .int) fr lo 0 0 av wc (fun u => some (.int (vf u))) cs po := by
  intro sz
  refine Met.ofW (cc := bytes) (maxL := maxL) (ret := (some .int)) hy rfl ?_
  intro p e s m args below meth c s₁ B hml hv
  obtain ⟨rfl, hsz, hP, hK, hD0⟩ := hv
  have hx := B.exec
  have hb := B.bytes
  have hr := B.returns
  have hts := atoms_spec (ws := Cond.code y bytes maxL (some .int) :: wA) B.pre
  have hown : s.vm.findClass y.cls = some m.cls := findClass_of_methodNamed B.named
  have hlocks := B.notSynchronized
  subst hsz
  rw [lg_entry_eq]
  have hl := lv_entry av hn
  have hS0 : va_S (va_A wc s.heap.size) s.heap s.heap [] := va_S.rf
  refine h ((p, l, e, { frames := fr, cells := 0, slots := 0, locals := lo }, s, m, av.toArray, below, meth, c), (s.heap, va_A wc s.heap.size, D, tys, maxL, 0, 0, MQ below (QG (fun u => some (.int (vf u))) po (fun u t => va_P D CL (cs u) t.heap ∧ va_D (va_A wc s.heap.size) (cs u)) (va_A wc s.heap.size)) av.toArray s 0 0 (va_A wc s.heap.size))) ⟨⟨hx, hb, hml, hown, fun w hw => hts w (List.mem_cons_of_mem _ hw)⟩, hK, fun q hq => Or.inr hq, Nat.le_refl _, Nat.le_refl _, Nat.le_refl _, Nat.le_refl _, rfl, rfl, rfl, rfl⟩ ?_ s.heap [] _ hP hD0.self hS0 hl
  · intro u ws lv pc v hd hc hv hp
    subst hv
    subst hc
    intro H locs ls hP hD hS hl
    exact W.iret hx hb hr (fun t ht hW => ⟨⟨u, rfl, hp, by rw [ht]; exact hP, hD⟩, hS.F ht⟩) hS.2.2 hd
theorem CO_mkz {l : Launch} {D : va_G} {tys : List (ClassId × FieldType)} {y : MethodName} {bytes : ByteArray} {maxL : Nat} {fr lo : Nat} {av : List Value} {wc : va_W} {σ : Type} {vf : σ → Bool} {cs : σ → va_W} {po : σ → Prop}
    (hy : plainName y.cls = true) (hn : (lg_sl av).length ≤ maxL)
    (h : ∀ K : KA × KB, OKX K l D tys bytes y.cls maxL fr lo 0 0 → (∀ (u : σ) (ws : va_W) (lv : List (Nat × Value)) (pc : Nat) (v : Bool), decode bytes pc = .ok (.ireturn, 1) → cs u = ws → vf u = v → po u → XX K ws lv pc [.int (bz v)]) → XX K wc (lv_args 0 av) 0 []) : CO l D tys y bytes maxL (some .boolean) fr lo 0 0 av wc (fun u => some (.int (bz (vf u)))) cs po := by
  intro sz
  refine Met.ofW (cc := bytes) (maxL := maxL) (ret := (some .boolean)) hy rfl ?_
  intro p e s m args below meth c s₁ B hml hv
  obtain ⟨rfl, hsz, hP, hK, hD0⟩ := hv
  have hx := B.exec
  have hb := B.bytes
  have hr := B.returns
  have hts := atoms_spec (ws := Cond.code y bytes maxL (some .boolean) :: wA) B.pre
  have hown : s.vm.findClass y.cls = some m.cls := findClass_of_methodNamed B.named
  have hlocks := B.notSynchronized
  subst hsz
  rw [lg_entry_eq]
  have hl := lv_entry av hn
  have hS0 : va_S (va_A wc s.heap.size) s.heap s.heap [] := va_S.rf
  refine h ((p, l, e, { frames := fr, cells := 0, slots := 0, locals := lo }, s, m, av.toArray, below, meth, c), (s.heap, va_A wc s.heap.size, D, tys, maxL, 0, 0, MQ below (QG (fun u => some (.int (bz (vf u)))) po (fun u t => va_P D CL (cs u) t.heap ∧ va_D (va_A wc s.heap.size) (cs u)) (va_A wc s.heap.size)) av.toArray s 0 0 (va_A wc s.heap.size))) ⟨⟨hx, hb, hml, hown, fun w hw => hts w (List.mem_cons_of_mem _ hw)⟩, hK, fun q hq => Or.inr hq, Nat.le_refl _, Nat.le_refl _, Nat.le_refl _, Nat.le_refl _, rfl, rfl, rfl, rfl⟩ ?_ s.heap [] _ hP hD0.self hS0 hl
  · intro u ws lv pc v hd hc hv hp
    subst hv
    subst hc
    intro H locs ls hP hD hS hl
    exact W.zret hx hb hr (bz_nar _) (fun t ht hW => ⟨⟨u, rfl, hp, by rw [ht]; exact hP, hD⟩, hS.F ht⟩) hS.2.2 hd
theorem CO_mkl {l : Launch} {D : va_G} {tys : List (ClassId × FieldType)} {y : MethodName} {bytes : ByteArray} {maxL : Nat} {fr lo : Nat} {av : List Value} {wc : va_W} {σ : Type} {vf : σ → Int64} {cs : σ → va_W} {po : σ → Prop}
    (hy : plainName y.cls = true) (hn : (lg_sl av).length ≤ maxL)
    (h : ∀ K : KA × KB, OKX K l D tys bytes y.cls maxL fr lo 0 0 → (∀ (u : σ) (ws : va_W) (lv : List (Nat × Value)) (pc : Nat) (v : Int64), decode bytes pc = .ok (.lreturn, 1) → cs u = ws → vf u = v → po u → XX K ws lv pc [.long v]) → XX K wc (lv_args 0 av) 0 []) : CO l D tys y bytes maxL (some .long) fr lo 0 0 av wc (fun u => some (.long (vf u))) cs po := by
  intro sz
  refine Met.ofW (cc := bytes) (maxL := maxL) (ret := (some .long)) hy rfl ?_
  intro p e s m args below meth c s₁ B hml hv
  obtain ⟨rfl, hsz, hP, hK, hD0⟩ := hv
  have hx := B.exec
  have hb := B.bytes
  have hr := B.returns
  have hts := atoms_spec (ws := Cond.code y bytes maxL (some .long) :: wA) B.pre
  have hown : s.vm.findClass y.cls = some m.cls := findClass_of_methodNamed B.named
  have hlocks := B.notSynchronized
  subst hsz
  rw [lg_entry_eq]
  have hl := lv_entry av hn
  have hS0 : va_S (va_A wc s.heap.size) s.heap s.heap [] := va_S.rf
  refine h ((p, l, e, { frames := fr, cells := 0, slots := 0, locals := lo }, s, m, av.toArray, below, meth, c), (s.heap, va_A wc s.heap.size, D, tys, maxL, 0, 0, MQ below (QG (fun u => some (.long (vf u))) po (fun u t => va_P D CL (cs u) t.heap ∧ va_D (va_A wc s.heap.size) (cs u)) (va_A wc s.heap.size)) av.toArray s 0 0 (va_A wc s.heap.size))) ⟨⟨hx, hb, hml, hown, fun w hw => hts w (List.mem_cons_of_mem _ hw)⟩, hK, fun q hq => Or.inr hq, Nat.le_refl _, Nat.le_refl _, Nat.le_refl _, Nat.le_refl _, rfl, rfl, rfl, rfl⟩ ?_ s.heap [] _ hP hD0.self hS0 hl
  · intro u ws lv pc v hd hc hv hp
    subst hv
    subst hc
    intro H locs ls hP hD hS hl
    exact W.lret hx hb hr (fun t ht hW => ⟨⟨u, rfl, hp, by rw [ht]; exact hP, hD⟩, hS.F ht⟩) hS.2.2 hd
theorem CO_mkq {l : Launch} {D : va_G} {tys : List (ClassId × FieldType)} {y : MethodName} {bytes : ByteArray} {maxL : Nat} {fr lo : Nat} {av : List Value} {wc : va_W} {σ : Type} {vf : σ → Nat} {cs : σ → va_W} {po : σ → Prop}
    (hy : plainName y.cls = true) (hn : (lg_sl av).length ≤ maxL)
    (h : ∀ K : KA × KB, OKX K l D tys bytes y.cls maxL fr lo 0 0 → (∀ (u : σ) (ws : va_W) (lv : List (Nat × Value)) (pc : Nat) (v : Nat), decode bytes pc = .ok (.areturn, 1) → cs u = ws → vf u = v → po u → XX K ws lv pc [.ref v]) → XX K wc (lv_args 0 av) 0 []) : CO l D tys y bytes maxL (some (.object "WellEchoes$Songs")) fr lo 0 0 av wc (fun u => some (.ref (vf u))) cs po := by
  intro sz
  refine Met.ofW (cc := bytes) (maxL := maxL) (ret := (some (.object "WellEchoes$Songs"))) hy rfl ?_
  intro p e s m args below meth c s₁ B hml hv
  obtain ⟨rfl, hsz, hP, hK, hD0⟩ := hv
  have hx := B.exec
  have hb := B.bytes
  have hr := B.returns
  have hts := atoms_spec (ws := Cond.code y bytes maxL (some (.object "WellEchoes$Songs")) :: wA) B.pre
  have hown : s.vm.findClass y.cls = some m.cls := findClass_of_methodNamed B.named
  have hlocks := B.notSynchronized
  subst hsz
  rw [lg_entry_eq]
  have hl := lv_entry av hn
  have hS0 : va_S (va_A wc s.heap.size) s.heap s.heap [] := va_S.rf
  refine h ((p, l, e, { frames := fr, cells := 0, slots := 0, locals := lo }, s, m, av.toArray, below, meth, c), (s.heap, va_A wc s.heap.size, D, tys, maxL, 0, 0, MQ below (QG (fun u => some (.ref (vf u))) po (fun u t => va_P D CL (cs u) t.heap ∧ va_D (va_A wc s.heap.size) (cs u)) (va_A wc s.heap.size)) av.toArray s 0 0 (va_A wc s.heap.size))) ⟨⟨hx, hb, hml, hown, fun w hw => hts w (List.mem_cons_of_mem _ hw)⟩, hK, fun q hq => Or.inr hq, Nat.le_refl _, Nat.le_refl _, Nat.le_refl _, Nat.le_refl _, rfl, rfl, rfl, rfl⟩ ?_ s.heap [] _ hP hD0.self hS0 hl
  · intro u ws lv pc v hd hc hv hp
    subst hv
    subst hc
    intro H locs ls hP hD hS hl
    exact W.aret hx hb hr (Or.inl ⟨_, rfl⟩) (Or.inr ⟨_, rfl⟩) (fun t ht hW => ⟨⟨u, rfl, hp, by rw [ht]; exact hP, hD⟩, hS.F ht⟩) hS.2.2 hd
theorem CO_mkv {l : Launch} {D : va_G} {tys : List (ClassId × FieldType)} {y : MethodName} {bytes : ByteArray} {maxL : Nat} {fr lo : Nat} {av : List Value} {wc : va_W} {σ : Type} {cs : σ → va_W} {po : σ → Prop}
    (hy : plainName y.cls = true) (hn : (lg_sl av).length ≤ maxL)
    (h : ∀ K : KA × KB, OKX K l D tys bytes y.cls maxL fr lo 0 0 → (∀ (u : σ) (ws : va_W) (lv : List (Nat × Value)) (pc : Nat), decode bytes pc = .ok (.return_, 1) → cs u = ws → po u → XX K ws lv pc []) → XX K wc (lv_args 0 av) 0 []) : CO l D tys y bytes maxL none fr lo 0 0 av wc (fun _ => none) cs po := by
  intro sz
  refine Met.ofW (cc := bytes) (maxL := maxL) (ret := none) hy rfl ?_
  intro p e s m args below meth c s₁ B hml hv
  obtain ⟨rfl, hsz, hP, hK, hD0⟩ := hv
  have hx := B.exec
  have hb := B.bytes
  have hr := B.returns
  have hts := atoms_spec (ws := Cond.code y bytes maxL none :: wA) B.pre
  have hown : s.vm.findClass y.cls = some m.cls := findClass_of_methodNamed B.named
  have hlocks := B.notSynchronized
  subst hsz
  rw [lg_entry_eq]
  have hl := lv_entry av hn
  have hS0 : va_S (va_A wc s.heap.size) s.heap s.heap [] := va_S.rf
  refine h ((p, l, e, { frames := fr, cells := 0, slots := 0, locals := lo }, s, m, av.toArray, below, meth, c), (s.heap, va_A wc s.heap.size, D, tys, maxL, 0, 0, MQ below (QG (fun _ => none) po (fun u t => va_P D CL (cs u) t.heap ∧ va_D (va_A wc s.heap.size) (cs u)) (va_A wc s.heap.size)) av.toArray s 0 0 (va_A wc s.heap.size))) ⟨⟨hx, hb, hml, hown, fun w hw => hts w (List.mem_cons_of_mem _ hw)⟩, hK, fun q hq => Or.inr hq, Nat.le_refl _, Nat.le_refl _, Nat.le_refl _, Nat.le_refl _, rfl, rfl, rfl, rfl⟩ ?_ s.heap [] _ hP hD0.self hS0 hl
  · intro u ws lv pc hd hc hp
    subst hc
    intro H locs ls hP hD hS hl
    exact W.vret hx hb hr (fun t ht hW => ⟨⟨u, rfl, hp, by rw [ht]; exact hP, hD⟩, hS.F ht⟩) hS.2.2 hd
theorem CO_mkI {l : Launch} {D : va_G} {tys : List (ClassId × FieldType)} {y : MethodName} {bytes : ByteArray} {maxL : Nat} {fr lo mc ms : Nat} {av : List Value} {wc : va_W} {σ : Type} {cs : σ → va_W} {po : σ → Prop}
    (hy : plainName y.cls = true) (hn : (lg_sl av).length ≤ maxL) (hi : y.name = "<init>")
    (h : ∀ K : KA × KB, OKX K l D tys bytes y.cls maxL fr lo mc ms → INI K → (∀ (u : σ) (a b : Nat) (ws : va_W) (lv : List (Nat × Value)) (pc : Nat), decode bytes pc = .ok (.return_, 1) → a ≤ mc → b ≤ ms → cs u = ws → po u → XX (KX_al K a b) ws lv pc []) → XX K wc (lv_args 0 av) 0 []) : CO l D tys y bytes maxL none fr lo mc ms av wc (fun _ => none) cs po := by
  intro sz
  refine Met.ofW (cc := bytes) (maxL := maxL) (ret := none) hy rfl ?_
  intro p e s m args below meth c s₁ B hml hv
  obtain ⟨rfl, hsz, hP, hK, hD0⟩ := hv
  have hx := B.exec
  have hb := B.bytes
  have hr := B.returns
  have hts := atoms_spec (ws := Cond.code y bytes maxL none :: wA) B.pre
  have hown : s.vm.findClass y.cls = some m.cls := findClass_of_methodNamed B.named
  have hlocks := B.notSynchronized
  have hin : meth.name = y.name := (name_of_methodNamed B.named B.method).1
  subst hsz
  rw [lg_entry_eq]
  have hl := lv_entry av hn
  have hS0 : va_S (va_A wc s.heap.size) s.heap s.heap [] := va_S.rf
  refine h ((p, l, e, { frames := fr, cells := mc, slots := ms, locals := lo }, s, m, av.toArray, below, meth, c), (s.heap, va_A wc s.heap.size, D, tys, maxL, 0, 0, MQ below (QG (fun _ => none) po (fun u t => va_P D CL (cs u) t.heap ∧ va_D (va_A wc s.heap.size) (cs u)) (va_A wc s.heap.size)) av.toArray s mc ms (va_A wc s.heap.size))) ⟨⟨hx, hb, hml, hown, fun w hw => hts w (List.mem_cons_of_mem _ hw)⟩, hK, fun q hq => Or.inr hq, Nat.le_refl _, Nat.le_refl _, Nat.le_of_eq (Nat.zero_add _), Nat.le_of_eq (Nat.zero_add _), rfl, rfl, rfl, rfl⟩ (hin.trans hi) ?_ s.heap [] _ hP hD0.self hS0 hl
  · intro u a b ws lv pc hd ha hb' hc hp
    subst hc
    intro H locs ls hP hD hS hl
    refine W.widen (k := mc) (n := ms) (by omega) (by omega) ?_
    exact W.vret hx hb hr (fun t ht hW => ⟨⟨u, rfl, hp, by rw [ht]; exact hP, hD⟩, hS.F ht⟩) hS.2.2 hd
theorem x_iconst {K : KA × KB} {l0 : Launch} {D0 : va_G} {ty0 : List (ClassId × FieldType)} {cc : ByteArray} {own : String} {nL fr lo rc rs : Nat} {ws : va_W} {lv : List (Nat × Value)} {pc : Nat} {st : List Value} (ok : OKX K l0 D0 ty0 cc own nL fr lo rc rs) {n : Int} (v : Int32) (hd : decode cc pc = .ok (.iconst n, 1)) (hv : Int32.ofInt n = v) (k : XX K ws lv (pc + 1) (.int v :: st)) : XX K ws lv pc st := by
  obtain ⟨⟨p, l, e, R, s, m, args, below, meth, c⟩, H0, A, D, tys, nL', ce, sl, Q⟩ := K
  obtain ⟨⟨hx, hb, hml, hown, hts⟩, hK, hA, hfr, hlo, hce, hsl, rfl, rfl, rfl, rfl⟩ := ok
  intro H locs ls hP hD hS hl
  exact lv_iconst hx hb hd hv (k H locs ls hP hD hS hl)
theorem x_bipush {K : KA × KB} {l0 : Launch} {D0 : va_G} {ty0 : List (ClassId × FieldType)} {cc : ByteArray} {own : String} {nL fr lo rc rs : Nat} {ws : va_W} {lv : List (Nat × Value)} {pc : Nat} {st : List Value} (ok : OKX K l0 D0 ty0 cc own nL fr lo rc rs) {n : Int} (v : Int32) (hd : decode cc pc = .ok (.bipush n, 2)) (hv : (Int8.ofInt n).toInt32 = v) (k : XX K ws lv (pc + 2) (.int v :: st)) : XX K ws lv pc st := by
  obtain ⟨⟨p, l, e, R, s, m, args, below, meth, c⟩, H0, A, D, tys, nL', ce, sl, Q⟩ := K
  obtain ⟨⟨hx, hb, hml, hown, hts⟩, hK, hA, hfr, hlo, hce, hsl, rfl, rfl, rfl, rfl⟩ := ok
  intro H locs ls hP hD hS hl
  exact lv_bipush hx hb hd hv (k H locs ls hP hD hS hl)
theorem x_sipush {K : KA × KB} {l0 : Launch} {D0 : va_G} {ty0 : List (ClassId × FieldType)} {cc : ByteArray} {own : String} {nL fr lo rc rs : Nat} {ws : va_W} {lv : List (Nat × Value)} {pc : Nat} {st : List Value} (ok : OKX K l0 D0 ty0 cc own nL fr lo rc rs) {n : Int} (v : Int32) (hd : decode cc pc = .ok (.sipush n, 3)) (hv : (Int16.ofInt n).toInt32 = v) (k : XX K ws lv (pc + 3) (.int v :: st)) : XX K ws lv pc st := by
  obtain ⟨⟨p, l, e, R, s, m, args, below, meth, c⟩, H0, A, D, tys, nL', ce, sl, Q⟩ := K
  obtain ⟨⟨hx, hb, hml, hown, hts⟩, hK, hA, hfr, hlo, hce, hsl, rfl, rfl, rfl, rfl⟩ := ok
  intro H locs ls hP hD hS hl
  exact lv_sipush hx hb hd hv (k H locs ls hP hD hS hl)
theorem x_lconst {K : KA × KB} {l0 : Launch} {D0 : va_G} {ty0 : List (ClassId × FieldType)} {cc : ByteArray} {own : String} {nL fr lo rc rs : Nat} {ws : va_W} {lv : List (Nat × Value)} {pc : Nat} {st : List Value} (ok : OKX K l0 D0 ty0 cc own nL fr lo rc rs) {n : Fin 2} (v : Int64) (hd : decode cc pc = .ok (.lconst n, 1)) (hv : Int64.ofNat (n : Nat) = v) (k : XX K ws lv (pc + 1) (.long v :: st)) : XX K ws lv pc st := by
  obtain ⟨⟨p, l, e, R, s, m, args, below, meth, c⟩, H0, A, D, tys, nL', ce, sl, Q⟩ := K
  obtain ⟨⟨hx, hb, hml, hown, hts⟩, hK, hA, hfr, hlo, hce, hsl, rfl, rfl, rfl, rfl⟩ := ok
  intro H locs ls hP hD hS hl
  exact lv_lconst hx hb hd hv (k H locs ls hP hD hS hl)
theorem x_iload_n {K : KA × KB} {l0 : Launch} {D0 : va_G} {ty0 : List (ClassId × FieldType)} {cc : ByteArray} {own : String} {nL fr lo rc rs : Nat} {ws : va_W} {lv : List (Nat × Value)} {pc : Nat} {st : List Value} (ok : OKX K l0 D0 ty0 cc own nL fr lo rc rs) (j : Nat) {k : Fin 4} {i : Nat} {x : Int32} (hd : decode cc pc = .ok (.iload_n k, 1)) (hi : (k : Nat) = i) (hl0 : lv[j]? = some (i, .int x)) (k : XX K ws lv (pc + 1) (.int x :: st)) : XX K ws lv pc st := by
  obtain ⟨⟨p, l, e, R, s, m, args, below, meth, c⟩, H0, A, D, tys, nL', ce, sl, Q⟩ := K
  obtain ⟨⟨hx, hb, hml, hown, hts⟩, hK, hA, hfr, hlo, hce, hsl, rfl, rfl, rfl, rfl⟩ := ok
  intro H locs ls hP hD hS hl
  exact lv_iload_n hx hb hd hi (lv_at hl j hl0) (k H locs ls hP hD hS hl)
theorem x_iload {K : KA × KB} {l0 : Launch} {D0 : va_G} {ty0 : List (ClassId × FieldType)} {cc : ByteArray} {own : String} {nL fr lo rc rs : Nat} {ws : va_W} {lv : List (Nat × Value)} {pc : Nat} {st : List Value} (ok : OKX K l0 D0 ty0 cc own nL fr lo rc rs) (j : Nat) {i : Nat} {x : Int32} (hd : decode cc pc = .ok (.iload i, 2)) (hl0 : lv[j]? = some (i, .int x)) (k : XX K ws lv (pc + 2) (.int x :: st)) : XX K ws lv pc st := by
  obtain ⟨⟨p, l, e, R, s, m, args, below, meth, c⟩, H0, A, D, tys, nL', ce, sl, Q⟩ := K
  obtain ⟨⟨hx, hb, hml, hown, hts⟩, hK, hA, hfr, hlo, hce, hsl, rfl, rfl, rfl, rfl⟩ := ok
  intro H locs ls hP hD hS hl
  exact lv_iload hx hb hd (lv_at hl j hl0) (k H locs ls hP hD hS hl)
theorem x_istore_n {K : KA × KB} {l0 : Launch} {D0 : va_G} {ty0 : List (ClassId × FieldType)} {cc : ByteArray} {own : String} {nL fr lo rc rs : Nat} {ws : va_W} {lv : List (Nat × Value)} {pc : Nat} {st : List Value} (ok : OKX K l0 D0 ty0 cc own nL fr lo rc rs) {k : Fin 4} {i : Nat} {x : Int32} {lv' : List (Nat × Value)} (hd : decode cc pc = .ok (.istore_n k, 1)) (hi : (k : Nat) = i) (hn : i < nL) (hl0 : (i, Value.int x) :: lv.filter (fun q => !(q.1 == i) && !(q.1 + 1 == i && q.2.category == 2)) = lv') (k : XX K ws lv' (pc + 1) st) : XX K ws lv pc (.int x :: st) := by
  obtain ⟨⟨p, l, e, R, s, m, args, below, meth, c⟩, H0, A, D, tys, nL', ce, sl, Q⟩ := K
  obtain ⟨⟨hx, hb, hml, hown, hts⟩, hK, hA, hfr, hlo, hce, hsl, rfl, rfl, rfl, rfl⟩ := ok
  intro H locs ls hP hD hS hl
  exact lv_istore_n hx hb hd hi hl hn hl0 (fun ls hl => k H locs ls hP hD hS hl)
theorem x_istore {K : KA × KB} {l0 : Launch} {D0 : va_G} {ty0 : List (ClassId × FieldType)} {cc : ByteArray} {own : String} {nL fr lo rc rs : Nat} {ws : va_W} {lv : List (Nat × Value)} {pc : Nat} {st : List Value} (ok : OKX K l0 D0 ty0 cc own nL fr lo rc rs) {i : Nat} {x : Int32} {lv' : List (Nat × Value)} (hd : decode cc pc = .ok (.istore i, 2)) (hn : i < nL) (hl0 : (i, Value.int x) :: lv.filter (fun q => !(q.1 == i) && !(q.1 + 1 == i && q.2.category == 2)) = lv') (k : XX K ws lv' (pc + 2) st) : XX K ws lv pc (.int x :: st) := by
  obtain ⟨⟨p, l, e, R, s, m, args, below, meth, c⟩, H0, A, D, tys, nL', ce, sl, Q⟩ := K
  obtain ⟨⟨hx, hb, hml, hown, hts⟩, hK, hA, hfr, hlo, hce, hsl, rfl, rfl, rfl, rfl⟩ := ok
  intro H locs ls hP hD hS hl
  exact lv_istore hx hb hd hl hn hl0 (fun ls hl => k H locs ls hP hD hS hl)
theorem x_lload_n {K : KA × KB} {l0 : Launch} {D0 : va_G} {ty0 : List (ClassId × FieldType)} {cc : ByteArray} {own : String} {nL fr lo rc rs : Nat} {ws : va_W} {lv : List (Nat × Value)} {pc : Nat} {st : List Value} (ok : OKX K l0 D0 ty0 cc own nL fr lo rc rs) (j : Nat) {k : Fin 4} {i : Nat} {x : Int64} (hd : decode cc pc = .ok (.lload_n k, 1)) (hi : (k : Nat) = i) (hl0 : lv[j]? = some (i, .long x)) (k : XX K ws lv (pc + 1) (.long x :: st)) : XX K ws lv pc st := by
  obtain ⟨⟨p, l, e, R, s, m, args, below, meth, c⟩, H0, A, D, tys, nL', ce, sl, Q⟩ := K
  obtain ⟨⟨hx, hb, hml, hown, hts⟩, hK, hA, hfr, hlo, hce, hsl, rfl, rfl, rfl, rfl⟩ := ok
  intro H locs ls hP hD hS hl
  exact lv_lload_n hx hb hd hi (lv_at hl j hl0) (k H locs ls hP hD hS hl)
theorem x_lload {K : KA × KB} {l0 : Launch} {D0 : va_G} {ty0 : List (ClassId × FieldType)} {cc : ByteArray} {own : String} {nL fr lo rc rs : Nat} {ws : va_W} {lv : List (Nat × Value)} {pc : Nat} {st : List Value} (ok : OKX K l0 D0 ty0 cc own nL fr lo rc rs) (j : Nat) {i : Nat} {x : Int64} (hd : decode cc pc = .ok (.lload i, 2)) (hl0 : lv[j]? = some (i, .long x)) (k : XX K ws lv (pc + 2) (.long x :: st)) : XX K ws lv pc st := by
  obtain ⟨⟨p, l, e, R, s, m, args, below, meth, c⟩, H0, A, D, tys, nL', ce, sl, Q⟩ := K
  obtain ⟨⟨hx, hb, hml, hown, hts⟩, hK, hA, hfr, hlo, hce, hsl, rfl, rfl, rfl, rfl⟩ := ok
  intro H locs ls hP hD hS hl
  exact lv_lload hx hb hd (lv_at hl j hl0) (k H locs ls hP hD hS hl)
theorem x_lstore_n {K : KA × KB} {l0 : Launch} {D0 : va_G} {ty0 : List (ClassId × FieldType)} {cc : ByteArray} {own : String} {nL fr lo rc rs : Nat} {ws : va_W} {lv : List (Nat × Value)} {pc : Nat} {st : List Value} (ok : OKX K l0 D0 ty0 cc own nL fr lo rc rs) {k : Fin 4} {i : Nat} {x : Int64} {lv' : List (Nat × Value)} (hd : decode cc pc = .ok (.lstore_n k, 1)) (hi : (k : Nat) = i) (hn : i + 1 < nL) (hl0 : (i, Value.long x) :: lv.filter (fun q => !(q.1 == i) && (!(q.1 == i + 1) && !(q.1 + 1 == i && q.2.category == 2))) = lv') (k : XX K ws lv' (pc + 1) st) : XX K ws lv pc (.long x :: st) := by
  obtain ⟨⟨p, l, e, R, s, m, args, below, meth, c⟩, H0, A, D, tys, nL', ce, sl, Q⟩ := K
  obtain ⟨⟨hx, hb, hml, hown, hts⟩, hK, hA, hfr, hlo, hce, hsl, rfl, rfl, rfl, rfl⟩ := ok
  intro H locs ls hP hD hS hl
  exact lv_lstore_n hx hb hd hi hl hn hl0 (fun ls hl => k H locs ls hP hD hS hl)
theorem x_lstore {K : KA × KB} {l0 : Launch} {D0 : va_G} {ty0 : List (ClassId × FieldType)} {cc : ByteArray} {own : String} {nL fr lo rc rs : Nat} {ws : va_W} {lv : List (Nat × Value)} {pc : Nat} {st : List Value} (ok : OKX K l0 D0 ty0 cc own nL fr lo rc rs) {i : Nat} {x : Int64} {lv' : List (Nat × Value)} (hd : decode cc pc = .ok (.lstore i, 2)) (hn : i + 1 < nL) (hl0 : (i, Value.long x) :: lv.filter (fun q => !(q.1 == i) && (!(q.1 == i + 1) && !(q.1 + 1 == i && q.2.category == 2))) = lv') (k : XX K ws lv' (pc + 2) st) : XX K ws lv pc (.long x :: st) := by
  obtain ⟨⟨p, l, e, R, s, m, args, below, meth, c⟩, H0, A, D, tys, nL', ce, sl, Q⟩ := K
  obtain ⟨⟨hx, hb, hml, hown, hts⟩, hK, hA, hfr, hlo, hce, hsl, rfl, rfl, rfl, rfl⟩ := ok
  intro H locs ls hP hD hS hl
  exact lv_lstore hx hb hd hl hn hl0 (fun ls hl => k H locs ls hP hD hS hl)
theorem x_aload_n {K : KA × KB} {l0 : Launch} {D0 : va_G} {ty0 : List (ClassId × FieldType)} {cc : ByteArray} {own : String} {nL fr lo rc rs : Nat} {ws : va_W} {lv : List (Nat × Value)} {pc : Nat} {st : List Value} (ok : OKX K l0 D0 ty0 cc own nL fr lo rc rs) (j : Nat) {k : Fin 4} {i : Nat} {x : Nat} (hd : decode cc pc = .ok (.aload_n k, 1)) (hi : (k : Nat) = i) (hl0 : lv[j]? = some (i, .ref x)) (k : XX K ws lv (pc + 1) (.ref x :: st)) : XX K ws lv pc st := by
  obtain ⟨⟨p, l, e, R, s, m, args, below, meth, c⟩, H0, A, D, tys, nL', ce, sl, Q⟩ := K
  obtain ⟨⟨hx, hb, hml, hown, hts⟩, hK, hA, hfr, hlo, hce, hsl, rfl, rfl, rfl, rfl⟩ := ok
  intro H locs ls hP hD hS hl
  exact lv_aload_n hx hb hd hi (lv_at hl j hl0) (k H locs ls hP hD hS hl)
theorem x_aload {K : KA × KB} {l0 : Launch} {D0 : va_G} {ty0 : List (ClassId × FieldType)} {cc : ByteArray} {own : String} {nL fr lo rc rs : Nat} {ws : va_W} {lv : List (Nat × Value)} {pc : Nat} {st : List Value} (ok : OKX K l0 D0 ty0 cc own nL fr lo rc rs) (j : Nat) {i : Nat} {x : Nat} (hd : decode cc pc = .ok (.aload i, 2)) (hl0 : lv[j]? = some (i, .ref x)) (k : XX K ws lv (pc + 2) (.ref x :: st)) : XX K ws lv pc st := by
  obtain ⟨⟨p, l, e, R, s, m, args, below, meth, c⟩, H0, A, D, tys, nL', ce, sl, Q⟩ := K
  obtain ⟨⟨hx, hb, hml, hown, hts⟩, hK, hA, hfr, hlo, hce, hsl, rfl, rfl, rfl, rfl⟩ := ok
  intro H locs ls hP hD hS hl
  exact lv_aload hx hb hd (lv_at hl j hl0) (k H locs ls hP hD hS hl)
theorem x_astore_n {K : KA × KB} {l0 : Launch} {D0 : va_G} {ty0 : List (ClassId × FieldType)} {cc : ByteArray} {own : String} {nL fr lo rc rs : Nat} {ws : va_W} {lv : List (Nat × Value)} {pc : Nat} {st : List Value} (ok : OKX K l0 D0 ty0 cc own nL fr lo rc rs) {k : Fin 4} {i : Nat} {x : Nat} {lv' : List (Nat × Value)} (hd : decode cc pc = .ok (.astore_n k, 1)) (hi : (k : Nat) = i) (hn : i < nL) (hl0 : (i, Value.ref x) :: lv.filter (fun q => !(q.1 == i) && !(q.1 + 1 == i && q.2.category == 2)) = lv') (k : XX K ws lv' (pc + 1) st) : XX K ws lv pc (.ref x :: st) := by
  obtain ⟨⟨p, l, e, R, s, m, args, below, meth, c⟩, H0, A, D, tys, nL', ce, sl, Q⟩ := K
  obtain ⟨⟨hx, hb, hml, hown, hts⟩, hK, hA, hfr, hlo, hce, hsl, rfl, rfl, rfl, rfl⟩ := ok
  intro H locs ls hP hD hS hl
  exact lv_astore_n hx hb hd hi hl hn hl0 (fun ls hl => k H locs ls hP hD hS hl)
theorem x_astore {K : KA × KB} {l0 : Launch} {D0 : va_G} {ty0 : List (ClassId × FieldType)} {cc : ByteArray} {own : String} {nL fr lo rc rs : Nat} {ws : va_W} {lv : List (Nat × Value)} {pc : Nat} {st : List Value} (ok : OKX K l0 D0 ty0 cc own nL fr lo rc rs) {i : Nat} {x : Nat} {lv' : List (Nat × Value)} (hd : decode cc pc = .ok (.astore i, 2)) (hn : i < nL) (hl0 : (i, Value.ref x) :: lv.filter (fun q => !(q.1 == i) && !(q.1 + 1 == i && q.2.category == 2)) = lv') (k : XX K ws lv' (pc + 2) st) : XX K ws lv pc (.ref x :: st) := by
  obtain ⟨⟨p, l, e, R, s, m, args, below, meth, c⟩, H0, A, D, tys, nL', ce, sl, Q⟩ := K
  obtain ⟨⟨hx, hb, hml, hown, hts⟩, hK, hA, hfr, hlo, hce, hsl, rfl, rfl, rfl, rfl⟩ := ok
  intro H locs ls hP hD hS hl
  exact lv_astore hx hb hd hl hn hl0 (fun ls hl => k H locs ls hP hD hS hl)
theorem x_iinc {K : KA × KB} {l0 : Launch} {D0 : va_G} {ty0 : List (ClassId × FieldType)} {cc : ByteArray} {own : String} {nL fr lo rc rs : Nat} {ws : va_W} {lv : List (Nat × Value)} {pc : Nat} {st : List Value} (ok : OKX K l0 D0 ty0 cc own nL fr lo rc rs) {i : Nat} {n : Int} {x v : Int32} {lv' : List (Nat × Value)} (hd : decode cc pc = .ok (.iinc i n, 3)) (j0 : Nat) (hk : lv[j0]? = some (i, .int x)) (hv : x + Int32.ofInt n = v) (hn : i < nL) (hl0 : (i, Value.int v) :: lv.filter (fun q => !(q.1 == i) && !(q.1 + 1 == i && q.2.category == 2)) = lv') (k : XX K ws lv' (pc + 3) st) : XX K ws lv pc st := by
  obtain ⟨⟨p, l, e, R, s, m, args, below, meth, c⟩, H0, A, D, tys, nL', ce, sl, Q⟩ := K
  obtain ⟨⟨hx, hb, hml, hown, hts⟩, hK, hA, hfr, hlo, hce, hsl, rfl, rfl, rfl, rfl⟩ := ok
  intro H locs ls hP hD hS hl
  exact lv_iinc hx hb hd hl hk hv hn hl0 (fun ls hl => k H locs ls hP hD hS hl)
theorem x_iadd {K : KA × KB} {l0 : Launch} {D0 : va_G} {ty0 : List (ClassId × FieldType)} {cc : ByteArray} {own : String} {nL fr lo rc rs : Nat} {ws : va_W} {lv : List (Nat × Value)} {pc : Nat} {st : List Value} (ok : OKX K l0 D0 ty0 cc own nL fr lo rc rs) {x y : Int32} (v : Int32) (hd : decode cc pc = .ok (.iadd, 1)) (hv : x + y = v) (k : XX K ws lv (pc + 1) (.int v :: st)) : XX K ws lv pc (.int y :: .int x :: st) := by
  obtain ⟨⟨p, l, e, R, s, m, args, below, meth, c⟩, H0, A, D, tys, nL', ce, sl, Q⟩ := K
  obtain ⟨⟨hx, hb, hml, hown, hts⟩, hK, hA, hfr, hlo, hce, hsl, rfl, rfl, rfl, rfl⟩ := ok
  intro H locs ls hP hD hS hl
  subst hv; exact lv_iadd hx hb hd (k H locs ls hP hD hS hl)
theorem x_isub {K : KA × KB} {l0 : Launch} {D0 : va_G} {ty0 : List (ClassId × FieldType)} {cc : ByteArray} {own : String} {nL fr lo rc rs : Nat} {ws : va_W} {lv : List (Nat × Value)} {pc : Nat} {st : List Value} (ok : OKX K l0 D0 ty0 cc own nL fr lo rc rs) {x y : Int32} (v : Int32) (hd : decode cc pc = .ok (.isub, 1)) (hv : x - y = v) (k : XX K ws lv (pc + 1) (.int v :: st)) : XX K ws lv pc (.int y :: .int x :: st) := by
  obtain ⟨⟨p, l, e, R, s, m, args, below, meth, c⟩, H0, A, D, tys, nL', ce, sl, Q⟩ := K
  obtain ⟨⟨hx, hb, hml, hown, hts⟩, hK, hA, hfr, hlo, hce, hsl, rfl, rfl, rfl, rfl⟩ := ok
  intro H locs ls hP hD hS hl
  subst hv; exact lv_isub hx hb hd (k H locs ls hP hD hS hl)
theorem x_imul {K : KA × KB} {l0 : Launch} {D0 : va_G} {ty0 : List (ClassId × FieldType)} {cc : ByteArray} {own : String} {nL fr lo rc rs : Nat} {ws : va_W} {lv : List (Nat × Value)} {pc : Nat} {st : List Value} (ok : OKX K l0 D0 ty0 cc own nL fr lo rc rs) {x y : Int32} (v : Int32) (hd : decode cc pc = .ok (.imul, 1)) (hv : x * y = v) (k : XX K ws lv (pc + 1) (.int v :: st)) : XX K ws lv pc (.int y :: .int x :: st) := by
  obtain ⟨⟨p, l, e, R, s, m, args, below, meth, c⟩, H0, A, D, tys, nL', ce, sl, Q⟩ := K
  obtain ⟨⟨hx, hb, hml, hown, hts⟩, hK, hA, hfr, hlo, hce, hsl, rfl, rfl, rfl, rfl⟩ := ok
  intro H locs ls hP hD hS hl
  subst hv; exact lv_imul hx hb hd (k H locs ls hP hD hS hl)
theorem x_iand {K : KA × KB} {l0 : Launch} {D0 : va_G} {ty0 : List (ClassId × FieldType)} {cc : ByteArray} {own : String} {nL fr lo rc rs : Nat} {ws : va_W} {lv : List (Nat × Value)} {pc : Nat} {st : List Value} (ok : OKX K l0 D0 ty0 cc own nL fr lo rc rs) {x y : Int32} (v : Int32) (hd : decode cc pc = .ok (.iand, 1)) (hv : x &&& y = v) (k : XX K ws lv (pc + 1) (.int v :: st)) : XX K ws lv pc (.int y :: .int x :: st) := by
  obtain ⟨⟨p, l, e, R, s, m, args, below, meth, c⟩, H0, A, D, tys, nL', ce, sl, Q⟩ := K
  obtain ⟨⟨hx, hb, hml, hown, hts⟩, hK, hA, hfr, hlo, hce, hsl, rfl, rfl, rfl, rfl⟩ := ok
  intro H locs ls hP hD hS hl
  subst hv; exact lv_iand hx hb hd (k H locs ls hP hD hS hl)
theorem x_ior {K : KA × KB} {l0 : Launch} {D0 : va_G} {ty0 : List (ClassId × FieldType)} {cc : ByteArray} {own : String} {nL fr lo rc rs : Nat} {ws : va_W} {lv : List (Nat × Value)} {pc : Nat} {st : List Value} (ok : OKX K l0 D0 ty0 cc own nL fr lo rc rs) {x y : Int32} (v : Int32) (hd : decode cc pc = .ok (.ior, 1)) (hv : x ||| y = v) (k : XX K ws lv (pc + 1) (.int v :: st)) : XX K ws lv pc (.int y :: .int x :: st) := by
  obtain ⟨⟨p, l, e, R, s, m, args, below, meth, c⟩, H0, A, D, tys, nL', ce, sl, Q⟩ := K
  obtain ⟨⟨hx, hb, hml, hown, hts⟩, hK, hA, hfr, hlo, hce, hsl, rfl, rfl, rfl, rfl⟩ := ok
  intro H locs ls hP hD hS hl
  subst hv; exact lv_ior hx hb hd (k H locs ls hP hD hS hl)
theorem x_ixor {K : KA × KB} {l0 : Launch} {D0 : va_G} {ty0 : List (ClassId × FieldType)} {cc : ByteArray} {own : String} {nL fr lo rc rs : Nat} {ws : va_W} {lv : List (Nat × Value)} {pc : Nat} {st : List Value} (ok : OKX K l0 D0 ty0 cc own nL fr lo rc rs) {x y : Int32} (v : Int32) (hd : decode cc pc = .ok (.ixor, 1)) (hv : x ^^^ y = v) (k : XX K ws lv (pc + 1) (.int v :: st)) : XX K ws lv pc (.int y :: .int x :: st) := by
  obtain ⟨⟨p, l, e, R, s, m, args, below, meth, c⟩, H0, A, D, tys, nL', ce, sl, Q⟩ := K
  obtain ⟨⟨hx, hb, hml, hown, hts⟩, hK, hA, hfr, hlo, hce, hsl, rfl, rfl, rfl, rfl⟩ := ok
  intro H locs ls hP hD hS hl
  subst hv; exact lv_ixor hx hb hd (k H locs ls hP hD hS hl)
theorem x_ishl {K : KA × KB} {l0 : Launch} {D0 : va_G} {ty0 : List (ClassId × FieldType)} {cc : ByteArray} {own : String} {nL fr lo rc rs : Nat} {ws : va_W} {lv : List (Nat × Value)} {pc : Nat} {st : List Value} (ok : OKX K l0 D0 ty0 cc own nL fr lo rc rs) {x y : Int32} (v : Int32) (hd : decode cc pc = .ok (.ishl, 1)) (hv : x <<< (y &&& 31) = v) (k : XX K ws lv (pc + 1) (.int v :: st)) : XX K ws lv pc (.int y :: .int x :: st) := by
  obtain ⟨⟨p, l, e, R, s, m, args, below, meth, c⟩, H0, A, D, tys, nL', ce, sl, Q⟩ := K
  obtain ⟨⟨hx, hb, hml, hown, hts⟩, hK, hA, hfr, hlo, hce, hsl, rfl, rfl, rfl, rfl⟩ := ok
  intro H locs ls hP hD hS hl
  subst hv; exact lv_ishl hx hb hd (k H locs ls hP hD hS hl)
theorem x_ishr {K : KA × KB} {l0 : Launch} {D0 : va_G} {ty0 : List (ClassId × FieldType)} {cc : ByteArray} {own : String} {nL fr lo rc rs : Nat} {ws : va_W} {lv : List (Nat × Value)} {pc : Nat} {st : List Value} (ok : OKX K l0 D0 ty0 cc own nL fr lo rc rs) {x y : Int32} (v : Int32) (hd : decode cc pc = .ok (.ishr, 1)) (hv : x >>> (y &&& 31) = v) (k : XX K ws lv (pc + 1) (.int v :: st)) : XX K ws lv pc (.int y :: .int x :: st) := by
  obtain ⟨⟨p, l, e, R, s, m, args, below, meth, c⟩, H0, A, D, tys, nL', ce, sl, Q⟩ := K
  obtain ⟨⟨hx, hb, hml, hown, hts⟩, hK, hA, hfr, hlo, hce, hsl, rfl, rfl, rfl, rfl⟩ := ok
  intro H locs ls hP hD hS hl
  subst hv; exact lv_ishr hx hb hd (k H locs ls hP hD hS hl)
theorem x_ineg {K : KA × KB} {l0 : Launch} {D0 : va_G} {ty0 : List (ClassId × FieldType)} {cc : ByteArray} {own : String} {nL fr lo rc rs : Nat} {ws : va_W} {lv : List (Nat × Value)} {pc : Nat} {st : List Value} (ok : OKX K l0 D0 ty0 cc own nL fr lo rc rs) {x : Int32} (v : Int32) (hd : decode cc pc = .ok (.ineg, 1)) (hv : -x = v) (k : XX K ws lv (pc + 1) (.int v :: st)) : XX K ws lv pc (.int x :: st) := by
  obtain ⟨⟨p, l, e, R, s, m, args, below, meth, c⟩, H0, A, D, tys, nL', ce, sl, Q⟩ := K
  obtain ⟨⟨hx, hb, hml, hown, hts⟩, hK, hA, hfr, hlo, hce, hsl, rfl, rfl, rfl, rfl⟩ := ok
  intro H locs ls hP hD hS hl
  subst hv; exact lv_ineg hx hb hd (k H locs ls hP hD hS hl)
theorem x_iushr {K : KA × KB} {l0 : Launch} {D0 : va_G} {ty0 : List (ClassId × FieldType)} {cc : ByteArray} {own : String} {nL fr lo rc rs : Nat} {ws : va_W} {lv : List (Nat × Value)} {pc : Nat} {st : List Value} (ok : OKX K l0 D0 ty0 cc own nL fr lo rc rs) {x y : Int32} (v : Int32) (hd : decode cc pc = .ok (.iushr, 1)) (hv : (x.toUInt32 >>> (y.toUInt32 &&& Int32.toUInt32 31)).toInt32 = v) (k : XX K ws lv (pc + 1) (.int v :: st)) : XX K ws lv pc (.int y :: .int x :: st) := by
  obtain ⟨⟨p, l, e, R, s, m, args, below, meth, c⟩, H0, A, D, tys, nL', ce, sl, Q⟩ := K
  obtain ⟨⟨hx, hb, hml, hown, hts⟩, hK, hA, hfr, hlo, hce, hsl, rfl, rfl, rfl, rfl⟩ := ok
  intro H locs ls hP hD hS hl
  exact lv_iushr hx hb hd hv (k H locs ls hP hD hS hl)
theorem x_idiv {K : KA × KB} {l0 : Launch} {D0 : va_G} {ty0 : List (ClassId × FieldType)} {cc : ByteArray} {own : String} {nL fr lo rc rs : Nat} {ws : va_W} {lv : List (Nat × Value)} {pc : Nat} {st : List Value} (ok : OKX K l0 D0 ty0 cc own nL fr lo rc rs) {x y : Int32} (v : Int32) (hd : decode cc pc = .ok (.idiv, 1)) (hne : ¬ y = 0) (hv : x / y = v) (k : XX K ws lv (pc + 1) (.int v :: st)) : XX K ws lv pc (.int y :: .int x :: st) := by
  obtain ⟨⟨p, l, e, R, s, m, args, below, meth, c⟩, H0, A, D, tys, nL', ce, sl, Q⟩ := K
  obtain ⟨⟨hx, hb, hml, hown, hts⟩, hK, hA, hfr, hlo, hce, hsl, rfl, rfl, rfl, rfl⟩ := ok
  intro H locs ls hP hD hS hl
  subst hv; exact lv_idiv hx hb hd hne (k H locs ls hP hD hS hl)
theorem x_irem {K : KA × KB} {l0 : Launch} {D0 : va_G} {ty0 : List (ClassId × FieldType)} {cc : ByteArray} {own : String} {nL fr lo rc rs : Nat} {ws : va_W} {lv : List (Nat × Value)} {pc : Nat} {st : List Value} (ok : OKX K l0 D0 ty0 cc own nL fr lo rc rs) {x y : Int32} (v : Int32) (hd : decode cc pc = .ok (.irem, 1)) (hne : ¬ y = 0) (hv : x - x / y * y = v) (k : XX K ws lv (pc + 1) (.int v :: st)) : XX K ws lv pc (.int y :: .int x :: st) := by
  obtain ⟨⟨p, l, e, R, s, m, args, below, meth, c⟩, H0, A, D, tys, nL', ce, sl, Q⟩ := K
  obtain ⟨⟨hx, hb, hml, hown, hts⟩, hK, hA, hfr, hlo, hce, hsl, rfl, rfl, rfl, rfl⟩ := ok
  intro H locs ls hP hD hS hl
  subst hv; exact lv_irem hx hb hd hne (k H locs ls hP hD hS hl)
theorem x_ladd {K : KA × KB} {l0 : Launch} {D0 : va_G} {ty0 : List (ClassId × FieldType)} {cc : ByteArray} {own : String} {nL fr lo rc rs : Nat} {ws : va_W} {lv : List (Nat × Value)} {pc : Nat} {st : List Value} (ok : OKX K l0 D0 ty0 cc own nL fr lo rc rs) {x y : Int64} (v : Int64) (hd : decode cc pc = .ok (.ladd, 1)) (hv : x + y = v) (k : XX K ws lv (pc + 1) (.long v :: st)) : XX K ws lv pc (.long y :: .long x :: st) := by
  obtain ⟨⟨p, l, e, R, s, m, args, below, meth, c⟩, H0, A, D, tys, nL', ce, sl, Q⟩ := K
  obtain ⟨⟨hx, hb, hml, hown, hts⟩, hK, hA, hfr, hlo, hce, hsl, rfl, rfl, rfl, rfl⟩ := ok
  intro H locs ls hP hD hS hl
  subst hv; exact lv_ladd hx hb hd (k H locs ls hP hD hS hl)
theorem x_lmul {K : KA × KB} {l0 : Launch} {D0 : va_G} {ty0 : List (ClassId × FieldType)} {cc : ByteArray} {own : String} {nL fr lo rc rs : Nat} {ws : va_W} {lv : List (Nat × Value)} {pc : Nat} {st : List Value} (ok : OKX K l0 D0 ty0 cc own nL fr lo rc rs) {x y : Int64} (v : Int64) (hd : decode cc pc = .ok (.lmul, 1)) (hv : x * y = v) (k : XX K ws lv (pc + 1) (.long v :: st)) : XX K ws lv pc (.long y :: .long x :: st) := by
  obtain ⟨⟨p, l, e, R, s, m, args, below, meth, c⟩, H0, A, D, tys, nL', ce, sl, Q⟩ := K
  obtain ⟨⟨hx, hb, hml, hown, hts⟩, hK, hA, hfr, hlo, hce, hsl, rfl, rfl, rfl, rfl⟩ := ok
  intro H locs ls hP hD hS hl
  subst hv; exact lv_lmul hx hb hd (k H locs ls hP hD hS hl)
theorem x_land {K : KA × KB} {l0 : Launch} {D0 : va_G} {ty0 : List (ClassId × FieldType)} {cc : ByteArray} {own : String} {nL fr lo rc rs : Nat} {ws : va_W} {lv : List (Nat × Value)} {pc : Nat} {st : List Value} (ok : OKX K l0 D0 ty0 cc own nL fr lo rc rs) {x y : Int64} (v : Int64) (hd : decode cc pc = .ok (.land, 1)) (hv : x &&& y = v) (k : XX K ws lv (pc + 1) (.long v :: st)) : XX K ws lv pc (.long y :: .long x :: st) := by
  obtain ⟨⟨p, l, e, R, s, m, args, below, meth, c⟩, H0, A, D, tys, nL', ce, sl, Q⟩ := K
  obtain ⟨⟨hx, hb, hml, hown, hts⟩, hK, hA, hfr, hlo, hce, hsl, rfl, rfl, rfl, rfl⟩ := ok
  intro H locs ls hP hD hS hl
  subst hv; exact lv_land hx hb hd (k H locs ls hP hD hS hl)
theorem x_lor {K : KA × KB} {l0 : Launch} {D0 : va_G} {ty0 : List (ClassId × FieldType)} {cc : ByteArray} {own : String} {nL fr lo rc rs : Nat} {ws : va_W} {lv : List (Nat × Value)} {pc : Nat} {st : List Value} (ok : OKX K l0 D0 ty0 cc own nL fr lo rc rs) {x y : Int64} (v : Int64) (hd : decode cc pc = .ok (.lor, 1)) (hv : x ||| y = v) (k : XX K ws lv (pc + 1) (.long v :: st)) : XX K ws lv pc (.long y :: .long x :: st) := by
  obtain ⟨⟨p, l, e, R, s, m, args, below, meth, c⟩, H0, A, D, tys, nL', ce, sl, Q⟩ := K
  obtain ⟨⟨hx, hb, hml, hown, hts⟩, hK, hA, hfr, hlo, hce, hsl, rfl, rfl, rfl, rfl⟩ := ok
  intro H locs ls hP hD hS hl
  subst hv; exact lv_lor hx hb hd (k H locs ls hP hD hS hl)
theorem x_lrem {K : KA × KB} {l0 : Launch} {D0 : va_G} {ty0 : List (ClassId × FieldType)} {cc : ByteArray} {own : String} {nL fr lo rc rs : Nat} {ws : va_W} {lv : List (Nat × Value)} {pc : Nat} {st : List Value} (ok : OKX K l0 D0 ty0 cc own nL fr lo rc rs) {x y : Int64} (v : Int64) (hd : decode cc pc = .ok (.lrem, 1)) (hne : ¬ y = 0) (hv : x - x / y * y = v) (k : XX K ws lv (pc + 1) (.long v :: st)) : XX K ws lv pc (.long y :: .long x :: st) := by
  obtain ⟨⟨p, l, e, R, s, m, args, below, meth, c⟩, H0, A, D, tys, nL', ce, sl, Q⟩ := K
  obtain ⟨⟨hx, hb, hml, hown, hts⟩, hK, hA, hfr, hlo, hce, hsl, rfl, rfl, rfl, rfl⟩ := ok
  intro H locs ls hP hD hS hl
  subst hv; exact lv_lrem hx hb hd hne (k H locs ls hP hD hS hl)
theorem x_lshl {K : KA × KB} {l0 : Launch} {D0 : va_G} {ty0 : List (ClassId × FieldType)} {cc : ByteArray} {own : String} {nL fr lo rc rs : Nat} {ws : va_W} {lv : List (Nat × Value)} {pc : Nat} {st : List Value} (ok : OKX K l0 D0 ty0 cc own nL fr lo rc rs) {x : Int64} {y : Int32} (v : Int64) (hd : decode cc pc = .ok (.lshl, 1)) (hv : x <<< (y.toInt64 &&& 63) = v) (k : XX K ws lv (pc + 1) (.long v :: st)) : XX K ws lv pc (.int y :: .long x :: st) := by
  obtain ⟨⟨p, l, e, R, s, m, args, below, meth, c⟩, H0, A, D, tys, nL', ce, sl, Q⟩ := K
  obtain ⟨⟨hx, hb, hml, hown, hts⟩, hK, hA, hfr, hlo, hce, hsl, rfl, rfl, rfl, rfl⟩ := ok
  intro H locs ls hP hD hS hl
  exact lv_lshl hx hb hd hv (k H locs ls hP hD hS hl)
theorem x_lushr {K : KA × KB} {l0 : Launch} {D0 : va_G} {ty0 : List (ClassId × FieldType)} {cc : ByteArray} {own : String} {nL fr lo rc rs : Nat} {ws : va_W} {lv : List (Nat × Value)} {pc : Nat} {st : List Value} (ok : OKX K l0 D0 ty0 cc own nL fr lo rc rs) {x : Int64} {y : Int32} (v : Int64) (hd : decode cc pc = .ok (.lushr, 1)) (hv : (x.toUInt64 >>> (y.toInt64.toUInt64 &&& Int64.toUInt64 63)).toInt64 = v) (k : XX K ws lv (pc + 1) (.long v :: st)) : XX K ws lv pc (.int y :: .long x :: st) := by
  obtain ⟨⟨p, l, e, R, s, m, args, below, meth, c⟩, H0, A, D, tys, nL', ce, sl, Q⟩ := K
  obtain ⟨⟨hx, hb, hml, hown, hts⟩, hK, hA, hfr, hlo, hce, hsl, rfl, rfl, rfl, rfl⟩ := ok
  intro H locs ls hP hD hS hl
  exact lv_lushr hx hb hd hv (k H locs ls hP hD hS hl)
theorem x_i2l {K : KA × KB} {l0 : Launch} {D0 : va_G} {ty0 : List (ClassId × FieldType)} {cc : ByteArray} {own : String} {nL fr lo rc rs : Nat} {ws : va_W} {lv : List (Nat × Value)} {pc : Nat} {st : List Value} (ok : OKX K l0 D0 ty0 cc own nL fr lo rc rs) {x : Int32} (v : Int64) (hd : decode cc pc = .ok (.i2l, 1)) (hv : x.toInt64 = v) (k : XX K ws lv (pc + 1) (.long v :: st)) : XX K ws lv pc (.int x :: st) := by
  obtain ⟨⟨p, l, e, R, s, m, args, below, meth, c⟩, H0, A, D, tys, nL', ce, sl, Q⟩ := K
  obtain ⟨⟨hx, hb, hml, hown, hts⟩, hK, hA, hfr, hlo, hce, hsl, rfl, rfl, rfl, rfl⟩ := ok
  intro H locs ls hP hD hS hl
  exact lv_i2l hx hb hd hv (k H locs ls hP hD hS hl)
theorem x_l2i {K : KA × KB} {l0 : Launch} {D0 : va_G} {ty0 : List (ClassId × FieldType)} {cc : ByteArray} {own : String} {nL fr lo rc rs : Nat} {ws : va_W} {lv : List (Nat × Value)} {pc : Nat} {st : List Value} (ok : OKX K l0 D0 ty0 cc own nL fr lo rc rs) {x : Int64} (v : Int32) (hd : decode cc pc = .ok (.l2i, 1)) (hv : x.toInt32 = v) (k : XX K ws lv (pc + 1) (.int v :: st)) : XX K ws lv pc (.long x :: st) := by
  obtain ⟨⟨p, l, e, R, s, m, args, below, meth, c⟩, H0, A, D, tys, nL', ce, sl, Q⟩ := K
  obtain ⟨⟨hx, hb, hml, hown, hts⟩, hK, hA, hfr, hlo, hce, hsl, rfl, rfl, rfl, rfl⟩ := ok
  intro H locs ls hP hD hS hl
  exact lv_l2i hx hb hd hv (k H locs ls hP hD hS hl)
theorem x_lcmp {K : KA × KB} {l0 : Launch} {D0 : va_G} {ty0 : List (ClassId × FieldType)} {cc : ByteArray} {own : String} {nL fr lo rc rs : Nat} {ws : va_W} {lv : List (Nat × Value)} {pc : Nat} {st : List Value} (ok : OKX K l0 D0 ty0 cc own nL fr lo rc rs) {x y : Int64} (hd : decode cc pc = .ok (.lcmp, 1))  (k : XX K ws lv (pc + 1) (.int (lg_cmp x y) :: st)) : XX K ws lv pc (.long y :: .long x :: st) := by
  obtain ⟨⟨p, l, e, R, s, m, args, below, meth, c⟩, H0, A, D, tys, nL', ce, sl, Q⟩ := K
  obtain ⟨⟨hx, hb, hml, hown, hts⟩, hK, hA, hfr, hlo, hce, hsl, rfl, rfl, rfl, rfl⟩ := ok
  intro H locs ls hP hD hS hl
  exact W.lcmp hx hb hd  (k H locs ls hP hD hS hl)
theorem x_dup {K : KA × KB} {l0 : Launch} {D0 : va_G} {ty0 : List (ClassId × FieldType)} {cc : ByteArray} {own : String} {nL fr lo rc rs : Nat} {ws : va_W} {lv : List (Nat × Value)} {pc : Nat} {st : List Value} (ok : OKX K l0 D0 ty0 cc own nL fr lo rc rs) {v : Value} (hd : decode cc pc = .ok (.dup, 1)) (hv : v.category = 1) (k : XX K ws lv (pc + 1) (v :: v :: st)) : XX K ws lv pc (v :: st) := by
  obtain ⟨⟨p, l, e, R, s, m, args, below, meth, c⟩, H0, A, D, tys, nL', ce, sl, Q⟩ := K
  obtain ⟨⟨hx, hb, hml, hown, hts⟩, hK, hA, hfr, hlo, hce, hsl, rfl, rfl, rfl, rfl⟩ := ok
  intro H locs ls hP hD hS hl
  exact lv_dup hx hb hd hv (k H locs ls hP hD hS hl)
theorem x_dup2 {K : KA × KB} {l0 : Launch} {D0 : va_G} {ty0 : List (ClassId × FieldType)} {cc : ByteArray} {own : String} {nL fr lo rc rs : Nat} {ws : va_W} {lv : List (Nat × Value)} {pc : Nat} {st : List Value} (ok : OKX K l0 D0 ty0 cc own nL fr lo rc rs) {v w : Value} (hd : decode cc pc = .ok (.dup2, 1)) (hv : v.category = 1) (hw : w.category = 1) (k : XX K ws lv (pc + 1) (v :: w :: v :: w :: st)) : XX K ws lv pc (v :: w :: st) := by
  obtain ⟨⟨p, l, e, R, s, m, args, below, meth, c⟩, H0, A, D, tys, nL', ce, sl, Q⟩ := K
  obtain ⟨⟨hx, hb, hml, hown, hts⟩, hK, hA, hfr, hlo, hce, hsl, rfl, rfl, rfl, rfl⟩ := ok
  intro H locs ls hP hD hS hl
  exact lv_dup2_11 hx hb hd hv hw (k H locs ls hP hD hS hl)
theorem x_pop {K : KA × KB} {l0 : Launch} {D0 : va_G} {ty0 : List (ClassId × FieldType)} {cc : ByteArray} {own : String} {nL fr lo rc rs : Nat} {ws : va_W} {lv : List (Nat × Value)} {pc : Nat} {st : List Value} (ok : OKX K l0 D0 ty0 cc own nL fr lo rc rs) {v : Value} (hd : decode cc pc = .ok (.pop, 1)) (hv : v.category = 1) (k : XX K ws lv (pc + 1) st) : XX K ws lv pc (v :: st) := by
  obtain ⟨⟨p, l, e, R, s, m, args, below, meth, c⟩, H0, A, D, tys, nL', ce, sl, Q⟩ := K
  obtain ⟨⟨hx, hb, hml, hown, hts⟩, hK, hA, hfr, hlo, hce, hsl, rfl, rfl, rfl, rfl⟩ := ok
  intro H locs ls hP hD hS hl
  exact lv_pop hx hb hd hv (k H locs ls hP hD hS hl)
theorem x_goto {K : KA × KB} {l0 : Launch} {D0 : va_G} {ty0 : List (ClassId × FieldType)} {cc : ByteArray} {own : String} {nL fr lo rc rs : Nat} {ws : va_W} {lv : List (Nat × Value)} {pc : Nat} {st : List Value} (ok : OKX K l0 D0 ty0 cc own nL fr lo rc rs) {off : Int} (tgt : Nat) (hd : decode cc pc = .ok (.goto off, 3)) (ht : (pc : Int) + off = (tgt : Int)) (k : XX K ws lv tgt st) : XX K ws lv pc st := by
  obtain ⟨⟨p, l, e, R, s, m, args, below, meth, c⟩, H0, A, D, tys, nL', ce, sl, Q⟩ := K
  obtain ⟨⟨hx, hb, hml, hown, hts⟩, hK, hA, hfr, hlo, hce, hsl, rfl, rfl, rfl, rfl⟩ := ok
  intro H locs ls hP hD hS hl
  exact lv_goto hx hb hd ht (k H locs ls hP hD hS hl)
theorem x_if_eq {K : KA × KB} {l0 : Launch} {D0 : va_G} {ty0 : List (ClassId × FieldType)} {cc : ByteArray} {own : String} {nL fr lo rc rs : Nat} {ws : va_W} {lv : List (Nat × Value)} {pc : Nat} {st : List Value} (ok : OKX K l0 D0 ty0 cc own nL fr lo rc rs) {x : Int32} {off : Int} (tgt : Nat) (hd : decode cc pc = .ok (.ifCond .eq off, 3)) (ht : (pc : Int) + off = (tgt : Int)) (kt : x = 0 → XX K ws lv tgt st) (kf : ¬ x = 0 → XX K ws lv (pc + 3) st) : XX K ws lv pc (.int x :: st) := by
  obtain ⟨⟨p, l, e, R, s, m, args, below, meth, c⟩, H0, A, D, tys, nL', ce, sl, Q⟩ := K
  obtain ⟨⟨hx, hb, hml, hown, hts⟩, hK, hA, hfr, hlo, hce, hsl, rfl, rfl, rfl, rfl⟩ := ok
  intro H locs ls hP hD hS hl
  exact lv_if_eq hx hb hd ht (fun q => kt q H locs ls hP hD hS hl) (fun q => kf q H locs ls hP hD hS hl)
theorem x_icmp_eq {K : KA × KB} {l0 : Launch} {D0 : va_G} {ty0 : List (ClassId × FieldType)} {cc : ByteArray} {own : String} {nL fr lo rc rs : Nat} {ws : va_W} {lv : List (Nat × Value)} {pc : Nat} {st : List Value} (ok : OKX K l0 D0 ty0 cc own nL fr lo rc rs) {x y : Int32} {off : Int} (tgt : Nat) (hd : decode cc pc = .ok (.if_icmp .eq off, 3)) (ht : (pc : Int) + off = (tgt : Int)) (kt : x = y → XX K ws lv tgt st) (kf : ¬ x = y → XX K ws lv (pc + 3) st) : XX K ws lv pc (.int y :: .int x :: st) := by
  obtain ⟨⟨p, l, e, R, s, m, args, below, meth, c⟩, H0, A, D, tys, nL', ce, sl, Q⟩ := K
  obtain ⟨⟨hx, hb, hml, hown, hts⟩, hK, hA, hfr, hlo, hce, hsl, rfl, rfl, rfl, rfl⟩ := ok
  intro H locs ls hP hD hS hl
  exact lv_icmp_eq hx hb hd ht (fun q => kt q H locs ls hP hD hS hl) (fun q => kf q H locs ls hP hD hS hl)
theorem x_if_ne {K : KA × KB} {l0 : Launch} {D0 : va_G} {ty0 : List (ClassId × FieldType)} {cc : ByteArray} {own : String} {nL fr lo rc rs : Nat} {ws : va_W} {lv : List (Nat × Value)} {pc : Nat} {st : List Value} (ok : OKX K l0 D0 ty0 cc own nL fr lo rc rs) {x : Int32} {off : Int} (tgt : Nat) (hd : decode cc pc = .ok (.ifCond .ne off, 3)) (ht : (pc : Int) + off = (tgt : Int)) (kt : ¬ x = 0 → XX K ws lv tgt st) (kf : x = 0 → XX K ws lv (pc + 3) st) : XX K ws lv pc (.int x :: st) := by
  obtain ⟨⟨p, l, e, R, s, m, args, below, meth, c⟩, H0, A, D, tys, nL', ce, sl, Q⟩ := K
  obtain ⟨⟨hx, hb, hml, hown, hts⟩, hK, hA, hfr, hlo, hce, hsl, rfl, rfl, rfl, rfl⟩ := ok
  intro H locs ls hP hD hS hl
  exact lv_if_ne hx hb hd ht (fun q => kt q H locs ls hP hD hS hl) (fun q => kf q H locs ls hP hD hS hl)
theorem x_icmp_ne {K : KA × KB} {l0 : Launch} {D0 : va_G} {ty0 : List (ClassId × FieldType)} {cc : ByteArray} {own : String} {nL fr lo rc rs : Nat} {ws : va_W} {lv : List (Nat × Value)} {pc : Nat} {st : List Value} (ok : OKX K l0 D0 ty0 cc own nL fr lo rc rs) {x y : Int32} {off : Int} (tgt : Nat) (hd : decode cc pc = .ok (.if_icmp .ne off, 3)) (ht : (pc : Int) + off = (tgt : Int)) (kt : ¬ x = y → XX K ws lv tgt st) (kf : x = y → XX K ws lv (pc + 3) st) : XX K ws lv pc (.int y :: .int x :: st) := by
  obtain ⟨⟨p, l, e, R, s, m, args, below, meth, c⟩, H0, A, D, tys, nL', ce, sl, Q⟩ := K
  obtain ⟨⟨hx, hb, hml, hown, hts⟩, hK, hA, hfr, hlo, hce, hsl, rfl, rfl, rfl, rfl⟩ := ok
  intro H locs ls hP hD hS hl
  exact lv_icmp_ne hx hb hd ht (fun q => kt q H locs ls hP hD hS hl) (fun q => kf q H locs ls hP hD hS hl)
theorem x_if_lt {K : KA × KB} {l0 : Launch} {D0 : va_G} {ty0 : List (ClassId × FieldType)} {cc : ByteArray} {own : String} {nL fr lo rc rs : Nat} {ws : va_W} {lv : List (Nat × Value)} {pc : Nat} {st : List Value} (ok : OKX K l0 D0 ty0 cc own nL fr lo rc rs) {x : Int32} {off : Int} (tgt : Nat) (hd : decode cc pc = .ok (.ifCond .lt off, 3)) (ht : (pc : Int) + off = (tgt : Int)) (kt : x < 0 → XX K ws lv tgt st) (kf : ¬ x < 0 → XX K ws lv (pc + 3) st) : XX K ws lv pc (.int x :: st) := by
  obtain ⟨⟨p, l, e, R, s, m, args, below, meth, c⟩, H0, A, D, tys, nL', ce, sl, Q⟩ := K
  obtain ⟨⟨hx, hb, hml, hown, hts⟩, hK, hA, hfr, hlo, hce, hsl, rfl, rfl, rfl, rfl⟩ := ok
  intro H locs ls hP hD hS hl
  exact lv_if_lt hx hb hd ht (fun q => kt q H locs ls hP hD hS hl) (fun q => kf q H locs ls hP hD hS hl)
theorem x_icmp_lt {K : KA × KB} {l0 : Launch} {D0 : va_G} {ty0 : List (ClassId × FieldType)} {cc : ByteArray} {own : String} {nL fr lo rc rs : Nat} {ws : va_W} {lv : List (Nat × Value)} {pc : Nat} {st : List Value} (ok : OKX K l0 D0 ty0 cc own nL fr lo rc rs) {x y : Int32} {off : Int} (tgt : Nat) (hd : decode cc pc = .ok (.if_icmp .lt off, 3)) (ht : (pc : Int) + off = (tgt : Int)) (kt : x < y → XX K ws lv tgt st) (kf : ¬ x < y → XX K ws lv (pc + 3) st) : XX K ws lv pc (.int y :: .int x :: st) := by
  obtain ⟨⟨p, l, e, R, s, m, args, below, meth, c⟩, H0, A, D, tys, nL', ce, sl, Q⟩ := K
  obtain ⟨⟨hx, hb, hml, hown, hts⟩, hK, hA, hfr, hlo, hce, hsl, rfl, rfl, rfl, rfl⟩ := ok
  intro H locs ls hP hD hS hl
  exact lv_icmp_lt hx hb hd ht (fun q => kt q H locs ls hP hD hS hl) (fun q => kf q H locs ls hP hD hS hl)
theorem x_if_ge {K : KA × KB} {l0 : Launch} {D0 : va_G} {ty0 : List (ClassId × FieldType)} {cc : ByteArray} {own : String} {nL fr lo rc rs : Nat} {ws : va_W} {lv : List (Nat × Value)} {pc : Nat} {st : List Value} (ok : OKX K l0 D0 ty0 cc own nL fr lo rc rs) {x : Int32} {off : Int} (tgt : Nat) (hd : decode cc pc = .ok (.ifCond .ge off, 3)) (ht : (pc : Int) + off = (tgt : Int)) (kt : 0 ≤ x → XX K ws lv tgt st) (kf : ¬ 0 ≤ x → XX K ws lv (pc + 3) st) : XX K ws lv pc (.int x :: st) := by
  obtain ⟨⟨p, l, e, R, s, m, args, below, meth, c⟩, H0, A, D, tys, nL', ce, sl, Q⟩ := K
  obtain ⟨⟨hx, hb, hml, hown, hts⟩, hK, hA, hfr, hlo, hce, hsl, rfl, rfl, rfl, rfl⟩ := ok
  intro H locs ls hP hD hS hl
  exact lv_if_ge hx hb hd ht (fun q => kt q H locs ls hP hD hS hl) (fun q => kf q H locs ls hP hD hS hl)
theorem x_icmp_ge {K : KA × KB} {l0 : Launch} {D0 : va_G} {ty0 : List (ClassId × FieldType)} {cc : ByteArray} {own : String} {nL fr lo rc rs : Nat} {ws : va_W} {lv : List (Nat × Value)} {pc : Nat} {st : List Value} (ok : OKX K l0 D0 ty0 cc own nL fr lo rc rs) {x y : Int32} {off : Int} (tgt : Nat) (hd : decode cc pc = .ok (.if_icmp .ge off, 3)) (ht : (pc : Int) + off = (tgt : Int)) (kt : y ≤ x → XX K ws lv tgt st) (kf : ¬ y ≤ x → XX K ws lv (pc + 3) st) : XX K ws lv pc (.int y :: .int x :: st) := by
  obtain ⟨⟨p, l, e, R, s, m, args, below, meth, c⟩, H0, A, D, tys, nL', ce, sl, Q⟩ := K
  obtain ⟨⟨hx, hb, hml, hown, hts⟩, hK, hA, hfr, hlo, hce, hsl, rfl, rfl, rfl, rfl⟩ := ok
  intro H locs ls hP hD hS hl
  exact lv_icmp_ge hx hb hd ht (fun q => kt q H locs ls hP hD hS hl) (fun q => kf q H locs ls hP hD hS hl)
theorem x_if_gt {K : KA × KB} {l0 : Launch} {D0 : va_G} {ty0 : List (ClassId × FieldType)} {cc : ByteArray} {own : String} {nL fr lo rc rs : Nat} {ws : va_W} {lv : List (Nat × Value)} {pc : Nat} {st : List Value} (ok : OKX K l0 D0 ty0 cc own nL fr lo rc rs) {x : Int32} {off : Int} (tgt : Nat) (hd : decode cc pc = .ok (.ifCond .gt off, 3)) (ht : (pc : Int) + off = (tgt : Int)) (kt : 0 < x → XX K ws lv tgt st) (kf : ¬ 0 < x → XX K ws lv (pc + 3) st) : XX K ws lv pc (.int x :: st) := by
  obtain ⟨⟨p, l, e, R, s, m, args, below, meth, c⟩, H0, A, D, tys, nL', ce, sl, Q⟩ := K
  obtain ⟨⟨hx, hb, hml, hown, hts⟩, hK, hA, hfr, hlo, hce, hsl, rfl, rfl, rfl, rfl⟩ := ok
  intro H locs ls hP hD hS hl
  exact lv_if_gt hx hb hd ht (fun q => kt q H locs ls hP hD hS hl) (fun q => kf q H locs ls hP hD hS hl)
theorem x_icmp_gt {K : KA × KB} {l0 : Launch} {D0 : va_G} {ty0 : List (ClassId × FieldType)} {cc : ByteArray} {own : String} {nL fr lo rc rs : Nat} {ws : va_W} {lv : List (Nat × Value)} {pc : Nat} {st : List Value} (ok : OKX K l0 D0 ty0 cc own nL fr lo rc rs) {x y : Int32} {off : Int} (tgt : Nat) (hd : decode cc pc = .ok (.if_icmp .gt off, 3)) (ht : (pc : Int) + off = (tgt : Int)) (kt : y < x → XX K ws lv tgt st) (kf : ¬ y < x → XX K ws lv (pc + 3) st) : XX K ws lv pc (.int y :: .int x :: st) := by
  obtain ⟨⟨p, l, e, R, s, m, args, below, meth, c⟩, H0, A, D, tys, nL', ce, sl, Q⟩ := K
  obtain ⟨⟨hx, hb, hml, hown, hts⟩, hK, hA, hfr, hlo, hce, hsl, rfl, rfl, rfl, rfl⟩ := ok
  intro H locs ls hP hD hS hl
  exact lv_icmp_gt hx hb hd ht (fun q => kt q H locs ls hP hD hS hl) (fun q => kf q H locs ls hP hD hS hl)
theorem x_if_le {K : KA × KB} {l0 : Launch} {D0 : va_G} {ty0 : List (ClassId × FieldType)} {cc : ByteArray} {own : String} {nL fr lo rc rs : Nat} {ws : va_W} {lv : List (Nat × Value)} {pc : Nat} {st : List Value} (ok : OKX K l0 D0 ty0 cc own nL fr lo rc rs) {x : Int32} {off : Int} (tgt : Nat) (hd : decode cc pc = .ok (.ifCond .le off, 3)) (ht : (pc : Int) + off = (tgt : Int)) (kt : x ≤ 0 → XX K ws lv tgt st) (kf : ¬ x ≤ 0 → XX K ws lv (pc + 3) st) : XX K ws lv pc (.int x :: st) := by
  obtain ⟨⟨p, l, e, R, s, m, args, below, meth, c⟩, H0, A, D, tys, nL', ce, sl, Q⟩ := K
  obtain ⟨⟨hx, hb, hml, hown, hts⟩, hK, hA, hfr, hlo, hce, hsl, rfl, rfl, rfl, rfl⟩ := ok
  intro H locs ls hP hD hS hl
  exact lv_if_le hx hb hd ht (fun q => kt q H locs ls hP hD hS hl) (fun q => kf q H locs ls hP hD hS hl)
theorem x_icmp_le {K : KA × KB} {l0 : Launch} {D0 : va_G} {ty0 : List (ClassId × FieldType)} {cc : ByteArray} {own : String} {nL fr lo rc rs : Nat} {ws : va_W} {lv : List (Nat × Value)} {pc : Nat} {st : List Value} (ok : OKX K l0 D0 ty0 cc own nL fr lo rc rs) {x y : Int32} {off : Int} (tgt : Nat) (hd : decode cc pc = .ok (.if_icmp .le off, 3)) (ht : (pc : Int) + off = (tgt : Int)) (kt : x ≤ y → XX K ws lv tgt st) (kf : ¬ x ≤ y → XX K ws lv (pc + 3) st) : XX K ws lv pc (.int y :: .int x :: st) := by
  obtain ⟨⟨p, l, e, R, s, m, args, below, meth, c⟩, H0, A, D, tys, nL', ce, sl, Q⟩ := K
  obtain ⟨⟨hx, hb, hml, hown, hts⟩, hK, hA, hfr, hlo, hce, hsl, rfl, rfl, rfl, rfl⟩ := ok
  intro H locs ls hP hD hS hl
  exact lv_icmp_le hx hb hd ht (fun q => kt q H locs ls hP hD hS hl) (fun q => kf q H locs ls hP hD hS hl)
theorem x_ldc2 {K : KA × KB} {l0 : Launch} {D0 : va_G} {ty0 : List (ClassId × FieldType)} {cc : ByteArray} {own : String} {nL fr lo rc rs : Nat} {ws : va_W} {lv : List (Nat × Value)} {pc : Nat} {st : List Value} (ok : OKX K l0 D0 ty0 cc own nL fr lo rc rs) {i : Nat} {v : Int64} (hc : Cond.constantLong own i v ∈ wA) (hd : decode cc pc = .ok (.ldc2_w i, 3)) (k : XX K ws lv (pc + 3) (.long v :: st)) : XX K ws lv pc st := by
  obtain ⟨⟨p, l, e, R, s, m, args, below, meth, c⟩, H0, A, D, tys, nL', ce, sl, Q⟩ := K
  obtain ⟨⟨hx, hb, hml, hown, hts⟩, hK, hA, hfr, hlo, hce, hsl, rfl, rfl, rfl, rfl⟩ := ok
  intro H locs ls hP hD hS hl
  exact lv_ldc2 hx hb hown (hts _ hc) hd (k H locs ls hP hD hS hl)
theorem x_ldcw {K : KA × KB} {l0 : Launch} {D0 : va_G} {ty0 : List (ClassId × FieldType)} {cc : ByteArray} {own : String} {nL fr lo rc rs : Nat} {ws : va_W} {lv : List (Nat × Value)} {pc : Nat} {st : List Value} (ok : OKX K l0 D0 ty0 cc own nL fr lo rc rs) {i : Nat} {v : Int32} (hc : Cond.constant own i v ∈ wA) (hd : decode cc pc = .ok (.ldc_w i, 3)) (k : XX K ws lv (pc + 3) (.int v :: st)) : XX K ws lv pc st := by
  obtain ⟨⟨p, l, e, R, s, m, args, below, meth, c⟩, H0, A, D, tys, nL', ce, sl, Q⟩ := K
  obtain ⟨⟨hx, hb, hml, hown, hts⟩, hK, hA, hfr, hlo, hce, hsl, rfl, rfl, rfl, rfl⟩ := ok
  intro H locs ls hP hD hS hl
  exact lv_ldcw hx hb hown (hts _ hc) hd (k H locs ls hP hD hS hl)
theorem x_ldc {K : KA × KB} {l0 : Launch} {D0 : va_G} {ty0 : List (ClassId × FieldType)} {cc : ByteArray} {own : String} {nL fr lo rc rs : Nat} {ws : va_W} {lv : List (Nat × Value)} {pc : Nat} {st : List Value} (ok : OKX K l0 D0 ty0 cc own nL fr lo rc rs) {i : Nat} {v : Int32} (hc : Cond.constant own i v ∈ wA) (hd : decode cc pc = .ok (.ldc i, 2)) (k : XX K ws lv (pc + 2) (.int v :: st)) : XX K ws lv pc st := by
  obtain ⟨⟨p, l, e, R, s, m, args, below, meth, c⟩, H0, A, D, tys, nL', ce, sl, Q⟩ := K
  obtain ⟨⟨hx, hb, hml, hown, hts⟩, hK, hA, hfr, hlo, hce, hsl, rfl, rfl, rfl, rfl⟩ := ok
  intro H locs ls hP hD hS hl
  exact lv_ldc hx hb hown (hts _ hc) hd (k H locs ls hP hD hS hl)
theorem x_ifnonnull {K : KA × KB} {l0 : Launch} {D0 : va_G} {ty0 : List (ClassId × FieldType)} {cc : ByteArray} {own : String} {nL fr lo rc rs : Nat} {ws : va_W} {lv : List (Nat × Value)} {pc : Nat} {st : List Value} (ok : OKX K l0 D0 ty0 cc own nL fr lo rc rs) {x : Nat} {off : Int} (tgt : Nat) (hd : decode cc pc = .ok (.ifnonnull off, 3)) (ht : (pc : Int) + off = (tgt : Int)) (k : XX K ws lv tgt st) : XX K ws lv pc (.ref x :: st) := by
  obtain ⟨⟨p, l, e, R, s, m, args, below, meth, c⟩, H0, A, D, tys, nL', ce, sl, Q⟩ := K
  obtain ⟨⟨hx, hb, hml, hown, hts⟩, hK, hA, hfr, hlo, hce, hsl, rfl, rfl, rfl, rfl⟩ := ok
  intro H locs ls hP hD hS hl
  exact lv_ifnonnull hx hb hd ht (k H locs ls hP hD hS hl)
theorem x_ifnull {K : KA × KB} {l0 : Launch} {D0 : va_G} {ty0 : List (ClassId × FieldType)} {cc : ByteArray} {own : String} {nL fr lo rc rs : Nat} {ws : va_W} {lv : List (Nat × Value)} {pc : Nat} {st : List Value} (ok : OKX K l0 D0 ty0 cc own nL fr lo rc rs) {x : Nat} {off : Int} (hd : decode cc pc = .ok (.ifnull off, 3)) (k : XX K ws lv (pc + 3) st) : XX K ws lv pc (.ref x :: st) := by
  obtain ⟨⟨p, l, e, R, s, m, args, below, meth, c⟩, H0, A, D, tys, nL', ce, sl, Q⟩ := K
  obtain ⟨⟨hx, hb, hml, hown, hts⟩, hK, hA, hfr, hlo, hce, hsl, rfl, rfl, rfl, rfl⟩ := ok
  intro H locs ls hP hD hS hl
  exact lv_ifnull hx hb hd (k H locs ls hP hD hS hl)
theorem x_iald {K : KA × KB} {l0 : Launch} {D0 : va_G} {ty0 : List (ClassId × FieldType)} {cc : ByteArray} {own : String} {nL fr lo rc rs : Nat} {ws : va_W} {lv : List (Nat × Value)} {pc : Nat} {st : List Value} (ok : OKX K l0 D0 ty0 cc own nL fr lo rc rs) (q0 t0 : Nat) {a : Nat} {cA : ClassId} {n : Nat} {f : Nat → Int32} {i : Int32} (j : Nat) (hd : decode cc pc = .ok (.iaload, 1)) (ha : ws[q0]? = some (a, .inl (cA, n, .inl f))) (ht : ty0[t0]? = some (cA, .int)) (hi : i = nI j) (hj : j < n) (hn : n < 2 ^ 31) (v : Int32) (hv : f j = v) (k : XX K ws lv (pc + 1) (.int v :: st)) : XX K ws lv pc (.int i :: .ref a :: st) := by
  obtain ⟨⟨p, l, e, R, s, m, args, below, meth, c⟩, H0, A, D, tys, nL', ce, sl, Q⟩ := K
  obtain ⟨⟨hx, hb, hml, hown, hts⟩, hK, hA, hfr, hlo, hce, hsl, rfl, rfl, rfl, rfl⟩ := ok
  intro H locs ls hP hD hS hl
  subst hi; subst hv
  refine va_iald hx hb hK.1 hP q0 t0 ha ht (vp_in_nI hj hn) hd ?_
  rw [nI_clamp (by omega)]
  exact k H locs ls hP hD hS hl
theorem x_ialdR {K : KA × KB} {l0 : Launch} {D0 : va_G} {ty0 : List (ClassId × FieldType)} {cc : ByteArray} {own : String} {nL fr lo rc rs : Nat} {ws : va_W} {lv : List (Nat × Value)} {pc : Nat} {st : List Value} (ok : OKX K l0 D0 ty0 cc own nL fr lo rc rs) (q0 t0 : Nat) {a : Nat} {cA : ClassId} {n : Nat} {f : Nat → Int32} {i : Int32} (hd : decode cc pc = .ok (.iaload, 1)) (ha : ws[q0]? = some (a, .inl (cA, n, .inl f))) (ht : ty0[t0]? = some (cA, .int)) (hi : vp_in i n) (k : XX K ws lv (pc + 1) (.int (f i.toNatClampNeg) :: st)) : XX K ws lv pc (.int i :: .ref a :: st) := by
  obtain ⟨⟨p, l, e, R, s, m, args, below, meth, c⟩, H0, A, D, tys, nL', ce, sl, Q⟩ := K
  obtain ⟨⟨hx, hb, hml, hown, hts⟩, hK, hA, hfr, hlo, hce, hsl, rfl, rfl, rfl, rfl⟩ := ok
  intro H locs ls hP hD hS hl
  exact va_iald hx hb hK.1 hP q0 t0 ha ht hi hd (k H locs ls hP hD hS hl)
theorem x_iast {K : KA × KB} {l0 : Launch} {D0 : va_G} {ty0 : List (ClassId × FieldType)} {cc : ByteArray} {own : String} {nL fr lo rc rs : Nat} {ws : va_W} {lv : List (Nat × Value)} {pc : Nat} {st : List Value} (ok : OKX K l0 D0 ty0 cc own nL fr lo rc rs) (q0 t0 : Nat) {a : Nat} {cA : ClassId} {n : Nat} {f f' : Nat → Int32} {i x : Int32} (j : Nat) {ws' : va_W} (hd : decode cc pc = .ok (.iastore, 1)) (ha : ws[q0]? = some (a, .inl (cA, n, .inl f))) (ht : ty0[t0]? = some (cA, .int)) (hi : i = nI j) (hj : j < n) (hn : n < 2 ^ 31) (hf : upd f j x = f') (hw : ws.set q0 (a, .inl (cA, n, .inl f')) = ws') (k : XX K ws' lv (pc + 1) st) : XX K ws lv pc (.int x :: .int i :: .ref a :: st) := by
  obtain ⟨⟨p, l, e, R, s, m, args, below, meth, c⟩, H0, A, D, tys, nL', ce, sl, Q⟩ := K
  obtain ⟨⟨hx, hb, hml, hown, hts⟩, hK, hA, hfr, hlo, hce, hsl, rfl, rfl, rfl, rfl⟩ := ok
  intro H locs ls hP hD hS hl
  subst hi; subst hf; subst hw
  refine va_iast hx hb hK.1 hP hD hS q0 t0 ha ht (vp_in_nI hj hn) hd ?_
  rw [nI_clamp (by omega)]
  exact fun H locs hP hD hS => k H locs ls hP hD hS hl
theorem x_zald {K : KA × KB} {l0 : Launch} {D0 : va_G} {ty0 : List (ClassId × FieldType)} {cc : ByteArray} {own : String} {nL fr lo rc rs : Nat} {ws : va_W} {lv : List (Nat × Value)} {pc : Nat} {st : List Value} (ok : OKX K l0 D0 ty0 cc own nL fr lo rc rs) (q0 t0 : Nat) {a : Nat} {cA : ClassId} {n : Nat} {f : Nat → Int32} {i : Int32} (j : Nat) (hd : decode cc pc = .ok (.baload, 1)) (ha : ws[q0]? = some (a, .inl (cA, n, .inl f))) (ht : ty0[t0]? = some (cA, .boolean)) (hi : i = nI j) (hj : j < n) (hn : n < 2 ^ 31) (v : Int32) (hv : f j = v) (k : XX K ws lv (pc + 1) (.int v :: st)) : XX K ws lv pc (.int i :: .ref a :: st) := by
  obtain ⟨⟨p, l, e, R, s, m, args, below, meth, c⟩, H0, A, D, tys, nL', ce, sl, Q⟩ := K
  obtain ⟨⟨hx, hb, hml, hown, hts⟩, hK, hA, hfr, hlo, hce, hsl, rfl, rfl, rfl, rfl⟩ := ok
  intro H locs ls hP hD hS hl
  subst hi; subst hv
  refine va_zald hx hb hK.1 hP q0 t0 ha ht (vp_in_nI hj hn) hd ?_
  rw [nI_clamp (by omega)]
  exact k H locs ls hP hD hS hl
theorem x_zast {K : KA × KB} {l0 : Launch} {D0 : va_G} {ty0 : List (ClassId × FieldType)} {cc : ByteArray} {own : String} {nL fr lo rc rs : Nat} {ws : va_W} {lv : List (Nat × Value)} {pc : Nat} {st : List Value} (ok : OKX K l0 D0 ty0 cc own nL fr lo rc rs) (q0 t0 : Nat) {a : Nat} {cA : ClassId} {n : Nat} {f f' : Nat → Int32} {i x : Int32} (j : Nat) {ws' : va_W} (hd : decode cc pc = .ok (.bastore, 1)) (ha : ws[q0]? = some (a, .inl (cA, n, .inl f))) (ht : ty0[t0]? = some (cA, .boolean)) (hi : i = nI j) (hj : j < n) (hn : n < 2 ^ 31) (hx2 : vp_nar .boolean x = x) (hf : upd f j x = f') (hw : ws.set q0 (a, .inl (cA, n, .inl f')) = ws') (k : XX K ws' lv (pc + 1) st) : XX K ws lv pc (.int x :: .int i :: .ref a :: st) := by
  obtain ⟨⟨p, l, e, R, s, m, args, below, meth, c⟩, H0, A, D, tys, nL', ce, sl, Q⟩ := K
  obtain ⟨⟨hx, hb, hml, hown, hts⟩, hK, hA, hfr, hlo, hce, hsl, rfl, rfl, rfl, rfl⟩ := ok
  intro H locs ls hP hD hS hl
  subst hi; subst hf; subst hw
  refine va_zast hx hb hK.1 hP hD hS q0 t0 ha ht (vp_in_nI hj hn) hd ?_
  rw [nI_clamp (by omega), hx2]
  exact fun H locs hP hD hS => k H locs ls hP hD hS hl
theorem x_alen {K : KA × KB} {l0 : Launch} {D0 : va_G} {ty0 : List (ClassId × FieldType)} {cc : ByteArray} {own : String} {nL fr lo rc rs : Nat} {ws : va_W} {lv : List (Nat × Value)} {pc : Nat} {st : List Value} (ok : OKX K l0 D0 ty0 cc own nL fr lo rc rs) (q0 t0 : Nat) {a : Nat} {cA : ClassId} {x : vp_A} {ty : FieldType} (v : Int32) (hd : decode cc pc = .ok (.arraylength, 1)) (ha : ws[q0]? = some (a, .inl (cA, x))) (ht : ty0[t0]? = some (cA, ty)) (hv : Int32.ofNat x.1 = v) (k : XX K ws lv (pc + 1) (.int v :: st)) : XX K ws lv pc (.ref a :: st) := by
  obtain ⟨⟨p, l, e, R, s, m, args, below, meth, c⟩, H0, A, D, tys, nL', ce, sl, Q⟩ := K
  obtain ⟨⟨hx, hb, hml, hown, hts⟩, hK, hA, hfr, hlo, hce, hsl, rfl, rfl, rfl, rfl⟩ := ok
  intro H locs ls hP hD hS hl
  exact va_alen hx hb hK.1 hP q0 t0 ha ht hv hd (k H locs ls hP hD hS hl)
theorem x_aald {K : KA × KB} {l0 : Launch} {D0 : va_G} {ty0 : List (ClassId × FieldType)} {cc : ByteArray} {own : String} {nL fr lo rc rs : Nat} {ws : va_W} {lv : List (Nat × Value)} {pc : Nat} {st : List Value} (ok : OKX K l0 D0 ty0 cc own nL fr lo rc rs) (q0 t0 : Nat) {a : Nat} {cA : ClassId} {C : String} {n : Nat} {f : Nat → Option Nat} {i : Int32} (j : Nat) (hd : decode cc pc = .ok (.aaload, 1)) (ha : ws[q0]? = some (a, .inl (cA, n, .inr (.inr (.inr (.inr f)))))) (ht : ty0[t0]? = some (cA, .object C)) (hi : i = nI j) (hj : j < n) (hn : n < 2 ^ 31) (v : Nat) (hv : f j = some v) (k : XX K ws lv (pc + 1) (.ref v :: st)) : XX K ws lv pc (.int i :: .ref a :: st) := by
  obtain ⟨⟨p, l, e, R, s, m, args, below, meth, c⟩, H0, A, D, tys, nL', ce, sl, Q⟩ := K
  obtain ⟨⟨hx, hb, hml, hown, hts⟩, hK, hA, hfr, hlo, hce, hsl, rfl, rfl, rfl, rfl⟩ := ok
  intro H locs ls hP hD hS hl
  subst hi
  refine va_aldq hx hb hK.1 hP q0 t0 ha ht (vp_in_nI hj hn) hd ?_
  rw [nI_clamp (by omega), hv]
  exact k H locs ls hP hD hS hl
theorem x_aast {K : KA × KB} {l0 : Launch} {D0 : va_G} {ty0 : List (ClassId × FieldType)} {cc : ByteArray} {own : String} {nL fr lo rc rs : Nat} {ws : va_W} {lv : List (Nat × Value)} {pc : Nat} {st : List Value} (ok : OKX K l0 D0 ty0 cc own nL fr lo rc rs) (q0 t0 qk ci : Nat) {a : Nat} {cA : ClassId} {r : vw_C} {n v : Nat} {vs : List Value} {f f' : Nat → Option Nat} {i : Int32} (j : Nat) {ws' : va_W} (hd : decode cc pc = .ok (.aastore, 1)) (ha : ws[q0]? = some (a, .inl (cA, n, .inr (.inr (.inr (.inr f)))))) (ht : ty0[t0]? = some (cA, .object r.1)) (hv : ws[qk]? = some (v, .inr (ci, vs))) (hc : CL[ci]? = some r) (hi : i = nI j) (hj : j < n) (hn : n < 2 ^ 31) (hf : va_up f j (some v) = f') (hw : ws.set q0 (a, .inl (cA, n, .inr (.inr (.inr (.inr f'))))) = ws') (k : XX K ws' lv (pc + 1) st) : XX K ws lv pc (.ref v :: .int i :: .ref a :: st) := by
  obtain ⟨⟨p, l, e, R, s, m, args, below, meth, c⟩, H0, A, D, tys, nL', ce, sl, Q⟩ := K
  obtain ⟨⟨hx, hb, hml, hown, hts⟩, hK, hA, hfr, hlo, hce, hsl, rfl, rfl, rfl, rfl⟩ := ok
  intro H locs ls hP hD hS hl
  subst hi; subst hf; subst hw
  refine va_astq hx hb hK.1 hP hD hS q0 t0 qk ci ha ht hv hc (vp_in_nI hj hn) hd ?_
  rw [nI_clamp (by omega)]
  exact fun H locs hP hD hS => k H locs ls hP hD hS hl
theorem x_get {K : KA × KB} {l0 : Launch} {D0 : va_G} {ty0 : List (ClassId × FieldType)} {cc : ByteArray} {own : String} {nL fr lo rc rs : Nat} {ws : va_W} {lv : List (Nat × Value)} {pc : Nat} {st : List Value} (ok : OKX K l0 D0 ty0 cc own nL fr lo rc rs) {C : String} {T : u_T} {N index : Nat} (ci fi : Nat) {a : Nat} (hin : ∀ w ∈ u_ws C T N, w ∈ wA) (hc : CL[ci]? = some (C, T, N)) (hk : fi < N) (hlink : Cond.fieldLink own index (T fi).1 (T fi).2.1 (T fi).2.2.1 ∈ wA) (hd : decode cc pc = .ok (.getfield index, 3)) (q0 : Nat) {fs : List Value} (he : ws[q0]? = some (a, .inr (ci, fs))) {v : Value} (hv : fs[fi]? = some v) (k : XX K ws lv (pc + 3) (v :: st)) : XX K ws lv pc (.ref a :: st) := by
  obtain ⟨⟨p, l, e, R, s, m, args, below, meth, c⟩, H0, A, D, tys, nL', ce, sl, Q⟩ := K
  obtain ⟨⟨hx, hb, hml, hown, hts⟩, hK, hA, hfr, hlo, hce, hsl, rfl, rfl, rfl, rfl⟩ := ok
  intro H locs ls hP hD hS hl
  exact va_get hx hb hts hin hown hK.1 hP q0 he hc fi hk (hts _ hlink) (fun _ h => h) hv hd (k H locs ls hP hD hS hl)
theorem x_getN {K : KA × KB} {l0 : Launch} {D0 : va_G} {ty0 : List (ClassId × FieldType)} {cc : ByteArray} {own : String} {nL fr lo rc rs : Nat} {ws : va_W} {lv : List (Nat × Value)} {pc : Nat} {st : List Value} (ok : OKX K l0 D0 ty0 cc own nL fr lo rc rs) {C : String} {T : u_T} {N index : Nat} {host : String} (ci fi : Nat) {a : Nat} (hin : ∀ w ∈ u_ws C T N, w ∈ wA) (hc : CL[ci]? = some (C, T, N)) (hk : fi < N) (hlink : Cond.fieldLinkNest own index (T fi).1 (T fi).2.1 (T fi).2.2.1 host ∈ nestW) (hd : decode cc pc = .ok (.getfield index, 3)) (q0 : Nat) {fs : List Value} (he : ws[q0]? = some (a, .inr (ci, fs))) {v : Value} (hv : fs[fi]? = some v) (k : XX K ws lv (pc + 3) (v :: st)) : XX K ws lv pc (.ref a :: st) := by
  obtain ⟨⟨p, l, e, R, s, m, args, below, meth, c⟩, H0, A, D, tys, nL', ce, sl, Q⟩ := K
  obtain ⟨⟨hx, hb, hml, hown, hts⟩, hK, hA, hfr, hlo, hce, hsl, rfl, rfl, rfl, rfl⟩ := ok
  intro H locs ls hP hD hS hl
  exact va_getN hx hb hts hin hown hK.1 hP q0 he hc fi hk (va_Nw.use rfl (hK.2.1 _ hlink)) (fun _ h => h) hv hd (k H locs ls hP hD hS hl)
theorem x_put {K : KA × KB} {l0 : Launch} {D0 : va_G} {ty0 : List (ClassId × FieldType)} {cc : ByteArray} {own : String} {nL fr lo rc rs : Nat} {ws : va_W} {lv : List (Nat × Value)} {pc : Nat} {st : List Value} (ok : OKX K l0 D0 ty0 cc own nL fr lo rc rs) {C : String} {T : u_T} {N index : Nat} (ci fi : Nat) {a : Nat} {tyf : Nat → FieldType} {ty : FieldType} (hin : ∀ w ∈ u_ws C T N, w ∈ wA) (hty : ∀ k, k < N → parseFieldDescriptor (T k).2.2.1 = some (tyf k)) (hnm : ∀ a, a < N → ∀ b, b < N → a ≠ b → (T a).2.1 ≠ (T b).2.1) (hc : CL[ci]? = some (C, T, N)) (hk : fi < N) (hp : parseFieldDescriptor (T fi).2.2.1 = some ty) (hlink : Cond.fieldLink own index (T fi).1 (T fi).2.1 (T fi).2.2.1 ∈ wA) (hfin : (T fi).2.2.2 = false) (hd : decode cc pc = .ok (.putfield index, 3)) (q0 : Nat) {fs : List Value} (he : ws[q0]? = some (a, .inr (ci, fs))) {v : Value} (hn : narrow ty v = v) (hfit : fits ty v = true) (hl1 : fi < fs.length) {ws' : va_W} (hw : ws.set q0 (a, .inr (ci, fs.set fi v)) = ws') (k : XX K ws' lv (pc + 3) st) : XX K ws lv pc (v :: .ref a :: st) := by
  obtain ⟨⟨p, l, e, R, s, m, args, below, meth, c⟩, H0, A, D, tys, nL', ce, sl, Q⟩ := K
  obtain ⟨⟨hx, hb, hml, hown, hts⟩, hK, hA, hfr, hlo, hce, hsl, rfl, rfl, rfl, rfl⟩ := ok
  intro H locs ls hP hD hS hl
  subst hw; exact va_put hx hb hts hin tyf hty hnm hown hK.1 hP hD hS q0 he hc fi hk (hts _ hlink) (fun _ h => h) hfin hp hn hfit hl1 hd (fun H locs hP hD hS => k H locs ls hP hD hS hl)
theorem x_putN {K : KA × KB} {l0 : Launch} {D0 : va_G} {ty0 : List (ClassId × FieldType)} {cc : ByteArray} {own : String} {nL fr lo rc rs : Nat} {ws : va_W} {lv : List (Nat × Value)} {pc : Nat} {st : List Value} (ok : OKX K l0 D0 ty0 cc own nL fr lo rc rs) {C : String} {T : u_T} {N index : Nat} (ci fi : Nat) {a : Nat} {tyf : Nat → FieldType} {ty : FieldType} {host : String} (hin : ∀ w ∈ u_ws C T N, w ∈ wA) (hty : ∀ k, k < N → parseFieldDescriptor (T k).2.2.1 = some (tyf k)) (hnm : ∀ a, a < N → ∀ b, b < N → a ≠ b → (T a).2.1 ≠ (T b).2.1) (hc : CL[ci]? = some (C, T, N)) (hk : fi < N) (hp : parseFieldDescriptor (T fi).2.2.1 = some ty) (hlink : Cond.fieldLinkNest own index (T fi).1 (T fi).2.1 (T fi).2.2.1 host ∈ nestW) (hfin : (T fi).2.2.2 = false) (hd : decode cc pc = .ok (.putfield index, 3)) (q0 : Nat) {fs : List Value} (he : ws[q0]? = some (a, .inr (ci, fs))) {v : Value} (hn : narrow ty v = v) (hfit : fits ty v = true) (hl1 : fi < fs.length) {ws' : va_W} (hw : ws.set q0 (a, .inr (ci, fs.set fi v)) = ws') (k : XX K ws' lv (pc + 3) st) : XX K ws lv pc (v :: .ref a :: st) := by
  obtain ⟨⟨p, l, e, R, s, m, args, below, meth, c⟩, H0, A, D, tys, nL', ce, sl, Q⟩ := K
  obtain ⟨⟨hx, hb, hml, hown, hts⟩, hK, hA, hfr, hlo, hce, hsl, rfl, rfl, rfl, rfl⟩ := ok
  intro H locs ls hP hD hS hl
  subst hw; exact va_putN hx hb hts hin tyf hty hnm hown hK.1 hP hD hS q0 he hc fi hk (va_Nw.use rfl (hK.2.1 _ hlink)) (fun _ h => h) hfin hp hn hfit hl1 hd (fun H locs hP hD hS => k H locs ls hP hD hS hl)
theorem x_putF {K : KA × KB} {l0 : Launch} {D0 : va_G} {ty0 : List (ClassId × FieldType)} {cc : ByteArray} {own : String} {nL fr lo rc rs : Nat} {ws : va_W} {lv : List (Nat × Value)} {pc : Nat} {st : List Value} (ok : OKX K l0 D0 ty0 cc own nL fr lo rc rs) {C : String} {T : u_T} {N index : Nat} (ci fi : Nat) {a : Nat} {tyf : Nat → FieldType} {ty : FieldType} (hini : INI K) (hin : ∀ w ∈ u_ws C T N, w ∈ wA) (hty : ∀ k, k < N → parseFieldDescriptor (T k).2.2.1 = some (tyf k)) (hnm : ∀ a, a < N → ∀ b, b < N → a ≠ b → (T a).2.1 ≠ (T b).2.1) (hc : CL[ci]? = some (C, T, N)) (hk : fi < N) (hp : parseFieldDescriptor (T fi).2.2.1 = some ty) (hlink : Cond.fieldLink own index (T fi).1 (T fi).2.1 (T fi).2.2.1 ∈ wA) (hfin : (T fi).2.2.2 = true) (hdc : (T fi).1 = own) (hd : decode cc pc = .ok (.putfield index, 3)) (q0 : Nat) {fs : List Value} (he : ws[q0]? = some (a, .inr (ci, fs))) {v : Value} (hn : narrow ty v = v) (hfit : fits ty v = true) (hl1 : fi < fs.length) {ws' : va_W} (hw : ws.set q0 (a, .inr (ci, fs.set fi v)) = ws') (k : XX K ws' lv (pc + 3) st) : XX K ws lv pc (v :: .ref a :: st) := by
  obtain ⟨⟨p, l, e, R, s, m, args, below, meth, c⟩, H0, A, D, tys, nL', ce, sl, Q⟩ := K
  obtain ⟨⟨hx, hb, hml, hown, hts⟩, hK, hA, hfr, hlo, hce, hsl, rfl, rfl, rfl, rfl⟩ := ok
  intro H locs ls hP hD hS hl
  subst hw; exact va_putF hx hb hts hin tyf hty hnm hown hK.1 hP hD hS q0 he hc fi hk (hts _ hlink) (fun _ h => h) hfin hini hdc hp hn hfit hl1 hd (fun H locs hP hD hS => k H locs ls hP hD hS hl)
theorem x_mmin {K : KA × KB} {l0 : Launch} {D0 : va_G} {ty0 : List (ClassId × FieldType)} {cc : ByteArray} {own : String} {nL fr lo rc rs : Nat} {ws : va_W} {lv : List (Nat × Value)} {pc : Nat} {st : List Value} (ok : OKX K l0 D0 ty0 cc own nL fr lo rc rs) {x y : Int32} {index : Nat} (h1 : Cond.methodLink own index Lib.Math.min.name ∈ wA) (h2 : Cond.static Lib.Math.min.name ∈ wA) (h3 : Cond.initialized "java/lang/Math" ∈ wA) (h4 : Cond.code Lib.Math.min.name Lib.Math.min.code 2 (some .int) ∈ wA) (g1 : 1 ≤ fr) (g2 : (st.map fun v => v.category).sum + 13 ≤ lo) (hd : decode cc pc = .ok (.invokestatic index, 3)) (v : Int32) (hv : (if y < x then y else x) = v) (k : XX K ws lv (pc + 3) (.int v :: st)) : XX K ws lv pc (.int y :: .int x :: st) := by
  obtain ⟨⟨p, l, e, R, s, m, args, below, meth, c⟩, H0, A, D, tys, nL', ce, sl, Q⟩ := K
  obtain ⟨⟨hx, hb, hml, hown, hts⟩, hK, hA, hfr, hlo, hce, hsl, rfl, rfl, rfl, rfl⟩ := ok
  intro H locs ls hP hD hS hl
  subst hv; exact va_mmin hx hb (by rw [hml]; exact hl.1.symm) hown (hts _ h1) (hts _ h2) (hts _ h3) (hts _ h4) (Nat.le_trans g1 hfr) (Nat.le_trans g2 hlo) (by omega) (by omega) hd (k H locs ls hP hD hS hl)
theorem x_mmax {K : KA × KB} {l0 : Launch} {D0 : va_G} {ty0 : List (ClassId × FieldType)} {cc : ByteArray} {own : String} {nL fr lo rc rs : Nat} {ws : va_W} {lv : List (Nat × Value)} {pc : Nat} {st : List Value} (ok : OKX K l0 D0 ty0 cc own nL fr lo rc rs) {x y : Int32} {index : Nat} (h1 : Cond.methodLink own index Lib.Math.max.name ∈ wA) (h2 : Cond.static Lib.Math.max.name ∈ wA) (h3 : Cond.initialized "java/lang/Math" ∈ wA) (h4 : Cond.code Lib.Math.max.name Lib.Math.max.code 2 (some .int) ∈ wA) (g1 : 1 ≤ fr) (g2 : (st.map fun v => v.category).sum + 13 ≤ lo) (hd : decode cc pc = .ok (.invokestatic index, 3)) (v : Int32) (hv : (if x < y then y else x) = v) (k : XX K ws lv (pc + 3) (.int v :: st)) : XX K ws lv pc (.int y :: .int x :: st) := by
  obtain ⟨⟨p, l, e, R, s, m, args, below, meth, c⟩, H0, A, D, tys, nL', ce, sl, Q⟩ := K
  obtain ⟨⟨hx, hb, hml, hown, hts⟩, hK, hA, hfr, hlo, hce, hsl, rfl, rfl, rfl, rfl⟩ := ok
  intro H locs ls hP hD hS hl
  subst hv; exact va_mmax hx hb (by rw [hml]; exact hl.1.symm) hown (hts _ h1) (hts _ h2) (hts _ h3) (hts _ h4) (Nat.le_trans g1 hfr) (Nat.le_trans g2 hlo) (by omega) (by omega) hd (k H locs ls hP hD hS hl)
theorem x_mabs {K : KA × KB} {l0 : Launch} {D0 : va_G} {ty0 : List (ClassId × FieldType)} {cc : ByteArray} {own : String} {nL fr lo rc rs : Nat} {ws : va_W} {lv : List (Nat × Value)} {pc : Nat} {st : List Value} (ok : OKX K l0 D0 ty0 cc own nL fr lo rc rs) {x : Int32} {index : Nat} (h1 : Cond.methodLink own index Lib.Math.abs.name ∈ wA) (h2 : Cond.static Lib.Math.abs.name ∈ wA) (h3 : Cond.initialized "java/lang/Math" ∈ wA) (h4 : Cond.code Lib.Math.abs.name Lib.Math.abs.code 1 (some .int) ∈ wA) (g1 : 1 ≤ fr) (g2 : (st.map fun v => v.category).sum + 13 ≤ lo) (hd : decode cc pc = .ok (.invokestatic index, 3)) (v : Int32) (hv : (if 0 ≤ x then x else 0 - x) = v) (k : XX K ws lv (pc + 3) (.int v :: st)) : XX K ws lv pc (.int x :: st) := by
  obtain ⟨⟨p, l, e, R, s, m, args, below, meth, c⟩, H0, A, D, tys, nL', ce, sl, Q⟩ := K
  obtain ⟨⟨hx, hb, hml, hown, hts⟩, hK, hA, hfr, hlo, hce, hsl, rfl, rfl, rfl, rfl⟩ := ok
  intro H locs ls hP hD hS hl
  subst hv; exact va_mabs hx hb (by rw [hml]; exact hl.1.symm) hown (hts _ h1) (hts _ h2) (hts _ h3) (hts _ h4) (Nat.le_trans g1 hfr) (Nat.le_trans g2 hlo) (by omega) (by omega) hd (k H locs ls hP hD hS hl)
theorem x_eq {K : KA × KB} {ws ws' : va_W} {lv lv' : List (Nat × Value)} {pc : Nat} {st st' : List Value} (h1 : ws' = ws) (h2 : lv' = lv) (h3 : st' = st) (k : XX K ws' lv' pc st') : XX K ws lv pc st := by
  subst h1; subst h2; subst h3; exact k
theorem x_loc {K : KA × KB} {l0 : Launch} {D0 : va_G} {ty0 : List (ClassId × FieldType)} {cc : ByteArray} {own : String} {nL fr lo rc rs : Nat} {ws : va_W} {lv : List (Nat × Value)} {pc : Nat} {st : List Value} (ok : OKX K l0 D0 ty0 cc own nL fr lo rc rs) (ks : List Nat) {lv' : List (Nat × Value)} (h : lv_pick lv ks = lv') (k : XX K ws lv' pc st) : XX K ws lv pc st := by
  obtain ⟨⟨p, l, e, R, s, m, args, below, meth, c⟩, H0, A, D, tys, nL', ce, sl, Q⟩ := K
  obtain ⟨⟨hx, hb, hml, hown, hts⟩, hK, hA, hfr, hlo, hce, hsl, rfl, rfl, rfl, rfl⟩ := ok
  intro H locs ls hP hD hS hl
  exact k H locs ls hP hD hS (lv_sub hl ks h)
theorem x_perm {K : KA × KB} {l0 : Launch} {D0 : va_G} {ty0 : List (ClassId × FieldType)} {cc : ByteArray} {own : String} {nL fr lo rc rs : Nat} {ws : va_W} {lv : List (Nat × Value)} {pc : Nat} {st : List Value} (ok : OKX K l0 D0 ty0 cc own nL fr lo rc rs) (is : List Nat) {ws' : va_W} (hn : va_nd is = true) (h : is.map (fun i => ws[i]?) = ws'.map some) (k : XX K ws' lv pc st) : XX K ws lv pc st := by
  obtain ⟨⟨p, l, e, R, s, m, args, below, meth, c⟩, H0, A, D, tys, nL', ce, sl, Q⟩ := K
  obtain ⟨⟨hx, hb, hml, hown, hts⟩, hK, hA, hfr, hlo, hce, hsl, rfl, rfl, rfl, rfl⟩ := ok
  intro H locs ls hP hD hS hl
  exact k H locs ls (hP.sub is (fm_of h)) (hD.sub is hn h) hS hl
def setL (ws : va_W) : List Nat → va_W → va_W
  | i :: is, q :: qs => setL (ws.set i q) is qs
  | _, _ => ws
theorem setL_len : ∀ (is : List Nat) (qs ws : va_W), (setL ws is qs).length = ws.length
  | [], _, _ => by simp [setL]
  | _ :: _, [], _ => by simp [setL]
  | i :: is, q :: qs, ws => by rw [setL, setL_len is qs]; simp
theorem setL_get : ∀ (is : List Nat) (qs ws : va_W) (k : Nat) (q : Nat × va_E), (setL ws is qs)[k]? = some q → q ∈ qs ∨ (ws[k]? = some q ∧ (k ∉ is ∨ qs.length < is.length))
  | [], qs, ws, k, q, h => Or.inr ⟨by cases qs <;> exact h, Or.inl (by simp)⟩
  | i :: is, [], ws, k, q, h => Or.inr ⟨h, Or.inr (by simp)⟩
  | i :: is, x :: qs, ws, k, q, h => by
    rcases setL_get is qs (ws.set i x) k q h with h1 | ⟨h1, h2⟩
    · exact Or.inl (List.mem_cons_of_mem _ h1)
    · by_cases hk : k = i
      · subst hk
        left
        have hl : k < (ws.set k x).length := (List.getElem?_eq_some_iff.mp h1).1
        rw [List.getElem?_set_self (by simpa using hl)] at h1
        cases h1
        exact List.mem_cons_self
      · rw [List.getElem?_set_ne (fun h => hk h.symm)] at h1
        refine Or.inr ⟨h1, ?_⟩
        rcases h2 with h2 | h2
        · exact Or.inl (by simp only [List.mem_cons, not_or]; exact ⟨hk, h2⟩)
        · exact Or.inr (by simp only [List.length_cons]; omega)
theorem setL_adr : ∀ (is : List Nat) (qs wc ws : va_W) (k : Nat) (q : Nat × va_E), is.map (fun i => ws[i]?) = wc.map some → qs.map (·.1) = wc.map (·.1) → va_nd is = true → (setL ws is qs)[k]? = some q → ∃ q', ws[k]? = some q' ∧ q'.1 = q.1
  | [], qs, wc, ws, k, q, _, _, _, h => ⟨q, by cases qs <;> exact h, rfl⟩
  | i :: is, [], wc, ws, k, q, _, _, _, h => ⟨q, h, rfl⟩
  | i :: is, x :: qs, [], ws, k, q, h0, _, _, _ => by simp at h0
  | i :: is, x :: qs, w :: wc, ws, k, q, h0, h1, hn, h => by
    simp only [List.map_cons, List.cons.injEq] at h0 h1
    simp only [va_nd, Bool.and_eq_true, decide_eq_true_eq] at hn
    have h0' : is.map (fun i' => (ws.set i x)[i']?) = wc.map some := by
      rw [← h0.2]
      refine List.map_congr_left fun j hj => ?_
      rw [List.getElem?_set_ne (fun e => hn.1 (by rw [e]; exact hj))]
    obtain ⟨q', a1, a2⟩ := setL_adr is qs wc (ws.set i x) k q h0' h1.2 hn.2 h
    by_cases hk : k = i
    · subst hk
      have hl : k < (ws.set k x).length := (List.getElem?_eq_some_iff.mp a1).1
      rw [List.getElem?_set_self (by simpa using hl)] at a1
      cases a1
      exact ⟨w, h0.1, by rw [← h1.1]; exact a2⟩
    · rw [List.getElem?_set_ne (fun h => hk h.symm)] at a1
      exact ⟨q', a1, a2⟩
/-- behind a call that makes nothing: the callee's cells in their places -/
theorem va_back {A0 : Nat → Prop} {D : va_G} {cl : List vw_C} {ws wc w1 : va_W} {H H1 : Heap} (hP : va_P D cl ws H) (hD : va_D A0 ws) (isC : List Nat) (hC : isC.map (fun i => ws[i]?) = wc.map some) (hn : va_nd isC = true) (ha : w1.map (·.1) = wc.map (·.1))
    (hk : ∀ q : Nat, q < H.size → ¬ va_A wc H.size q → H1[q]? = H[q]?) (hP1 : va_P D cl w1 H1) : va_P D cl (setL ws isC w1) H1 ∧ va_D A0 (setL ws isC w1) := by
  have hlen : w1.length = isC.length := by
    have h1 := congrArg List.length hC
    have h2 := congrArg List.length ha
    simp only [List.length_map] at h1 h2
    omega
  refine ⟨fun k q hq => ?_, fun i j x y hx hy hxy => ?_, fun k q hq => ?_⟩
  · rcases setL_get isC w1 ws k q hq with h | ⟨h, h2⟩
    · obtain ⟨j, hj⟩ := List.getElem?_of_mem h
      exact hP1 j q hj
    · have h2 : k ∉ isC := h2.resolve_right (by omega)
      refine (hP k q h).kept (hk q.1 (hP k q h).lt ?_)
      rintro (⟨j, e, hj⟩ | hj)
      · have hz : (isC.map (fun i => ws[i]?))[j]? = some (some (q.1, e)) := by rw [hC, List.getElem?_map, hj]; rfl
        rw [List.getElem?_map] at hz
        cases hi : isC[j]? with
        | none => rw [hi] at hz; cases hz
        | some i =>
          rw [hi] at hz
          have hz : ws[i]? = some (q.1, e) := Option.some.inj hz
          have := hD.1 k i q (q.1, e) h hz rfl
          exact h2 (this ▸ List.mem_of_getElem? hi)
      · have := (hP k q h).lt
        omega
  · obtain ⟨x', a1, a2⟩ := setL_adr isC w1 wc ws i x hC ha hn hx
    obtain ⟨y', b1, b2⟩ := setL_adr isC w1 wc ws j y hC ha hn hy
    exact hD.1 i j x' y' a1 b1 (by rw [a2, b2]; exact hxy)
  · obtain ⟨x', a1, a2⟩ := setL_adr isC w1 wc ws k q hC ha hn hq
    rw [← a2]
    exact hD.2 k x' a1
/-- behind a call of any kind: what the caller finds -/
theorem x_after {p : Program} {l : Launch} {e : Env} {R : Room} {s : State} {m : MethodId} {args : Array Value} {below : List Frame} {meth : Method} {c : Code} {H0 H : Heap} {locs : List Loc} {ce sl mc ms : Nat} {Q : State → Prop} {pc : Nat} {ls : Array Slot} {st0 st : List Value} {A : Nat → Prop} {D : va_G} {wc : va_W} {a : Array Value} {σ : Type} {rv : σ → Option Value} {cs : σ → va_W} {po : σ → Prop}
    (hr : va_Run p l e R s m args below meth c H locs ce sl mc ms (F0 m pc ls st0) st (QG rv po (fun u t => va_P D CL (cs u) t.heap ∧ va_D (va_A wc H.size) (cs u)) (va_A wc H.size) a) (va_A wc H.size)) (hS : va_S A H0 H locs) (hF : ∀ q, va_A wc H.size q → A q)
    (kk : ∀ (u : σ) (H1 : Heap) (locs1 : List Loc), po u → va_P D CL (cs u) H1 → va_D (va_A wc H.size) (cs u) → H.size ≤ H1.size → (∀ q : Nat, q < H.size → ¬ va_A wc H.size q → H1[q]? = H[q]?) → va_S A H0 H1 locs1 → W p l e R s m args below meth c H1 locs1 (ce + mc) (sl + ms) Q (F0 m (pc + 3) ls ((rv u).toList ++ st))) : W p l e R s m args below meth c H locs ce sl Q (F0 m pc ls st0) := by
  intro T hT X
  obtain ⟨v, st₀, t, T', L, h0, X', hL, e1, e2, ⟨⟨u, hv, hp, hb, hbD⟩, hz, hk⟩, stp⟩ := hr T hT X
  cases hv
  rw [h0] at hz hk
  obtain ⟨t2, a1, b1⟩ := kk u T'.heap (locs ++ L) hp (by rw [e1]; exact hb) hbD (by rw [e1]; exact hz) (fun q h1 h2 => by rw [e1]; exact hk q h1 h2)
    ⟨Nat.le_trans hS.1 (by rw [e1]; exact hz), fun q h1 h2 => by rw [e1, hk q (Nat.lt_of_lt_of_le h1 hS.1) (fun z => h2 (hF q z))]; exact hS.2.1 q h1 h2, fun q hq => by
      rcases List.mem_append.mp hq with h | h
      · exact hS.2.2 q h
      · exact hF _ (hL q h)⟩ T' rfl X'
  exact ⟨t2, stp t2 a1, b1⟩
theorem QB_blind {D : va_G} {tys : List (ClassId × FieldType)} {wc : va_W} {sz : Nat} {av : List Value} : FrameBlind (va_Pc av (fun U => U.heap.size = sz ∧ va_P D CL wc U.heap ∧ VK D tys U ∧ va_D (fun _ => True) wc)) := fun a U g mk q => by
  obtain ⟨q0, q1, qP, qK, qD⟩ := q
  exact ⟨q0, q1, qP, VK.same (u := U) (U := U.calling g mk a) rfl qK, qD⟩
theorem sub_at {A0 : Nat → Prop} {D : va_G} {ws wc : va_W} {H : Heap} (hP : va_P D CL ws H) (hD : va_D A0 ws) (isC : List Nat) (hn : va_nd isC = true) (hC : isC.map (fun i => ws[i]?) = wc.map some) : va_P D CL wc H ∧ va_D (fun _ => True) wc := ⟨hP.sub isC (fm_of hC), (hD.sub isC hn hC).weaken (fun _ _ _ _ => trivial)⟩
theorem x_callV {K : KA × KB} {l0 : Launch} {D0 : va_G} {ty0 : List (ClassId × FieldType)} {cc : ByteArray} {own : String} {nL fr lo rc rs : Nat} {ws : va_W} {lv : List (Nat × Value)} {pc : Nat} {st : List Value} {y : MethodName} {bytes : ByteArray} {maxL index fr1 lo1 : Nat} {ret : Option FieldType} {av : List Value} {wc : va_W} {σ : Type} {rv : σ → Option Value} {cs : σ → va_W} {po : σ → Prop} (ok : OKX K l0 D0 ty0 cc own nL fr lo rc rs) {b : Nat} {As : List Value} (q0 ci : Nat) {fs : List Value} {Cc : vw_C} (he : ws[q0]? = some (b, .inr (ci, fs))) (hcc : CL[ci]? = some Cc) (hCc : Cc.1 = y.cls)
    (hM : CO l0 D0 ty0 y bytes maxL ret fr1 lo1 0 0 (.ref b :: As) wc rv cs po) (h1 : Cond.methodLink own index y ∈ wA) (h2 : Cond.instanceMethod y ∈ wA) (h3 : Cond.selects y.cls y y ∈ wA) (h4 : Cond.initialized y.cls ∈ wA) (hcode : Cond.code y bytes maxL ret ∈ wA) (hno : y.cls ≠ "java/lang/invoke/MethodHandle" ∧ y.cls ≠ "java/lang/invoke/VarHandle") (hpar : (parseMethodDescriptor y.desc).map (fun d => d.parameters.length) = some As.length)
    (g1 : fr1 + 1 ≤ fr) (g2 : 8 + (maxL + 11) + lo1 ≤ lo) (g3 : (st.map fun v => v.category).sum ≤ 8) (hd : decode cc pc = .ok (.invokevirtual index, 3)) (isC : List Nat) (hn : va_nd isC = true) (hC : isC.map (fun i => ws[i]?) = wc.map some) {ws' : σ → va_W} {st' : σ → List Value} (ha : ∀ u, (cs u).map (·.1) = wc.map (·.1)) (hw : ∀ u, setL ws isC (cs u) = ws' u) (hst : ∀ u, (rv u).toList ++ st = st' u) (k : ∀ u, po u → XX K (ws' u) lv (pc + 3) (st' u)) : XX K ws lv pc (As.reverse ++ .ref b :: st) := by
  obtain ⟨⟨p, l, e, R, s, m, args, below, meth, c⟩, H0, A, D, tys, nL', ce, sl, Q⟩ := K
  obtain ⟨⟨hx, hb, hml, hown, hts⟩, hK, hA, hfr, hlo, hce, hsl, rfl, rfl, rfl, rfl⟩ := ok
  intro H locs ls hP hD hS hl
  have hs := sub_at hP hD isC hn hC
  have hF := va_free (wc := wc) hD hS hA isC hC
  have HR := va_runV (As := As) (rest := st) (locs := locs) (cells := ce) (slots := sl) (e := e) (meth := meth) (below := below) (p := p) (c := c) (g := F0 m pc ls (As.reverse ++ .ref b :: st)) ⟨hx, hb, hml, hown, hts⟩ (hM H.size) (cwV As.length hts (show GoodIn wA (wsV own index y.cls y (Cond.code y bytes maxL ret :: wA)) from wA_cons h1 (wA_cons h2 (wA_cons h3 (wA_cons h4 (wA_cons hcode wA_in))))) rfl rfl rfl ⟨rfl, hno.1, hno.2, hpar⟩ ⟨Nat.le_trans g1 hfr, Nat.le_trans g2 hlo⟩) ⟨QB_blind, hCc ▸ va_recv hK.1 hP hcc he, fun U hU hW => ⟨rfl, by rw [hU], by rw [hU]; exact hs.1, hK.warm hW, hs.2⟩⟩ rfl rfl hl.1 rfl (lv_room g3) hd ⟨Nat.le_trans (Nat.le_add_right ce rc) hce, Nat.le_trans (Nat.le_add_right sl rs) hsl⟩
  refine x_after HR hS hF (fun u H1 locs1 hp hP1 hD1 hz hk hS1 => ?_)
  obtain ⟨hP2, hD2⟩ := va_back hP hD isC hC hn (ha u) hk hP1
  rw [hw u] at hP2 hD2
  rw [hst u]
  exact k u hp H1 locs1 ls hP2 hD2 hS1 hl
theorem x_callS {K : KA × KB} {l0 : Launch} {D0 : va_G} {ty0 : List (ClassId × FieldType)} {cc : ByteArray} {own : String} {nL fr lo rc rs : Nat} {ws : va_W} {lv : List (Nat × Value)} {pc : Nat} {st : List Value} {y : MethodName} {bytes : ByteArray} {maxL index fr1 lo1 : Nat} {ret : Option FieldType} {av : List Value} {wc : va_W} {σ : Type} {rv : σ → Option Value} {cs : σ → va_W} {po : σ → Prop} (ok : OKX K l0 D0 ty0 cc own nL fr lo rc rs) {As : List Value}
    (hM : CO l0 D0 ty0 y bytes maxL ret fr1 lo1 0 0 As wc rv cs po) (h1 : Cond.methodLink own index y ∈ wA) (h2 : Cond.static y ∈ wA) (h4 : Cond.initialized y.cls ∈ wA) (h5 : y.cls = own) (hcode : Cond.code y bytes maxL ret ∈ wA) (hno : y.cls ≠ "java/lang/invoke/MethodHandle" ∧ y.cls ≠ "java/lang/invoke/VarHandle") (hpar : (parseMethodDescriptor y.desc).map (fun d => d.parameters.length) = some As.length)
    (g1 : fr1 + 1 ≤ fr) (g2 : 8 + (maxL + 11) + lo1 ≤ lo) (g3 : (st.map fun v => v.category).sum ≤ 8) (hd : decode cc pc = .ok (.invokestatic index, 3)) (isC : List Nat) (hn : va_nd isC = true) (hC : isC.map (fun i => ws[i]?) = wc.map some) {ws' : σ → va_W} {st' : σ → List Value} (ha : ∀ u, (cs u).map (·.1) = wc.map (·.1)) (hw : ∀ u, setL ws isC (cs u) = ws' u) (hst : ∀ u, (rv u).toList ++ st = st' u) (k : ∀ u, po u → XX K (ws' u) lv (pc + 3) (st' u)) : XX K ws lv pc (As.reverse ++ st) := by
  obtain ⟨⟨p, l, e, R, s, m, args, below, meth, c⟩, H0, A, D, tys, nL', ce, sl, Q⟩ := K
  obtain ⟨⟨hx, hb, hml, hown, hts⟩, hK, hA, hfr, hlo, hce, hsl, rfl, rfl, rfl, rfl⟩ := ok
  intro H locs ls hP hD hS hl
  have hs := sub_at hP hD isC hn hC
  have hF := va_free (wc := wc) hD hS hA isC hC
  have HR := va_runS (As := As) (rest := st) (locs := locs) (cells := ce) (slots := sl) (e := e) (meth := meth) (below := below) (p := p) (c := c) (g := F0 m pc ls (As.reverse ++ st)) ⟨hx, hb, hml, hown, hts⟩ (hM H.size) (cwS As.length hts (show GoodIn wA (wsS own index y (Cond.code y bytes maxL ret :: wA)) from wA_cons h1 (wA_cons h2 (wA_cons (h5 ▸ h4) (wA_cons hcode wA_in)))) rfl rfl rfl ⟨h5, hno.1, hno.2, hpar⟩ ⟨Nat.le_trans g1 hfr, Nat.le_trans g2 hlo⟩) ⟨QB_blind, fun U hU hW => ⟨rfl, by rw [hU], by rw [hU]; exact hs.1, hK.warm hW, hs.2⟩⟩ rfl rfl hl.1 rfl (lv_room g3) hd ⟨Nat.le_trans (Nat.le_add_right ce rc) hce, Nat.le_trans (Nat.le_add_right sl rs) hsl⟩
  refine x_after HR hS hF (fun u H1 locs1 hp hP1 hD1 hz hk hS1 => ?_)
  obtain ⟨hP2, hD2⟩ := va_back hP hD isC hC hn (ha u) hk hP1
  rw [hw u] at hP2 hD2
  rw [hst u]
  exact k u hp H1 locs1 ls hP2 hD2 hS1 hl
theorem x_callM {K : KA × KB} {l0 : Launch} {D0 : va_G} {ty0 : List (ClassId × FieldType)} {cc : ByteArray} {own : String} {nL fr lo rc rs : Nat} {ws : va_W} {lv : List (Nat × Value)} {pc : Nat} {st : List Value} {y : MethodName} {bytes : ByteArray} {maxL index fr1 lo1 : Nat} {ret : Option FieldType} {av : List Value} {wc : va_W} {σ : Type} {rv : σ → Option Value} {cs : σ → va_W} {po : σ → Prop} (ok : OKX K l0 D0 ty0 cc own nL fr lo rc rs) {As : List Value}
    (hM : CO l0 D0 ty0 y bytes maxL ret fr1 lo1 0 0 As wc rv cs po) {host : String} (h1 : Cond.methodLinkNest own index y host ∈ nestW) (h2 : Cond.static y ∈ wA) (h4 : Cond.initialized y.cls ∈ wA) (hcode : Cond.code y bytes maxL ret ∈ wA) (hno : y.cls ≠ "java/lang/invoke/MethodHandle" ∧ y.cls ≠ "java/lang/invoke/VarHandle") (hpar : (parseMethodDescriptor y.desc).map (fun d => d.parameters.length) = some As.length)
    (g1 : fr1 + 1 ≤ fr) (g2 : 8 + (maxL + 11) + lo1 ≤ lo) (g3 : (st.map fun v => v.category).sum ≤ 8) (hd : decode cc pc = .ok (.invokestatic index, 3)) (isC : List Nat) (hn : va_nd isC = true) (hC : isC.map (fun i => ws[i]?) = wc.map some) {ws' : σ → va_W} {st' : σ → List Value} (ha : ∀ u, (cs u).map (·.1) = wc.map (·.1)) (hw : ∀ u, setL ws isC (cs u) = ws' u) (hst : ∀ u, (rv u).toList ++ st = st' u) (k : ∀ u, po u → XX K (ws' u) lv (pc + 3) (st' u)) : XX K ws lv pc (As.reverse ++ st) := by
  obtain ⟨⟨p, l, e, R, s, m, args, below, meth, c⟩, H0, A, D, tys, nL', ce, sl, Q⟩ := K
  obtain ⟨⟨hx, hb, hml, hown, hts⟩, hK, hA, hfr, hlo, hce, hsl, rfl, rfl, rfl, rfl⟩ := ok
  intro H locs ls hP hD hS hl
  have hs := sub_at hP hD isC hn hC
  have hF := va_free (wc := wc) hD hS hA isC hC
  have HR := va_runSN (As := As) (rest := st) (locs := locs) (cells := ce) (slots := sl) (e := e) (meth := meth) (below := below) (p := p) (c := c) (g := F0 m pc ls (As.reverse ++ st)) ⟨hx, hb, hml, hown, hts⟩ (hM H.size) (⟨va_cnB As.length hts (show GoodIn wA (Cond.code y bytes maxL ret :: wA) from wA_cons hcode wA_in) rfl rfl rfl (hK.2.1 _ h1) (hts _ h4) ⟨hno.1, hno.2, hpar⟩ ⟨Nat.le_trans g1 hfr, Nat.le_trans g2 hlo⟩, hts _ h2, trivial⟩) ⟨QB_blind, fun U hU hW => ⟨rfl, by rw [hU], by rw [hU]; exact hs.1, hK.warm hW, hs.2⟩⟩ rfl rfl hl.1 rfl (lv_room g3) hd ⟨Nat.le_trans (Nat.le_add_right ce rc) hce, Nat.le_trans (Nat.le_add_right sl rs) hsl⟩
  refine x_after HR hS hF (fun u H1 locs1 hp hP1 hD1 hz hk hS1 => ?_)
  obtain ⟨hP2, hD2⟩ := va_back hP hD isC hC hn (ha u) hk hP1
  rw [hw u] at hP2 hD2
  rw [hst u]
  exact k u hp H1 locs1 ls hP2 hD2 hS1 hl
theorem x_callI {K : KA × KB} {l0 : Launch} {D0 : va_G} {ty0 : List (ClassId × FieldType)} {cc : ByteArray} {own : String} {nL fr lo rc rs : Nat} {ws : va_W} {lv : List (Nat × Value)} {pc : Nat} {st : List Value} {y : MethodName} {bytes : ByteArray} {maxL index fr1 lo1 mc ms : Nat} {ret : Option FieldType} {av : List Value} {wc : va_W} {σ : Type} {rv : σ → Option Value} {cs : σ → va_W} {po : σ → Prop} (ok : OKX K l0 D0 ty0 cc own nL fr lo rc rs) {b : Nat} {As : List Value}
    (hM : CO l0 D0 ty0 y bytes maxL none fr1 lo1 mc ms (.ref b :: As) wc rv cs po) (h1 : Cond.methodLink own index y ∈ wA) (h2 : Cond.instanceMethod y ∈ wA) (h4 : Cond.initialized y.cls ∈ wA) (h5 : y.name = "<init>") (hcode : Cond.code y bytes maxL none ∈ wA) (hno : y.cls ≠ "java/lang/invoke/MethodHandle" ∧ y.cls ≠ "java/lang/invoke/VarHandle") (hpar : (parseMethodDescriptor y.desc).map (fun d => d.parameters.length) = some As.length)
    (g1 : fr1 + 1 ≤ fr) (g2 : 8 + (maxL + 11) + lo1 ≤ lo) (g3 : (st.map fun v => v.category).sum ≤ 8) (hd : decode cc pc = .ok (.invokespecial index, 3)) (isC : List Nat) (hn : va_nd isC = true) (hC : isC.map (fun i => ws[i]?) = wc.map some) (isR : List Nat) {wr : va_W} (hR : isR.map (fun i => ws[i]?) = wr.map some) (hnR : va_nd isR = true) (hdis : ∀ i ∈ isR, i ∉ isC) (hmc : mc ≤ rc) (hms : ms ≤ rs) {st' : σ → List Value} (hst : ∀ u, (rv u).toList ++ st = st' u) (k : ∀ u, po u → XX (KX_al K mc ms) (wr ++ cs u) lv (pc + 3) (st' u)) : XX K ws lv pc (As.reverse ++ .ref b :: st) := by
  obtain ⟨⟨p, l, e, R, s, m, args, below, meth, c⟩, H0, A, D, tys, nL', ce, sl, Q⟩ := K
  obtain ⟨⟨hx, hb, hml, hown, hts⟩, hK, hA, hfr, hlo, hce, hsl, rfl, rfl, rfl, rfl⟩ := ok
  intro H locs ls hP hD hS hl
  have hs := sub_at hP hD isC hn hC
  have hF := va_free (wc := wc) hD hS hA isC hC
  have HR := va_runI (As := As) (rest := st) (locs := locs) (cells := ce) (slots := sl) (e := e) (meth := meth) (below := below) (p := p) (c := c) (g := F0 m pc ls (As.reverse ++ .ref b :: st)) ⟨hx, hb, hml, hown, hts⟩ (hM H.size) (cwI As.length hts (show GoodIn wA (Cond.code y bytes maxL none :: wA) from wA_cons hcode wA_in) rfl rfl rfl (hts _ h4) (hts _ h1) (hts _ h2) h5 ⟨hno.1, hno.2, hpar⟩ ⟨Nat.le_trans g1 hfr, Nat.le_trans g2 hlo⟩) ⟨QB_blind, fun U hU hW => ⟨rfl, by rw [hU], by rw [hU]; exact hs.1, hK.warm hW, hs.2⟩⟩ rfl rfl hl.1 rfl (lv_room g3) hd ⟨by omega, by omega⟩
  refine x_after HR hS hF (fun u H1 locs1 hp hP1 hD1 hz hk hS1 => ?_)
  obtain ⟨hP2, hD2⟩ := va_join hP hD isC isR hC hR hnR hdis hk hF hP1 hD1
  rw [hst u]
  exact k u hp H1 locs1 ls hP2 hD2 hS1 hl
theorem x_callN {K : KA × KB} {l0 : Launch} {D0 : va_G} {ty0 : List (ClassId × FieldType)} {cc : ByteArray} {own : String} {nL fr lo rc rs : Nat} {ws : va_W} {lv : List (Nat × Value)} {pc : Nat} {st : List Value} {y : MethodName} {bytes : ByteArray} {maxL index fr1 lo1 mc ms : Nat} {ret : Option FieldType} {av : List Value} {wc : va_W} {σ : Type} {rv : σ → Option Value} {cs : σ → va_W} {po : σ → Prop} (ok : OKX K l0 D0 ty0 cc own nL fr lo rc rs) {b : Nat} {As : List Value}
    (hM : CO l0 D0 ty0 y bytes maxL none fr1 lo1 mc ms (.ref b :: As) wc rv cs po) {host : String} (h1 : Cond.methodLinkNest own index y host ∈ nestW) (h2 : Cond.instanceMethod y ∈ wA) (h4 : Cond.initialized y.cls ∈ wA) (h5 : y.name = "<init>") (hcode : Cond.code y bytes maxL none ∈ wA) (hno : y.cls ≠ "java/lang/invoke/MethodHandle" ∧ y.cls ≠ "java/lang/invoke/VarHandle") (hpar : (parseMethodDescriptor y.desc).map (fun d => d.parameters.length) = some As.length)
    (g1 : fr1 + 1 ≤ fr) (g2 : 8 + (maxL + 11) + lo1 ≤ lo) (g3 : (st.map fun v => v.category).sum ≤ 8) (hd : decode cc pc = .ok (.invokespecial index, 3)) (isC : List Nat) (hn : va_nd isC = true) (hC : isC.map (fun i => ws[i]?) = wc.map some) (isR : List Nat) {wr : va_W} (hR : isR.map (fun i => ws[i]?) = wr.map some) (hnR : va_nd isR = true) (hdis : ∀ i ∈ isR, i ∉ isC) (hmc : mc ≤ rc) (hms : ms ≤ rs) {st' : σ → List Value} (hst : ∀ u, (rv u).toList ++ st = st' u) (k : ∀ u, po u → XX (KX_al K mc ms) (wr ++ cs u) lv (pc + 3) (st' u)) : XX K ws lv pc (As.reverse ++ .ref b :: st) := by
  obtain ⟨⟨p, l, e, R, s, m, args, below, meth, c⟩, H0, A, D, tys, nL', ce, sl, Q⟩ := K
  obtain ⟨⟨hx, hb, hml, hown, hts⟩, hK, hA, hfr, hlo, hce, hsl, rfl, rfl, rfl, rfl⟩ := ok
  intro H locs ls hP hD hS hl
  have hs := sub_at hP hD isC hn hC
  have hF := va_free (wc := wc) hD hS hA isC hC
  have HR := va_runIN (As := As) (rest := st) (locs := locs) (cells := ce) (slots := sl) (e := e) (meth := meth) (below := below) (p := p) (c := c) (g := F0 m pc ls (As.reverse ++ .ref b :: st)) ⟨hx, hb, hml, hown, hts⟩ (hM H.size) (⟨va_cnB As.length hts (show GoodIn wA (Cond.code y bytes maxL none :: wA) from wA_cons hcode wA_in) rfl rfl rfl (hK.2.1 _ h1) (hts _ h4) ⟨hno.1, hno.2, hpar⟩ ⟨Nat.le_trans g1 hfr, Nat.le_trans g2 hlo⟩, h5, hts _ h2⟩) ⟨QB_blind, fun U hU hW => ⟨rfl, by rw [hU], by rw [hU]; exact hs.1, hK.warm hW, hs.2⟩⟩ rfl rfl hl.1 rfl (lv_room g3) hd ⟨by omega, by omega⟩
  refine x_after HR hS hF (fun u H1 locs1 hp hP1 hD1 hz hk hS1 => ?_)
  obtain ⟨hP2, hD2⟩ := va_join hP hD isC isR hC hR hnR hdis hk hF hP1 hD1
  rw [hst u]
  exact k u hp H1 locs1 ls hP2 hD2 hS1 hl
theorem x_callVJ {K : KA × KB} {l0 : Launch} {D0 : va_G} {ty0 : List (ClassId × FieldType)} {cc : ByteArray} {own : String} {nL fr lo rc rs : Nat} {ws : va_W} {lv : List (Nat × Value)} {pc : Nat} {st : List Value} {y : MethodName} {bytes : ByteArray} {maxL index fr1 lo1 mc ms : Nat} {ret : Option FieldType} {av : List Value} {wc : va_W} {σ : Type} {rv : σ → Option Value} {cs : σ → va_W} {po : σ → Prop} (ok : OKX K l0 D0 ty0 cc own nL fr lo rc rs) {b : Nat} {As : List Value} (q0 ci : Nat) {fs : List Value} {Cc : vw_C} (he : ws[q0]? = some (b, .inr (ci, fs))) (hcc : CL[ci]? = some Cc) (hCc : Cc.1 = y.cls)
    (hM : CO l0 D0 ty0 y bytes maxL ret fr1 lo1 mc ms (.ref b :: As) wc rv cs po) (h1 : Cond.methodLink own index y ∈ wA) (h2 : Cond.instanceMethod y ∈ wA) (h3 : Cond.selects y.cls y y ∈ wA) (h4 : Cond.initialized y.cls ∈ wA) (hcode : Cond.code y bytes maxL ret ∈ wA) (hno : y.cls ≠ "java/lang/invoke/MethodHandle" ∧ y.cls ≠ "java/lang/invoke/VarHandle") (hpar : (parseMethodDescriptor y.desc).map (fun d => d.parameters.length) = some As.length)
    (g1 : fr1 + 1 ≤ fr) (g2 : 8 + (maxL + 11) + lo1 ≤ lo) (g3 : (st.map fun v => v.category).sum ≤ 8) (hd : decode cc pc = .ok (.invokevirtual index, 3)) (isC : List Nat) (hn : va_nd isC = true) (hC : isC.map (fun i => ws[i]?) = wc.map some) (isR : List Nat) {wr : va_W} (hR : isR.map (fun i => ws[i]?) = wr.map some) (hnR : va_nd isR = true) (hdis : ∀ i ∈ isR, i ∉ isC) (hmc : mc ≤ rc) (hms : ms ≤ rs) {st' : σ → List Value} (hst : ∀ u, (rv u).toList ++ st = st' u) (k : ∀ u, po u → XX (KX_al K mc ms) (wr ++ cs u) lv (pc + 3) (st' u)) : XX K ws lv pc (As.reverse ++ .ref b :: st) := by
  obtain ⟨⟨p, l, e, R, s, m, args, below, meth, c⟩, H0, A, D, tys, nL', ce, sl, Q⟩ := K
  obtain ⟨⟨hx, hb, hml, hown, hts⟩, hK, hA, hfr, hlo, hce, hsl, rfl, rfl, rfl, rfl⟩ := ok
  intro H locs ls hP hD hS hl
  have hs := sub_at hP hD isC hn hC
  have hF := va_free (wc := wc) hD hS hA isC hC
  have HR := va_runV (As := As) (rest := st) (locs := locs) (cells := ce) (slots := sl) (e := e) (meth := meth) (below := below) (p := p) (c := c) (g := F0 m pc ls (As.reverse ++ .ref b :: st)) ⟨hx, hb, hml, hown, hts⟩ (hM H.size) (cwV As.length hts (show GoodIn wA (wsV own index y.cls y (Cond.code y bytes maxL ret :: wA)) from wA_cons h1 (wA_cons h2 (wA_cons h3 (wA_cons h4 (wA_cons hcode wA_in))))) rfl rfl rfl ⟨rfl, hno.1, hno.2, hpar⟩ ⟨Nat.le_trans g1 hfr, Nat.le_trans g2 hlo⟩) ⟨QB_blind, hCc ▸ va_recv hK.1 hP hcc he, fun U hU hW => ⟨rfl, by rw [hU], by rw [hU]; exact hs.1, hK.warm hW, hs.2⟩⟩ rfl rfl hl.1 rfl (lv_room g3) hd ⟨by omega, by omega⟩
  refine x_after HR hS hF (fun u H1 locs1 hp hP1 hD1 hz hk hS1 => ?_)
  obtain ⟨hP2, hD2⟩ := va_join hP hD isC isR hC hR hnR hdis hk hF hP1 hD1
  rw [hst u]
  exact k u hp H1 locs1 ls hP2 hD2 hS1 hl
end
