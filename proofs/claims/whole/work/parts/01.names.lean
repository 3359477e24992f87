-- ===== PART A: goes FIRST, ahead of the names: the tables' words, and 'selects' of the private methods out of them =====
/-- a private method of a class that the tables say can be made, by its rows of tables_1 -/
def lw_okq (q : MethodName × Nat) : Prop := (q.1.cls ≠ "java/lang/invoke/MethodHandle" ∧ q.1.cls ≠ "java/lang/invoke/VarHandle") ∧ Cond.instantiable q.1.cls q.2 ∈ tables_1 ∧ Cond.privateMethod q.1 ∈ tables_1 ∧ Cond.instanceMethod q.1 ∈ tables_1
theorem lw_p0 : lw_okq (⟨"WellEchoes", "tellPart", "(I)V"⟩, 13) := ⟨⟨by decide +kernel, by decide +kernel⟩, List.mem_of_getElem? (i := 10) (by decide +kernel), List.mem_of_getElem? (i := 177) (by decide +kernel), List.mem_of_getElem? (i := 178) (by decide +kernel)⟩
theorem lw_p1 : lw_okq (⟨"WellEchoes$Acts", "forgetFirst", "()V"⟩, 2) := ⟨⟨by decide +kernel, by decide +kernel⟩, List.mem_of_getElem? (i := 76) (by decide +kernel), List.mem_of_getElem? (i := 256) (by decide +kernel), List.mem_of_getElem? (i := 257) (by decide +kernel)⟩
theorem lw_p2 : lw_okq (⟨"WellEchoes", "heardBy", "(IIZ)I"⟩, 13) := ⟨⟨by decide +kernel, by decide +kernel⟩, List.mem_of_getElem? (i := 10) (by decide +kernel), List.mem_of_getElem? (i := 323) (by decide +kernel), List.mem_of_getElem? (i := 324) (by decide +kernel)⟩
theorem lw_p3 : lw_okq (⟨"WellEchoes", "isDone", "(LWellEchoes$Songs;I)Z"⟩, 13) := ⟨⟨by decide +kernel, by decide +kernel⟩, List.mem_of_getElem? (i := 10) (by decide +kernel), List.mem_of_getElem? (i := 362) (by decide +kernel), List.mem_of_getElem? (i := 363) (by decide +kernel)⟩
theorem lw_p4 : lw_okq (⟨"WellEchoes", "worthBehindPlan", "(LWellEchoes$Songs;)I"⟩, 13) := ⟨⟨by decide +kernel, by decide +kernel⟩, List.mem_of_getElem? (i := 10) (by decide +kernel), List.mem_of_getElem? (i := 369) (by decide +kernel), List.mem_of_getElem? (i := 370) (by decide +kernel)⟩
theorem lw_p5 : lw_okq (⟨"WellEchoes", "landLawsIn", "(LWellEchoes$Songs;)I"⟩, 13) := ⟨⟨by decide +kernel, by decide +kernel⟩, List.mem_of_getElem? (i := 10) (by decide +kernel), List.mem_of_getElem? (i := 373) (by decide +kernel), List.mem_of_getElem? (i := 374) (by decide +kernel)⟩
theorem lw_p6 : lw_okq (⟨"WellEchoes", "bestSecondWorth", "()I"⟩, 13) := ⟨⟨by decide +kernel, by decide +kernel⟩, List.mem_of_getElem? (i := 10) (by decide +kernel), List.mem_of_getElem? (i := 383) (by decide +kernel), List.mem_of_getElem? (i := 384) (by decide +kernel)⟩
theorem lw_p7 : lw_okq (⟨"WellEchoes", "landLawsBehind", "(II)I"⟩, 13) := ⟨⟨by decide +kernel, by decide +kernel⟩, List.mem_of_getElem? (i := 10) (by decide +kernel), List.mem_of_getElem? (i := 397) (by decide +kernel), List.mem_of_getElem? (i := 398) (by decide +kernel)⟩
theorem lw_p8 : lw_okq (⟨"WellEchoes", "lawsByOneLamp", "()J"⟩, 13) := ⟨⟨by decide +kernel, by decide +kernel⟩, List.mem_of_getElem? (i := 10) (by decide +kernel), List.mem_of_getElem? (i := 405) (by decide +kernel), List.mem_of_getElem? (i := 406) (by decide +kernel)⟩
theorem lw_p9 : lw_okq (⟨"WellEchoes", "weighLids", "()V"⟩, 13) := ⟨⟨by decide +kernel, by decide +kernel⟩, List.mem_of_getElem? (i := 10) (by decide +kernel), List.mem_of_getElem? (i := 437) (by decide +kernel), List.mem_of_getElem? (i := 438) (by decide +kernel)⟩
theorem lw_p10 : lw_okq (⟨"WellEchoes", "weighTurn", "(Z)V"⟩, 13) := ⟨⟨by decide +kernel, by decide +kernel⟩, List.mem_of_getElem? (i := 10) (by decide +kernel), List.mem_of_getElem? (i := 441) (by decide +kernel), List.mem_of_getElem? (i := 442) (by decide +kernel)⟩
theorem lw_p11 : lw_okq (⟨"WellEchoes", "worthOfLids", "(I)I"⟩, 13) := ⟨⟨by decide +kernel, by decide +kernel⟩, List.mem_of_getElem? (i := 10) (by decide +kernel), List.mem_of_getElem? (i := 445) (by decide +kernel), List.mem_of_getElem? (i := 446) (by decide +kernel)⟩
theorem lw_p12 : lw_okq (⟨"WellEchoes", "isFloodedBySeed", "(I)Z"⟩, 13) := ⟨⟨by decide +kernel, by decide +kernel⟩, List.mem_of_getElem? (i := 10) (by decide +kernel), List.mem_of_getElem? (i := 476) (by decide +kernel), List.mem_of_getElem? (i := 477) (by decide +kernel)⟩
theorem lw_p13 : lw_okq (⟨"WellEchoes", "slotOf", "(I)LWellEchoes$Songs;"⟩, 13) := ⟨⟨by decide +kernel, by decide +kernel⟩, List.mem_of_getElem? (i := 10) (by decide +kernel), List.mem_of_getElem? (i := 491) (by decide +kernel), List.mem_of_getElem? (i := 492) (by decide +kernel)⟩
theorem lw_p14 : lw_okq (⟨"WellEchoesModel", "readLand", "()I"⟩, 25) := ⟨⟨by decide +kernel, by decide +kernel⟩, List.mem_of_getElem? (i := 499) (by decide +kernel), List.mem_of_getElem? (i := 598) (by decide +kernel), List.mem_of_getElem? (i := 599) (by decide +kernel)⟩
theorem lw_p15 : lw_okq (⟨"WellEchoesModel", "readPart", "()Z"⟩, 25) := ⟨⟨by decide +kernel, by decide +kernel⟩, List.mem_of_getElem? (i := 499) (by decide +kernel), List.mem_of_getElem? (i := 602) (by decide +kernel), List.mem_of_getElem? (i := 603) (by decide +kernel)⟩
def lw_privs_1 : List (MethodName × Nat) := [(⟨"WellEchoes", "tellPart", "(I)V"⟩, 13), (⟨"WellEchoes$Acts", "forgetFirst", "()V"⟩, 2), (⟨"WellEchoes", "heardBy", "(IIZ)I"⟩, 13), (⟨"WellEchoes", "isDone", "(LWellEchoes$Songs;I)Z"⟩, 13), (⟨"WellEchoes", "worthBehindPlan", "(LWellEchoes$Songs;)I"⟩, 13), (⟨"WellEchoes", "landLawsIn", "(LWellEchoes$Songs;)I"⟩, 13), (⟨"WellEchoes", "bestSecondWorth", "()I"⟩, 13), (⟨"WellEchoes", "landLawsBehind", "(II)I"⟩, 13), (⟨"WellEchoes", "lawsByOneLamp", "()J"⟩, 13), (⟨"WellEchoes", "weighLids", "()V"⟩, 13), (⟨"WellEchoes", "weighTurn", "(Z)V"⟩, 13), (⟨"WellEchoes", "worthOfLids", "(I)I"⟩, 13), (⟨"WellEchoes", "isFloodedBySeed", "(I)Z"⟩, 13), (⟨"WellEchoes", "slotOf", "(I)LWellEchoes$Songs;"⟩, 13), (⟨"WellEchoesModel", "readLand", "()I"⟩, 25), (⟨"WellEchoesModel", "readPart", "()Z"⟩, 25)]
theorem lw_r1 : ∀ q ∈ lw_privs_1, lw_okq q := List.forall_mem_cons.mpr ⟨lw_p0, List.forall_mem_cons.mpr ⟨lw_p1, List.forall_mem_cons.mpr ⟨lw_p2, List.forall_mem_cons.mpr ⟨lw_p3, List.forall_mem_cons.mpr ⟨lw_p4, List.forall_mem_cons.mpr ⟨lw_p5, List.forall_mem_cons.mpr ⟨lw_p6, List.forall_mem_cons.mpr ⟨lw_p7, List.forall_mem_cons.mpr ⟨lw_p8, List.forall_mem_cons.mpr ⟨lw_p9, List.forall_mem_cons.mpr ⟨lw_p10, List.forall_mem_cons.mpr ⟨lw_p11, List.forall_mem_cons.mpr ⟨lw_p12, List.forall_mem_cons.mpr ⟨lw_p13, List.forall_mem_cons.mpr ⟨lw_p14, List.forall_mem_cons.mpr ⟨lw_p15, fun _ h => absurd h List.not_mem_nil⟩⟩⟩⟩⟩⟩⟩⟩⟩⟩⟩⟩⟩⟩⟩⟩
theorem lw_p16 : lw_okq (⟨"WellEchoesModel", "readWell", "()Z"⟩, 25) := ⟨⟨by decide +kernel, by decide +kernel⟩, List.mem_of_getElem? (i := 499) (by decide +kernel), List.mem_of_getElem? (i := 606) (by decide +kernel), List.mem_of_getElem? (i := 607) (by decide +kernel)⟩
theorem lw_p17 : lw_okq (⟨"WellEchoesModel", "figure", "(II)I"⟩, 25) := ⟨⟨by decide +kernel, by decide +kernel⟩, List.mem_of_getElem? (i := 499) (by decide +kernel), List.mem_of_getElem? (i := 610) (by decide +kernel), List.mem_of_getElem? (i := 611) (by decide +kernel)⟩
theorem lw_p18 : lw_okq (⟨"WellEchoesModel", "readSong", "()Z"⟩, 25) := ⟨⟨by decide +kernel, by decide +kernel⟩, List.mem_of_getElem? (i := 499) (by decide +kernel), List.mem_of_getElem? (i := 614) (by decide +kernel), List.mem_of_getElem? (i := 615) (by decide +kernel)⟩
theorem lw_p19 : lw_okq (⟨"WellEchoesModel", "noWell", "(I)Z"⟩, 25) := ⟨⟨by decide +kernel, by decide +kernel⟩, List.mem_of_getElem? (i := 499) (by decide +kernel), List.mem_of_getElem? (i := 636) (by decide +kernel), List.mem_of_getElem? (i := 637) (by decide +kernel)⟩
theorem lw_p20 : lw_okq (⟨"WellEchoesModel", "noSong", "(I)Z"⟩, 25) := ⟨⟨by decide +kernel, by decide +kernel⟩, List.mem_of_getElem? (i := 499) (by decide +kernel), List.mem_of_getElem? (i := 644) (by decide +kernel), List.mem_of_getElem? (i := 645) (by decide +kernel)⟩
theorem lw_p21 : lw_okq (⟨"WellEchoesModel", "note", "()V"⟩, 25) := ⟨⟨by decide +kernel, by decide +kernel⟩, List.mem_of_getElem? (i := 499) (by decide +kernel), List.mem_of_getElem? (i := 653) (by decide +kernel), List.mem_of_getElem? (i := 654) (by decide +kernel)⟩
theorem lw_p22 : lw_okq (⟨"WellEchoesModel", "goYear", "([II)I"⟩, 25) := ⟨⟨by decide +kernel, by decide +kernel⟩, List.mem_of_getElem? (i := 499) (by decide +kernel), List.mem_of_getElem? (i := 657) (by decide +kernel), List.mem_of_getElem? (i := 658) (by decide +kernel)⟩
theorem lw_p23 : lw_okq (⟨"WellEchoesModel", "aloneLoss", "(II)I"⟩, 25) := ⟨⟨by decide +kernel, by decide +kernel⟩, List.mem_of_getElem? (i := 499) (by decide +kernel), List.mem_of_getElem? (i := 661) (by decide +kernel), List.mem_of_getElem? (i := 662) (by decide +kernel)⟩
theorem lw_p24 : lw_okq (⟨"WellEchoesModel", "wear", "([IIZ)I"⟩, 25) := ⟨⟨by decide +kernel, by decide +kernel⟩, List.mem_of_getElem? (i := 499) (by decide +kernel), List.mem_of_getElem? (i := 668) (by decide +kernel), List.mem_of_getElem? (i := 669) (by decide +kernel)⟩
theorem lw_p25 : lw_okq (⟨"WellEchoesModel", "canSing", "([III)Z"⟩, 25) := ⟨⟨by decide +kernel, by decide +kernel⟩, List.mem_of_getElem? (i := 499) (by decide +kernel), List.mem_of_getElem? (i := 678) (by decide +kernel), List.mem_of_getElem? (i := 679) (by decide +kernel)⟩
theorem lw_p26 : lw_okq (⟨"WellEchoesModel", "goSing", "([IIIII)V"⟩, 25) := ⟨⟨by decide +kernel, by decide +kernel⟩, List.mem_of_getElem? (i := 499) (by decide +kernel), List.mem_of_getElem? (i := 682) (by decide +kernel), List.mem_of_getElem? (i := 683) (by decide +kernel)⟩
theorem lw_p27 : lw_okq (⟨"WellEchoesModel", "hears", "(IIZ)I"⟩, 25) := ⟨⟨by decide +kernel, by decide +kernel⟩, List.mem_of_getElem? (i := 499) (by decide +kernel), List.mem_of_getElem? (i := 698) (by decide +kernel), List.mem_of_getElem? (i := 699) (by decide +kernel)⟩
theorem lw_p28 : lw_okq (⟨"WellEchoesModel", "goYears", "([II)V"⟩, 25) := ⟨⟨by decide +kernel, by decide +kernel⟩, List.mem_of_getElem? (i := 499) (by decide +kernel), List.mem_of_getElem? (i := 721) (by decide +kernel), List.mem_of_getElem? (i := 722) (by decide +kernel)⟩
theorem lw_p29 : lw_okq (⟨"WellEchoesModel", "doPlan", "([II)Z"⟩, 25) := ⟨⟨by decide +kernel, by decide +kernel⟩, List.mem_of_getElem? (i := 499) (by decide +kernel), List.mem_of_getElem? (i := 730) (by decide +kernel), List.mem_of_getElem? (i := 731) (by decide +kernel)⟩
theorem lw_p30 : lw_okq (⟨"WellEchoesModel", "hadBy", "(II)I"⟩, 25) := ⟨⟨by decide +kernel, by decide +kernel⟩, List.mem_of_getElem? (i := 499) (by decide +kernel), List.mem_of_getElem? (i := 741) (by decide +kernel), List.mem_of_getElem? (i := 742) (by decide +kernel)⟩
theorem lw_p31 : lw_okq (⟨"WellEchoesModel", "flood", "([II)V"⟩, 25) := ⟨⟨by decide +kernel, by decide +kernel⟩, List.mem_of_getElem? (i := 499) (by decide +kernel), List.mem_of_getElem? (i := 770) (by decide +kernel), List.mem_of_getElem? (i := 771) (by decide +kernel)⟩
def lw_privs_2 : List (MethodName × Nat) := [(⟨"WellEchoesModel", "readWell", "()Z"⟩, 25), (⟨"WellEchoesModel", "figure", "(II)I"⟩, 25), (⟨"WellEchoesModel", "readSong", "()Z"⟩, 25), (⟨"WellEchoesModel", "noWell", "(I)Z"⟩, 25), (⟨"WellEchoesModel", "noSong", "(I)Z"⟩, 25), (⟨"WellEchoesModel", "note", "()V"⟩, 25), (⟨"WellEchoesModel", "goYear", "([II)I"⟩, 25), (⟨"WellEchoesModel", "aloneLoss", "(II)I"⟩, 25), (⟨"WellEchoesModel", "wear", "([IIZ)I"⟩, 25), (⟨"WellEchoesModel", "canSing", "([III)Z"⟩, 25), (⟨"WellEchoesModel", "goSing", "([IIIII)V"⟩, 25), (⟨"WellEchoesModel", "hears", "(IIZ)I"⟩, 25), (⟨"WellEchoesModel", "goYears", "([II)V"⟩, 25), (⟨"WellEchoesModel", "doPlan", "([II)Z"⟩, 25), (⟨"WellEchoesModel", "hadBy", "(II)I"⟩, 25), (⟨"WellEchoesModel", "flood", "([II)V"⟩, 25)]
theorem lw_r2 : ∀ q ∈ lw_privs_2, lw_okq q := List.forall_mem_cons.mpr ⟨lw_p16, List.forall_mem_cons.mpr ⟨lw_p17, List.forall_mem_cons.mpr ⟨lw_p18, List.forall_mem_cons.mpr ⟨lw_p19, List.forall_mem_cons.mpr ⟨lw_p20, List.forall_mem_cons.mpr ⟨lw_p21, List.forall_mem_cons.mpr ⟨lw_p22, List.forall_mem_cons.mpr ⟨lw_p23, List.forall_mem_cons.mpr ⟨lw_p24, List.forall_mem_cons.mpr ⟨lw_p25, List.forall_mem_cons.mpr ⟨lw_p26, List.forall_mem_cons.mpr ⟨lw_p27, List.forall_mem_cons.mpr ⟨lw_p28, List.forall_mem_cons.mpr ⟨lw_p29, List.forall_mem_cons.mpr ⟨lw_p30, List.forall_mem_cons.mpr ⟨lw_p31, fun _ h => absurd h List.not_mem_nil⟩⟩⟩⟩⟩⟩⟩⟩⟩⟩⟩⟩⟩⟩⟩⟩
def lw_privs : List (MethodName × Nat) := lw_privs_1 ++ (lw_privs_2)
def lw_tbl : List Cond := k2_sels lw_privs ++ tables_1
theorem lw_privs_ok : ∀ q ∈ lw_privs, lw_okq q := by
  show ∀ q ∈ lw_privs_1 ++ (lw_privs_2), lw_okq q
  exact List.forall_mem_append.mpr ⟨lw_r1, lw_r2⟩

def RX0 : String := "WellEchoes$Acts"
def TX0 : u_T := fun k => match k with
  | 0 => ("WellEchoes$Acts", "row", "[LWellEchoes$Songs;", true)
  | _ => ("WellEchoes$Acts", "count", "I", false)
def tyX0 : Nat → FieldType := fun k => match k with
  | 0 => .array (.object "WellEchoes$Songs")
  | _ => .int
abbrev wsX00 : List Cond := u_ws RX0 TX0 2
theorem nmX0 : ∀ a, a < 2 → ∀ b, b < 2 → a ≠ b → (TX0 a).2.1 ≠ (TX0 b).2.1 := by decide +kernel
theorem tyX0_ok : ∀ k, k < 2 → parseFieldDescriptor (TX0 k).2.2.1 = some (tyX0 k) := by decide +kernel
abbrev cX0_init : ByteArray := prog_2_method_1_code
def yX0_init : MethodName := ⟨RX0, "<init>", "()V"⟩
abbrev cX0_remember : ByteArray := prog_2_method_2_code
def yX0_remember : MethodName := ⟨RX0, "remember", "(LWellEchoes$Songs;)V"⟩
abbrev cX0_forgetFirst : ByteArray := prog_2_method_3_code
def yX0_forgetFirst : MethodName := ⟨RX0, "forgetFirst", "()V"⟩
abbrev cX0_takeBack : ByteArray := prog_2_method_4_code
def yX0_takeBack : MethodName := ⟨RX0, "takeBack", "(LWellEchoes$Songs;)Z"⟩
def RX1 : String := "WellEchoes$Songs"
def TX1 : u_T := fun k => match k with
  | 0 => ("WellEchoes$Songs", "cells", "[I", true)
  | 1 => ("WellEchoes$Songs", "count", "I", false)
  | 2 => ("WellEchoes$Songs", "lids", "I", false)
  | 3 => ("WellEchoes$Songs", "years", "I", false)
  | _ => ("WellEchoes$Songs", "breath", "I", false)
def tyX1 : Nat → FieldType := fun k => match k with
  | 0 => .array .int
  | 1 => .int
  | 2 => .int
  | 3 => .int
  | _ => .int
abbrev wsX10 : List Cond := u_ws RX1 TX1 5
theorem nmX1 : ∀ a, a < 5 → ∀ b, b < 5 → a ≠ b → (TX1 a).2.1 ≠ (TX1 b).2.1 := by decide +kernel
theorem tyX1_ok : ∀ k, k < 5 → parseFieldDescriptor (TX1 k).2.2.1 = some (tyX1 k) := by decide +kernel
abbrev cX1_init : ByteArray := prog_3_method_1_code
def yX1_init : MethodName := ⟨RX1, "<init>", "()V"⟩
abbrev cX1_clear : ByteArray := prog_3_method_2_code
def yX1_clear : MethodName := ⟨RX1, "clear", "()V"⟩
abbrev cX1_take : ByteArray := prog_3_method_3_code
def yX1_take : MethodName := ⟨RX1, "take", "(LWellEchoes$Songs;)V"⟩
abbrev cX1_has : ByteArray := prog_3_method_4_code
def yX1_has : MethodName := ⟨RX1, "has", "(I)Z"⟩
abbrev cX1_get : ByteArray := prog_3_method_5_code
def yX1_get : MethodName := ⟨RX1, "get", "(II)I"⟩
abbrev cX1_set : ByteArray := prog_3_method_6_code
def yX1_set : MethodName := ⟨RX1, "set", "(III)V"⟩
abbrev cX1_add : ByteArray := prog_3_method_7_code
def yX1_add : MethodName := ⟨RX1, "add", "(IIIII)I"⟩
abbrev cX1_hasLid : ByteArray := prog_3_method_8_code
def yX1_hasLid : MethodName := ⟨RX1, "hasLid", "(I)Z"⟩
abbrev cX1_songsIn : ByteArray := prog_3_method_9_code
def yX1_songsIn : MethodName := ⟨RX1, "songsIn", "(I)I"⟩
abbrev cX1_lawsHad : ByteArray := prog_3_method_10_code
def yX1_lawsHad : MethodName := ⟨RX1, "lawsHad", "()I"⟩
abbrev cX1_lawsOf : ByteArray := prog_3_method_11_code
def yX1_lawsOf : MethodName := ⟨RX1, "lawsOf", "(I)I"⟩
abbrev cX1_copiesOf : ByteArray := prog_3_method_12_code
def yX1_copiesOf : MethodName := ⟨RX1, "copiesOf", "(II)I"⟩
abbrev cX1_hasLawIn : ByteArray := prog_3_method_13_code
def yX1_hasLawIn : MethodName := ⟨RX1, "hasLawIn", "(II)Z"⟩
abbrev cX1_isSafe : ByteArray := prog_3_method_14_code
def yX1_isSafe : MethodName := ⟨RX1, "isSafe", "(I)Z"⟩
abbrev cX1_isWayOpen : ByteArray := prog_3_method_15_code
def yX1_isWayOpen : MethodName := ⟨RX1, "isWayOpen", "(IILWellEchoes$Wells;)Z"⟩
abbrev cX1_wellBeside : ByteArray := prog_3_method_16_code
def yX1_wellBeside : MethodName := ⟨RX1, "wellBeside", "(II)I"⟩
abbrev cX1_singOn : ByteArray := prog_3_method_17_code
def yX1_singOn : MethodName := ⟨RX1, "singOn", "(IIIILWellEchoes$Wells;)I"⟩
abbrev cX1_goYear : ByteArray := prog_3_method_18_code
def yX1_goYear : MethodName := ⟨RX1, "goYear", "(LWellEchoes$Wells;)I"⟩
abbrev cX1_goYears : ByteArray := prog_3_method_19_code
def yX1_goYears : MethodName := ⟨RX1, "goYears", "(ILWellEchoes$Wells;)V"⟩
abbrev cX1_wear : ByteArray := prog_3_method_20_code
def yX1_wear : MethodName := ⟨RX1, "wear", "(LWellEchoes$Wells;)V"⟩
abbrev cX1_shiftOfCrowd : ByteArray := prog_3_method_21_code
def yX1_shiftOfCrowd : MethodName := ⟨RX1, "shiftOfCrowd", "(II)I"⟩
abbrev cX1_faintAhead : ByteArray := prog_3_method_22_code
def yX1_faintAhead : MethodName := ⟨RX1, "faintAhead", "(I)I"⟩
abbrev cX1_dropFaint : ByteArray := prog_3_method_23_code
def yX1_dropFaint : MethodName := ⟨RX1, "dropFaint", "()I"⟩
abbrev cX1_flood : ByteArray := prog_3_method_24_code
def yX1_flood : MethodName := ⟨RX1, "flood", "(I)V"⟩
def RX2 : String := "WellEchoes$Text"
def TX2 : u_T := fun k => match k with
  | 0 => ("WellEchoes$Text", "letters", "[I", true)
  | _ => ("WellEchoes$Text", "length", "I", false)
def tyX2 : Nat → FieldType := fun k => match k with
  | 0 => .array .int
  | _ => .int
abbrev wsX20 : List Cond := u_ws RX2 TX2 2
theorem nmX2 : ∀ a, a < 2 → ∀ b, b < 2 → a ≠ b → (TX2 a).2.1 ≠ (TX2 b).2.1 := by decide +kernel
theorem tyX2_ok : ∀ k, k < 2 → parseFieldDescriptor (TX2 k).2.2.1 = some (tyX2 k) := by decide +kernel
abbrev cX2_init : ByteArray := prog_4_method_1_code
def yX2_init : MethodName := ⟨RX2, "<init>", "()V"⟩
abbrev cX2_append : ByteArray := prog_4_method_2_code
def yX2_append : MethodName := ⟨RX2, "append", "(I)Z"⟩
abbrev cX2_letterAt : ByteArray := prog_4_method_3_code
def yX2_letterAt : MethodName := ⟨RX2, "letterAt", "(I)I"⟩
abbrev cX2_digitAt : ByteArray := prog_4_method_4_code
def yX2_digitAt : MethodName := ⟨RX2, "digitAt", "(I)I"⟩
abbrev cX2_faultPlace : ByteArray := prog_4_method_5_code
def yX2_faultPlace : MethodName := ⟨RX2, "faultPlace", "()I"⟩
abbrev cX2_digitsOf : ByteArray := prog_4_method_6_code
def yX2_digitsOf : MethodName := ⟨RX2, "digitsOf", "(I)I"⟩
abbrev cX2_canOpen : ByteArray := prog_4_method_7_code
def yX2_canOpen : MethodName := ⟨RX2, "canOpen", "(III)Z"⟩
abbrev cX2_canStand : ByteArray := prog_4_method_8_code
def yX2_canStand : MethodName := ⟨RX2, "canStand", "(IIII)Z"⟩
def RX3 : String := "WellEchoes$Wells"
def TX3 : u_T := fun k => match k with
  | 0 => ("WellEchoes$Wells", "depths", "[I", true)
  | 1 => ("WellEchoes$Wells", "stones", "[I", true)
  | _ => ("WellEchoes$Wells", "count", "I", false)
def tyX3 : Nat → FieldType := fun k => match k with
  | 0 => .array .int
  | 1 => .array .int
  | _ => .int
abbrev wsX30 : List Cond := u_ws RX3 TX3 3
theorem nmX3 : ∀ a, a < 3 → ∀ b, b < 3 → a ≠ b → (TX3 a).2.1 ≠ (TX3 b).2.1 := by decide +kernel
theorem tyX3_ok : ∀ k, k < 3 → parseFieldDescriptor (TX3 k).2.2.1 = some (tyX3 k) := by decide +kernel
abbrev cX3_init : ByteArray := prog_5_method_1_code
def yX3_init : MethodName := ⟨RX3, "<init>", "()V"⟩
abbrev cX3_add : ByteArray := prog_5_method_2_code
def yX3_add : MethodName := ⟨RX3, "add", "(II)V"⟩
abbrev cX3_has : ByteArray := prog_5_method_3_code
def yX3_has : MethodName := ⟨RX3, "has", "(I)Z"⟩
abbrev cX3_depthOf : ByteArray := prog_5_method_4_code
def yX3_depthOf : MethodName := ⟨RX3, "depthOf", "(I)I"⟩
abbrev cX3_stoneOf : ByteArray := prog_5_method_5_code
def yX3_stoneOf : MethodName := ⟨RX3, "stoneOf", "(I)I"⟩
abbrev cX3_wearIn : ByteArray := prog_5_method_6_code
def yX3_wearIn : MethodName := ⟨RX3, "wearIn", "(IZ)I"⟩
def RX4 : String := "WellEchoes"
def TX4 : u_T := fun k => match k with
  | 0 => ("WellEchoes", "text", "LWellEchoes$Text;", true)
  | 1 => ("WellEchoes", "wells", "LWellEchoes$Wells;", true)
  | 2 => ("WellEchoes", "now", "LWellEchoes$Songs;", true)
  | 3 => ("WellEchoes", "acts", "LWellEchoes$Acts;", true)
  | 4 => ("WellEchoes", "firstSlot", "LWellEchoes$Songs;", true)
  | 5 => ("WellEchoes", "secondSlot", "LWellEchoes$Songs;", true)
  | 6 => ("WellEchoes", "slotsKept", "I", false)
  | 7 => ("WellEchoes", "lawsOfLand", "I", false)
  | 8 => ("WellEchoes", "seedNow", "J", false)
  | 9 => ("WellEchoes", "trial", "LWellEchoes$Songs;", true)
  | 10 => ("WellEchoes", "laterTrial", "LWellEchoes$Songs;", true)
  | 11 => ("WellEchoes", "lidWorth", "[I", true)
  | _ => ("WellEchoes", "lidWorthAhead", "[I", true)
def tyX4 : Nat → FieldType := fun k => match k with
  | 0 => .object "WellEchoes$Text"
  | 1 => .object "WellEchoes$Wells"
  | 2 => .object "WellEchoes$Songs"
  | 3 => .object "WellEchoes$Acts"
  | 4 => .object "WellEchoes$Songs"
  | 5 => .object "WellEchoes$Songs"
  | 6 => .int
  | 7 => .int
  | 8 => .long
  | 9 => .object "WellEchoes$Songs"
  | 10 => .object "WellEchoes$Songs"
  | 11 => .array .int
  | _ => .array .int
abbrev wsX40 : List Cond := u_ws RX4 TX4 13
theorem nmX4 : ∀ a, a < 13 → ∀ b, b < 13 → a ≠ b → (TX4 a).2.1 ≠ (TX4 b).2.1 := by decide +kernel
theorem tyX4_ok : ∀ k, k < 13 → parseFieldDescriptor (TX4 k).2.2.1 = some (tyX4 k) := by decide +kernel
abbrev cX4_init : ByteArray := prog_1_method_1_code
def yX4_init : MethodName := ⟨RX4, "<init>", "()V"⟩
abbrev cX4_write : ByteArray := prog_1_method_2_code
def yX4_write : MethodName := ⟨RX4, "write", "(I)I"⟩
abbrev cX4_wipe : ByteArray := prog_1_method_3_code
def yX4_wipe : MethodName := ⟨RX4, "wipe", "()I"⟩
abbrev cX4_fault : ByteArray := prog_1_method_4_code
def yX4_fault : MethodName := ⟨RX4, "fault", "()I"⟩
abbrev cX4_land : ByteArray := prog_1_method_5_code
def yX4_land : MethodName := ⟨RX4, "land", "()I"⟩
abbrev cX4_tellPart : ByteArray := prog_1_method_6_code
def yX4_tellPart : MethodName := ⟨RX4, "tellPart", "(I)V"⟩
abbrev cX4_about : ByteArray := prog_1_method_7_code
def yX4_about : MethodName := ⟨RX4, "about", "(I)I"⟩
abbrev cX4_well : ByteArray := prog_1_method_8_code
def yX4_well : MethodName := ⟨RX4, "well", "(II)I"⟩
abbrev cX4_song : ByteArray := prog_1_method_9_code
def yX4_song : MethodName := ⟨RX4, "song", "(II)I"⟩
abbrev cX4_year : ByteArray := prog_1_method_10_code
def yX4_year : MethodName := ⟨RX4, "year", "()I"⟩
abbrev cX4_sing : ByteArray := prog_1_method_11_code
def yX4_sing : MethodName := ⟨RX4, "sing", "(IIII)I"⟩
abbrev cX4_lid : ByteArray := prog_1_method_12_code
def yX4_lid : MethodName := ⟨RX4, "lid", "(I)I"⟩
abbrev cX4_undo : ByteArray := prog_1_method_13_code
def yX4_undo : MethodName := ⟨RX4, "undo", "()I"⟩
abbrev cX4_heard : ByteArray := prog_1_method_14_code
def yX4_heard : MethodName := ⟨RX4, "heard", "(IIZ)I"⟩
abbrev cX4_heardBy : ByteArray := prog_1_method_15_code
def yX4_heardBy : MethodName := ⟨RX4, "heardBy", "(IIZ)I"⟩
abbrev cX4_songLasts : ByteArray := prog_1_method_16_code
def yX4_songLasts : MethodName := ⟨RX4, "songLasts", "(I)I"⟩
abbrev cX4_lawLasts : ByteArray := prog_1_method_17_code
def yX4_lawLasts : MethodName := ⟨RX4, "lawLasts", "(I)I"⟩
abbrev cX4_lost : ByteArray := prog_1_method_18_code
def yX4_lost : MethodName := ⟨RX4, "lost", "(I)I"⟩
abbrev cX4_plan : ByteArray := prog_1_method_19_code
def yX4_plan : MethodName := ⟨RX4, "plan", "(II)I"⟩
abbrev cX4_bestSecondWorth : ByteArray := prog_1_method_20_code
def yX4_bestSecondWorth : MethodName := ⟨RX4, "bestSecondWorth", "()I"⟩
abbrev cX4_deedsOf : ByteArray := prog_1_method_21_code
def yX4_deedsOf : MethodName := ⟨RX4, "deedsOf", "(LWellEchoes$Songs;)I"⟩
abbrev cX4_isDone : ByteArray := prog_1_method_22_code
def yX4_isDone : MethodName := ⟨RX4, "isDone", "(LWellEchoes$Songs;I)Z"⟩
abbrev cX4_worthOfDeed : ByteArray := prog_1_method_23_code
def yX4_worthOfDeed : MethodName := ⟨RX4, "worthOfDeed", "(I)I"⟩
abbrev cX4_worthBehindPlan : ByteArray := prog_1_method_24_code
def yX4_worthBehindPlan : MethodName := ⟨RX4, "worthBehindPlan", "(LWellEchoes$Songs;)I"⟩
abbrev cX4_lawsOfWorth : ByteArray := prog_1_method_25_code
def yX4_lawsOfWorth : MethodName := ⟨RX4, "lawsOfWorth", "(I)I"⟩
abbrev cX4_landLawsIn : ByteArray := prog_1_method_26_code
def yX4_landLawsIn : MethodName := ⟨RX4, "landLawsIn", "(LWellEchoes$Songs;)I"⟩
abbrev cX4_landLawsBehind : ByteArray := prog_1_method_27_code
def yX4_landLawsBehind : MethodName := ⟨RX4, "landLawsBehind", "(II)I"⟩
abbrev cX4_bestLid : ByteArray := prog_1_method_28_code
def yX4_bestLid : MethodName := ⟨RX4, "bestLid", "(I)I"⟩
abbrev cX4_lamps : ByteArray := prog_1_method_29_code
def yX4_lamps : MethodName := ⟨RX4, "lamps", "()I"⟩
abbrev cX4_lawsByOneLamp : ByteArray := prog_1_method_30_code
def yX4_lawsByOneLamp : MethodName := ⟨RX4, "lawsByOneLamp", "()J"⟩
abbrev cX4_joined : ByteArray := prog_1_method_31_code
def yX4_joined : MethodName := ⟨RX4, "joined", "(JJ)J"⟩
abbrev cX4_joinedWithEach : ByteArray := prog_1_method_32_code
def yX4_joinedWithEach : MethodName := ⟨RX4, "joinedWithEach", "(IJ)J"⟩
abbrev cX4_mostPitch : ByteArray := prog_1_method_33_code
def yX4_mostPitch : MethodName := ⟨RX4, "mostPitch", "(I)I"⟩
abbrev cX4_truest : ByteArray := prog_1_method_34_code
def yX4_truest : MethodName := ⟨RX4, "truest", "(I)I"⟩
abbrev cX4_back : ByteArray := prog_1_method_35_code
def yX4_back : MethodName := ⟨RX4, "back", "(III)I"⟩
abbrev cX4_lords : ByteArray := prog_1_method_36_code
def yX4_lords : MethodName := ⟨RX4, "lords", "(II)I"⟩
abbrev cX4_weighLids : ByteArray := prog_1_method_37_code
def yX4_weighLids : MethodName := ⟨RX4, "weighLids", "()V"⟩
abbrev cX4_weighTurn : ByteArray := prog_1_method_38_code
def yX4_weighTurn : MethodName := ⟨RX4, "weighTurn", "(Z)V"⟩
abbrev cX4_worthOfLids : ByteArray := prog_1_method_39_code
def yX4_worthOfLids : MethodName := ⟨RX4, "worthOfLids", "(I)I"⟩
abbrev cX4_lidsBehind : ByteArray := prog_1_method_40_code
def yX4_lidsBehind : MethodName := ⟨RX4, "lidsBehind", "(II)I"⟩
abbrev cX4_rain : ByteArray := prog_1_method_41_code
def yX4_rain : MethodName := ⟨RX4, "rain", "(IIZ)I"⟩
abbrev cX4_greatestDivisor : ByteArray := prog_1_method_42_code
def yX4_greatestDivisor : MethodName := ⟨RX4, "greatestDivisor", "(II)I"⟩
abbrev cX4_seed : ByteArray := prog_1_method_43_code
def yX4_seed : MethodName := ⟨RX4, "seed", "(J)J"⟩
abbrev cX4_rains : ByteArray := prog_1_method_44_code
def yX4_rains : MethodName := ⟨RX4, "rains", "(II)I"⟩
abbrev cX4_isFloodedBySeed : ByteArray := prog_1_method_45_code
def yX4_isFloodedBySeed : MethodName := ⟨RX4, "isFloodedBySeed", "(I)Z"⟩
abbrev cX4_keep : ByteArray := prog_1_method_46_code
def yX4_keep : MethodName := ⟨RX4, "keep", "(I)I"⟩
abbrev cX4_again : ByteArray := prog_1_method_47_code
def yX4_again : MethodName := ⟨RX4, "again", "(I)I"⟩
abbrev cX4_slotOf : ByteArray := prog_1_method_48_code
def yX4_slotOf : MethodName := ⟨RX4, "slotOf", "(I)LWellEchoes$Songs;"⟩
abbrev cX4_isWithin : ByteArray := prog_1_method_49_code
def yX4_isWithin : MethodName := ⟨RX4, "isWithin", "(III)Z"⟩
def RX5 : String := "WellEchoesModel"
def TX5 : u_T := fun k => match k with
  | 0 => ("WellEchoesModel", "thrown", "I", false)
  | 1 => ("WellEchoesModel", "text", "[I", true)
  | 2 => ("WellEchoesModel", "textSize", "I", false)
  | 3 => ("WellEchoesModel", "place", "I", false)
  | 4 => ("WellEchoesModel", "wells", "I", false)
  | 5 => ("WellEchoesModel", "laws", "I", false)
  | 6 => ("WellEchoesModel", "depth", "[I", true)
  | 7 => ("WellEchoesModel", "stone", "[I", true)
  | 8 => ("WellEchoesModel", "readWells", "I", false)
  | 9 => ("WellEchoesModel", "readDepth", "[I", true)
  | 10 => ("WellEchoesModel", "readStone", "[I", true)
  | 11 => ("WellEchoesModel", "readPage", "[I", true)
  | 12 => ("WellEchoesModel", "page", "[I", true)
  | 13 => ("WellEchoesModel", "book", "[I", true)
  | 14 => ("WellEchoesModel", "acts", "I", false)
  | 15 => ("WellEchoesModel", "kept", "[I", true)
  | 16 => ("WellEchoesModel", "isKept", "[Z", true)
  | 17 => ("WellEchoesModel", "seed", "J", false)
  | 18 => ("WellEchoesModel", "one", "[I", true)
  | 19 => ("WellEchoesModel", "two", "[I", true)
  | 20 => ("WellEchoesModel", "three", "[I", true)
  | 21 => ("WellEchoesModel", "loss", "[I", true)
  | 22 => ("WellEchoesModel", "far", "[I", true)
  | 23 => ("WellEchoesModel", "worth", "[I", true)
  | _ => ("WellEchoesModel", "next", "[I", true)
def tyX5 : Nat → FieldType := fun k => match k with
  | 0 => .int
  | 1 => .array .int
  | 2 => .int
  | 3 => .int
  | 4 => .int
  | 5 => .int
  | 6 => .array .int
  | 7 => .array .int
  | 8 => .int
  | 9 => .array .int
  | 10 => .array .int
  | 11 => .array .int
  | 12 => .array .int
  | 13 => .array .int
  | 14 => .int
  | 15 => .array .int
  | 16 => .array .boolean
  | 17 => .long
  | 18 => .array .int
  | 19 => .array .int
  | 20 => .array .int
  | 21 => .array .int
  | 22 => .array .int
  | 23 => .array .int
  | _ => .array .int
abbrev wsX50 : List Cond := u_ws RX5 TX5 25
theorem nmX5 : ∀ a, a < 25 → ∀ b, b < 25 → a ≠ b → (TX5 a).2.1 ≠ (TX5 b).2.1 := by decide +kernel
theorem tyX5_ok : ∀ k, k < 25 → parseFieldDescriptor (TX5 k).2.2.1 = some (tyX5 k) := by decide +kernel
abbrev cX5_init : ByteArray := prog_7_method_1_code
def yX5_init : MethodName := ⟨RX5, "<init>", "()V"⟩
abbrev cX5_in : ByteArray := prog_7_method_3_code
def yX5_in : MethodName := ⟨RX5, "in", "(JJJ)Z"⟩
abbrev cX5_has : ByteArray := prog_7_method_4_code
def yX5_has : MethodName := ⟨RX5, "has", "(II)Z"⟩
abbrev cX5_many : ByteArray := prog_7_method_5_code
def yX5_many : MethodName := ⟨RX5, "many", "(I)I"⟩
abbrev cX5_noWell : ByteArray := prog_7_method_6_code
def yX5_noWell : MethodName := ⟨RX5, "noWell", "(I)Z"⟩
abbrev cX5_noSong : ByteArray := prog_7_method_7_code
def yX5_noSong : MethodName := ⟨RX5, "noSong", "(I)Z"⟩
abbrev cX5_write : ByteArray := prog_7_method_8_code
def yX5_write : MethodName := ⟨RX5, "write", "(I)I"⟩
abbrev cX5_wipe : ByteArray := prog_7_method_9_code
def yX5_wipe : MethodName := ⟨RX5, "wipe", "()I"⟩
abbrev cX5_figure : ByteArray := prog_7_method_10_code
def yX5_figure : MethodName := ⟨RX5, "figure", "(II)I"⟩
abbrev cX5_readWell : ByteArray := prog_7_method_11_code
def yX5_readWell : MethodName := ⟨RX5, "readWell", "()Z"⟩
abbrev cX5_readSong : ByteArray := prog_7_method_12_code
def yX5_readSong : MethodName := ⟨RX5, "readSong", "()Z"⟩
abbrev cX5_readPart : ByteArray := prog_7_method_13_code
def yX5_readPart : MethodName := ⟨RX5, "readPart", "()Z"⟩
abbrev cX5_readLand : ByteArray := prog_7_method_14_code
def yX5_readLand : MethodName := ⟨RX5, "readLand", "()I"⟩
abbrev cX5_fault : ByteArray := prog_7_method_15_code
def yX5_fault : MethodName := ⟨RX5, "fault", "()I"⟩
abbrev cX5_land : ByteArray := prog_7_method_16_code
def yX5_land : MethodName := ⟨RX5, "land", "()I"⟩
abbrev cX5_add : ByteArray := prog_7_method_17_code
def yX5_add : MethodName := ⟨RX5, "add", "([IIIIII)V"⟩
abbrev cX5_lawsOf : ByteArray := prog_7_method_18_code
def yX5_lawsOf : MethodName := ⟨RX5, "lawsOf", "([I)I"⟩
abbrev cX5_about : ByteArray := prog_7_method_19_code
def yX5_about : MethodName := ⟨RX5, "about", "(I)I"⟩
abbrev cX5_well : ByteArray := prog_7_method_20_code
def yX5_well : MethodName := ⟨RX5, "well", "(II)I"⟩
abbrev cX5_song : ByteArray := prog_7_method_21_code
def yX5_song : MethodName := ⟨RX5, "song", "(II)I"⟩
abbrev cX5_note : ByteArray := prog_7_method_22_code
def yX5_note : MethodName := ⟨RX5, "note", "()V"⟩
abbrev cX5_copy : ByteArray := prog_7_method_23_code
def yX5_copy : MethodName := ⟨RX5, "copy", "([I[I)V"⟩
abbrev cX5_wear : ByteArray := prog_7_method_24_code
def yX5_wear : MethodName := ⟨RX5, "wear", "([IIZ)I"⟩
abbrev cX5_aloneLoss : ByteArray := prog_7_method_25_code
def yX5_aloneLoss : MethodName := ⟨RX5, "aloneLoss", "(II)I"⟩
abbrev cX5_goYear : ByteArray := prog_7_method_26_code
def yX5_goYear : MethodName := ⟨RX5, "goYear", "([II)I"⟩
abbrev cX5_goYears : ByteArray := prog_7_method_27_code
def yX5_goYears : MethodName := ⟨RX5, "goYears", "([II)V"⟩
abbrev cX5_year : ByteArray := prog_7_method_28_code
def yX5_year : MethodName := ⟨RX5, "year", "()I"⟩
abbrev cX5_canSing : ByteArray := prog_7_method_29_code
def yX5_canSing : MethodName := ⟨RX5, "canSing", "([III)Z"⟩
abbrev cX5_goSing : ByteArray := prog_7_method_30_code
def yX5_goSing : MethodName := ⟨RX5, "goSing", "([IIIII)V"⟩
abbrev cX5_sing : ByteArray := prog_7_method_31_code
def yX5_sing : MethodName := ⟨RX5, "sing", "(IIII)I"⟩
abbrev cX5_lid : ByteArray := prog_7_method_32_code
def yX5_lid : MethodName := ⟨RX5, "lid", "(I)I"⟩
abbrev cX5_undo : ByteArray := prog_7_method_33_code
def yX5_undo : MethodName := ⟨RX5, "undo", "()I"⟩
abbrev cX5_hears : ByteArray := prog_7_method_34_code
def yX5_hears : MethodName := ⟨RX5, "hears", "(IIZ)I"⟩
abbrev cX5_heard : ByteArray := prog_7_method_35_code
def yX5_heard : MethodName := ⟨RX5, "heard", "(IIZ)I"⟩
abbrev cX5_songLasts : ByteArray := prog_7_method_36_code
def yX5_songLasts : MethodName := ⟨RX5, "songLasts", "(I)I"⟩
abbrev cX5_noLaw : ByteArray := prog_7_method_37_code
def yX5_noLaw : MethodName := ⟨RX5, "noLaw", "(I)Z"⟩
abbrev cX5_lawLasts : ByteArray := prog_7_method_38_code
def yX5_lawLasts : MethodName := ⟨RX5, "lawLasts", "(I)I"⟩
abbrev cX5_lost : ByteArray := prog_7_method_39_code
def yX5_lost : MethodName := ⟨RX5, "lost", "(I)I"⟩
abbrev cX5_doPlan : ByteArray := prog_7_method_40_code
def yX5_doPlan : MethodName := ⟨RX5, "doPlan", "([II)Z"⟩
abbrev cX5_plan : ByteArray := prog_7_method_41_code
def yX5_plan : MethodName := ⟨RX5, "plan", "(II)I"⟩
abbrev cX5_hadBy : ByteArray := prog_7_method_42_code
def yX5_hadBy : MethodName := ⟨RX5, "hadBy", "(II)I"⟩
abbrev cX5_bestLid : ByteArray := prog_7_method_43_code
def yX5_bestLid : MethodName := ⟨RX5, "bestLid", "(I)I"⟩
abbrev cX5_lamps : ByteArray := prog_7_method_44_code
def yX5_lamps : MethodName := ⟨RX5, "lamps", "()I"⟩
abbrev cX5_mostPitch : ByteArray := prog_7_method_45_code
def yX5_mostPitch : MethodName := ⟨RX5, "mostPitch", "(I)I"⟩
abbrev cX5_truest : ByteArray := prog_7_method_46_code
def yX5_truest : MethodName := ⟨RX5, "truest", "(I)I"⟩
abbrev cX5_back : ByteArray := prog_7_method_47_code
def yX5_back : MethodName := ⟨RX5, "back", "(III)I"⟩
abbrev cX5_lords : ByteArray := prog_7_method_48_code
def yX5_lords : MethodName := ⟨RX5, "lords", "(II)I"⟩
abbrev cX5_flood : ByteArray := prog_7_method_49_code
def yX5_flood : MethodName := ⟨RX5, "flood", "([II)V"⟩
abbrev cX5_divisor : ByteArray := prog_7_method_50_code
def yX5_divisor : MethodName := ⟨RX5, "divisor", "(II)I"⟩
abbrev cX5_rain : ByteArray := prog_7_method_51_code
def yX5_rain : MethodName := ⟨RX5, "rain", "(IIZ)I"⟩
abbrev cX5_seed : ByteArray := prog_7_method_52_code
def yX5_seed : MethodName := ⟨RX5, "seed", "(J)J"⟩
abbrev cX5_rains : ByteArray := prog_7_method_53_code
def yX5_rains : MethodName := ⟨RX5, "rains", "(II)I"⟩
abbrev cX5_keep : ByteArray := prog_7_method_54_code
def yX5_keep : MethodName := ⟨RX5, "keep", "(I)I"⟩
abbrev cX5_again : ByteArray := prog_7_method_55_code
def yX5_again : MethodName := ⟨RX5, "again", "(I)I"⟩
def RJ6 : String := "java/lang/Integer"
def TJ6 : u_T := fun k => match k with
  | _ => ("", "", "", false)
def tyJ6 : Nat → FieldType := fun k => match k with
  | _ => .int
abbrev wsJ60 : List Cond := u_ws RJ6 TJ6 0
theorem nmJ6 : ∀ a, a < 0 → ∀ b, b < 0 → a ≠ b → (TJ6 a).2.1 ≠ (TJ6 b).2.1 := by decide +kernel
theorem tyJ6_ok : ∀ k, k < 0 → parseFieldDescriptor (TJ6 k).2.2.1 = some (tyJ6 k) := by decide +kernel
abbrev cJ6_bitCount_0f7a4 : ByteArray := prog_8_method_49_code
def yJ6_bitCount_0f7a4 : MethodName := ⟨RJ6, "bitCount", "(I)I"⟩
def RJ9 : String := "java/lang/Math"
def TJ9 : u_T := fun k => match k with
  | _ => ("", "", "", false)
def tyJ9 : Nat → FieldType := fun k => match k with
  | _ => .int
abbrev wsJ90 : List Cond := u_ws RJ9 TJ9 0
theorem nmJ9 : ∀ a, a < 0 → ∀ b, b < 0 → a ≠ b → (TJ9 a).2.1 ≠ (TJ9 b).2.1 := by decide +kernel
theorem tyJ9_ok : ∀ k, k < 0 → parseFieldDescriptor (TJ9 k).2.2.1 = some (tyJ9 k) := by decide +kernel
abbrev cJ9_abs_0f7a4 : ByteArray := prog_9_method_59_code
def yJ9_abs_0f7a4 : MethodName := ⟨RJ9, "abs", "(I)I"⟩
abbrev cJ9_max_7cf53 : ByteArray := prog_9_method_65_code
def yJ9_max_7cf53 : MethodName := ⟨RJ9, "max", "(II)I"⟩
abbrev cJ9_min_7cf53 : ByteArray := prog_9_method_69_code
def yJ9_min_7cf53 : MethodName := ⟨RJ9, "min", "(II)I"⟩
def RL : String := "WellEchoesLaw"
abbrev cL_law : ByteArray := code
def yL_law : MethodName := ⟨RL, "law", "([I)Z"⟩
