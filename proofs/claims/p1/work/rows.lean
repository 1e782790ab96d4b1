section
-- ===== PART A: goes FIRST, ahead of the names: the tables' words, and 'selects' of the private methods out of them =====
/-- a private method of a class that the tables say can be made, by its rows of tables_1 -/
def lw_okq (q : MethodName × Nat) : Prop := (q.1.cls ≠ "java/lang/invoke/MethodHandle" ∧ q.1.cls ≠ "java/lang/invoke/VarHandle") ∧ Cond.instantiable q.1.cls q.2 ∈ tables_1 ∧ Cond.privateMethod q.1 ∈ tables_1 ∧ Cond.instanceMethod q.1 ∈ tables_1
theorem lw_p0 : lw_okq (⟨"LoopTells", "forgetRuns", "()V"⟩, 9) := ⟨⟨by decide +kernel, by decide +kernel⟩, List.mem_of_getElem? (i := 13) (by decide +kernel), List.mem_of_getElem? (i := 261) (by decide +kernel), List.mem_of_getElem? (i := 262) (by decide +kernel)⟩
theorem lw_p1 : lw_okq (⟨"LoopTells", "lookInRows", "(I)I"⟩, 9) := ⟨⟨by decide +kernel, by decide +kernel⟩, List.mem_of_getElem? (i := 13) (by decide +kernel), List.mem_of_getElem? (i := 316) (by decide +kernel), List.mem_of_getElem? (i := 317) (by decide +kernel)⟩
theorem lw_p2 : lw_okq (⟨"LoopTells", "fillRow", "(LLoopTells$Row;II)V"⟩, 9) := ⟨⟨by decide +kernel, by decide +kernel⟩, List.mem_of_getElem? (i := 13) (by decide +kernel), List.mem_of_getElem? (i := 327) (by decide +kernel), List.mem_of_getElem? (i := 328) (by decide +kernel)⟩
theorem lw_p3 : lw_okq (⟨"LoopTells$Machine", "begin", "(LLoopTells$Program;II)V"⟩, 3) := ⟨⟨by decide +kernel, by decide +kernel⟩, List.mem_of_getElem? (i := 72) (by decide +kernel), List.mem_of_getElem? (i := 335) (by decide +kernel), List.mem_of_getElem? (i := 336) (by decide +kernel)⟩
theorem lw_p4 : lw_okq (⟨"LoopTells$Machine", "doOrder", "(ILLoopTells$Watcher;LLoopTells$Run;)V"⟩, 3) := ⟨⟨by decide +kernel, by decide +kernel⟩, List.mem_of_getElem? (i := 72) (by decide +kernel), List.mem_of_getElem? (i := 344) (by decide +kernel), List.mem_of_getElem? (i := 345) (by decide +kernel)⟩
theorem lw_p5 : lw_okq (⟨"LoopTells$Machine", "tellOf", "(IIILLoopTells$Watcher;LLoopTells$Run;)V"⟩, 3) := ⟨⟨by decide +kernel, by decide +kernel⟩, List.mem_of_getElem? (i := 72) (by decide +kernel), List.mem_of_getElem? (i := 355) (by decide +kernel), List.mem_of_getElem? (i := 356) (by decide +kernel)⟩
theorem lw_p6 : lw_okq (⟨"LoopTells$Machine", "next", "(III)I"⟩, 3) := ⟨⟨by decide +kernel, by decide +kernel⟩, List.mem_of_getElem? (i := 72) (by decide +kernel), List.mem_of_getElem? (i := 363) (by decide +kernel), List.mem_of_getElem? (i := 364) (by decide +kernel)⟩
theorem lw_p7 : lw_okq (⟨"LoopTells$Machine", "work", "(IIII)V"⟩, 3) := ⟨⟨by decide +kernel, by decide +kernel⟩, List.mem_of_getElem? (i := 72) (by decide +kernel), List.mem_of_getElem? (i := 367) (by decide +kernel), List.mem_of_getElem? (i := 368) (by decide +kernel)⟩
theorem lw_p8 : lw_okq (⟨"LoopTells$Row", "add", "(III)V"⟩, 4) := ⟨⟨by decide +kernel, by decide +kernel⟩, List.mem_of_getElem? (i := 141) (by decide +kernel), List.mem_of_getElem? (i := 375) (by decide +kernel), List.mem_of_getElem? (i := 376) (by decide +kernel)⟩
theorem lw_p9 : lw_okq (⟨"LoopTells$Parting", "classAmong", "(LLoopTells$Row;I)I"⟩, 4) := ⟨⟨by decide +kernel, by decide +kernel⟩, List.mem_of_getElem? (i := 164) (by decide +kernel), List.mem_of_getElem? (i := 402) (by decide +kernel), List.mem_of_getElem? (i := 403) (by decide +kernel)⟩
theorem lw_p10 : lw_okq (⟨"LoopTells", "firstToldOpen", "()I"⟩, 9) := ⟨⟨by decide +kernel, by decide +kernel⟩, List.mem_of_getElem? (i := 13) (by decide +kernel), List.mem_of_getElem? (i := 428) (by decide +kernel), List.mem_of_getElem? (i := 429) (by decide +kernel)⟩
theorem lw_p11 : lw_okq (⟨"LoopTells", "firstTold", "(III)I"⟩, 9) := ⟨⟨by decide +kernel, by decide +kernel⟩, List.mem_of_getElem? (i := 13) (by decide +kernel), List.mem_of_getElem? (i := 440) (by decide +kernel), List.mem_of_getElem? (i := 441) (by decide +kernel)⟩
theorem lw_p12 : lw_okq (⟨"LoopTells$Cures", "gatherRuns", "(LLoopTells$Machine;LLoopTells$Program;LLoopTells$Watcher;I)I"⟩, 5) := ⟨⟨by decide +kernel, by decide +kernel⟩, List.mem_of_getElem? (i := 192) (by decide +kernel), List.mem_of_getElem? (i := 460) (by decide +kernel), List.mem_of_getElem? (i := 461) (by decide +kernel)⟩
theorem lw_p13 : lw_okq (⟨"LoopTells$Cures", "isNew", "(II)Z"⟩, 5) := ⟨⟨by decide +kernel, by decide +kernel⟩, List.mem_of_getElem? (i := 192) (by decide +kernel), List.mem_of_getElem? (i := 465) (by decide +kernel), List.mem_of_getElem? (i := 466) (by decide +kernel)⟩
theorem lw_p14 : lw_okq (⟨"LoopTells$Run", "costsAs", "(LLoopTells$Run;)Z"⟩, 10) := ⟨⟨by decide +kernel, by decide +kernel⟩, List.mem_of_getElem? (i := 88) (by decide +kernel), List.mem_of_getElem? (i := 473) (by decide +kernel), List.mem_of_getElem? (i := 474) (by decide +kernel)⟩
theorem lw_p15 : lw_okq (⟨"LoopTells$Cures", "sift", "(III)V"⟩, 5) := ⟨⟨by decide +kernel, by decide +kernel⟩, List.mem_of_getElem? (i := 192) (by decide +kernel), List.mem_of_getElem? (i := 477) (by decide +kernel), List.mem_of_getElem? (i := 478) (by decide +kernel)⟩
def lw_privs_1 : List (MethodName × Nat) := [(⟨"LoopTells", "forgetRuns", "()V"⟩, 9), (⟨"LoopTells", "lookInRows", "(I)I"⟩, 9), (⟨"LoopTells", "fillRow", "(LLoopTells$Row;II)V"⟩, 9), (⟨"LoopTells$Machine", "begin", "(LLoopTells$Program;II)V"⟩, 3), (⟨"LoopTells$Machine", "doOrder", "(ILLoopTells$Watcher;LLoopTells$Run;)V"⟩, 3), (⟨"LoopTells$Machine", "tellOf", "(IIILLoopTells$Watcher;LLoopTells$Run;)V"⟩, 3), (⟨"LoopTells$Machine", "next", "(III)I"⟩, 3), (⟨"LoopTells$Machine", "work", "(IIII)V"⟩, 3), (⟨"LoopTells$Row", "add", "(III)V"⟩, 4), (⟨"LoopTells$Parting", "classAmong", "(LLoopTells$Row;I)I"⟩, 4), (⟨"LoopTells", "firstToldOpen", "()I"⟩, 9), (⟨"LoopTells", "firstTold", "(III)I"⟩, 9), (⟨"LoopTells$Cures", "gatherRuns", "(LLoopTells$Machine;LLoopTells$Program;LLoopTells$Watcher;I)I"⟩, 5), (⟨"LoopTells$Cures", "isNew", "(II)Z"⟩, 5), (⟨"LoopTells$Run", "costsAs", "(LLoopTells$Run;)Z"⟩, 10), (⟨"LoopTells$Cures", "sift", "(III)V"⟩, 5)]
theorem lw_r1 : ∀ q ∈ lw_privs_1, lw_okq q := List.forall_mem_cons.mpr ⟨lw_p0, List.forall_mem_cons.mpr ⟨lw_p1, List.forall_mem_cons.mpr ⟨lw_p2, List.forall_mem_cons.mpr ⟨lw_p3, List.forall_mem_cons.mpr ⟨lw_p4, List.forall_mem_cons.mpr ⟨lw_p5, List.forall_mem_cons.mpr ⟨lw_p6, List.forall_mem_cons.mpr ⟨lw_p7, List.forall_mem_cons.mpr ⟨lw_p8, List.forall_mem_cons.mpr ⟨lw_p9, List.forall_mem_cons.mpr ⟨lw_p10, List.forall_mem_cons.mpr ⟨lw_p11, List.forall_mem_cons.mpr ⟨lw_p12, List.forall_mem_cons.mpr ⟨lw_p13, List.forall_mem_cons.mpr ⟨lw_p14, List.forall_mem_cons.mpr ⟨lw_p15, fun _ h => absurd h List.not_mem_nil⟩⟩⟩⟩⟩⟩⟩⟩⟩⟩⟩⟩⟩⟩⟩⟩
theorem lw_p16 : lw_okq (⟨"LoopTells$Cures", "seenAlike", "(III)Z"⟩, 5) := ⟨⟨by decide +kernel, by decide +kernel⟩, List.mem_of_getElem? (i := 192) (by decide +kernel), List.mem_of_getElem? (i := 481) (by decide +kernel), List.mem_of_getElem? (i := 482) (by decide +kernel)⟩
theorem lw_p17 : lw_okq (⟨"LoopTells", "visitedByAll", "()I"⟩, 9) := ⟨⟨by decide +kernel, by decide +kernel⟩, List.mem_of_getElem? (i := 13) (by decide +kernel), List.mem_of_getElem? (i := 513) (by decide +kernel), List.mem_of_getElem? (i := 514) (by decide +kernel)⟩
theorem lw_p18 : lw_okq (⟨"LoopTellsModel", "isOrder", "(I)Z"⟩, 23) := ⟨⟨by decide +kernel, by decide +kernel⟩, List.mem_of_getElem? (i := 525) (by decide +kernel), List.mem_of_getElem? (i := 605) (by decide +kernel), List.mem_of_getElem? (i := 606) (by decide +kernel)⟩
theorem lw_p19 : lw_okq (⟨"LoopTellsModel", "isPlace", "(I)Z"⟩, 23) := ⟨⟨by decide +kernel, by decide +kernel⟩, List.mem_of_getElem? (i := 525) (by decide +kernel), List.mem_of_getElem? (i := 614) (by decide +kernel), List.mem_of_getElem? (i := 615) (by decide +kernel)⟩
theorem lw_p20 : lw_okq (⟨"LoopTellsModel", "isInput", "(I)Z"⟩, 23) := ⟨⟨by decide +kernel, by decide +kernel⟩, List.mem_of_getElem? (i := 525) (by decide +kernel), List.mem_of_getElem? (i := 646) (by decide +kernel), List.mem_of_getElem? (i := 647) (by decide +kernel)⟩
theorem lw_p21 : lw_okq (⟨"LoopTellsModel", "goes", "(I)V"⟩, 23) := ⟨⟨by decide +kernel, by decide +kernel⟩, List.mem_of_getElem? (i := 525) (by decide +kernel), List.mem_of_getElem? (i := 650) (by decide +kernel), List.mem_of_getElem? (i := 651) (by decide +kernel)⟩
theorem lw_p22 : lw_okq (⟨"LoopTellsModel", "step", "(II)I"⟩, 23) := ⟨⟨by decide +kernel, by decide +kernel⟩, List.mem_of_getElem? (i := 525) (by decide +kernel), List.mem_of_getElem? (i := 654) (by decide +kernel), List.mem_of_getElem? (i := 655) (by decide +kernel)⟩
theorem lw_p23 : lw_okq (⟨"LoopTellsModel", "bits", "(I)I"⟩, 23) := ⟨⟨by decide +kernel, by decide +kernel⟩, List.mem_of_getElem? (i := 525) (by decide +kernel), List.mem_of_getElem? (i := 658) (by decide +kernel), List.mem_of_getElem? (i := 659) (by decide +kernel)⟩
theorem lw_p24 : lw_okq (⟨"LoopTellsModel", "cost", "(II)I"⟩, 23) := ⟨⟨by decide +kernel, by decide +kernel⟩, List.mem_of_getElem? (i := 525) (by decide +kernel), List.mem_of_getElem? (i := 662) (by decide +kernel), List.mem_of_getElem? (i := 663) (by decide +kernel)⟩
theorem lw_p25 : lw_okq (⟨"LoopTellsModel", "kindAt", "(I)I"⟩, 23) := ⟨⟨by decide +kernel, by decide +kernel⟩, List.mem_of_getElem? (i := 525) (by decide +kernel), List.mem_of_getElem? (i := 666) (by decide +kernel), List.mem_of_getElem? (i := 667) (by decide +kernel)⟩
theorem lw_p26 : lw_okq (⟨"LoopTellsModel", "look", "(IIII)V"⟩, 23) := ⟨⟨by decide +kernel, by decide +kernel⟩, List.mem_of_getElem? (i := 525) (by decide +kernel), List.mem_of_getElem? (i := 670) (by decide +kernel), List.mem_of_getElem? (i := 671) (by decide +kernel)⟩
theorem lw_p27 : lw_okq (⟨"LoopTellsModel", "sees", "(IIII)V"⟩, 23) := ⟨⟨by decide +kernel, by decide +kernel⟩, List.mem_of_getElem? (i := 525) (by decide +kernel), List.mem_of_getElem? (i := 674) (by decide +kernel), List.mem_of_getElem? (i := 675) (by decide +kernel)⟩
theorem lw_p28 : lw_okq (⟨"LoopTellsModel", "goAll", "()V"⟩, 23) := ⟨⟨by decide +kernel, by decide +kernel⟩, List.mem_of_getElem? (i := 525) (by decide +kernel), List.mem_of_getElem? (i := 686) (by decide +kernel), List.mem_of_getElem? (i := 687) (by decide +kernel)⟩
theorem lw_p29 : lw_okq (⟨"LoopTellsModel", "classesOf", "(I)I"⟩, 23) := ⟨⟨by decide +kernel, by decide +kernel⟩, List.mem_of_getElem? (i := 525) (by decide +kernel), List.mem_of_getElem? (i := 690) (by decide +kernel), List.mem_of_getElem? (i := 691) (by decide +kernel)⟩
theorem lw_p30 : lw_okq (⟨"LoopTellsModel", "unlike", "(IIII)I"⟩, 23) := ⟨⟨by decide +kernel, by decide +kernel⟩, List.mem_of_getElem? (i := 525) (by decide +kernel), List.mem_of_getElem? (i := 694) (by decide +kernel), List.mem_of_getElem? (i := 695) (by decide +kernel)⟩
theorem lw_p31 : lw_okq (⟨"LoopTellsModel", "isSilent", "(II)Z"⟩, 23) := ⟨⟨by decide +kernel, by decide +kernel⟩, List.mem_of_getElem? (i := 525) (by decide +kernel), List.mem_of_getElem? (i := 710) (by decide +kernel), List.mem_of_getElem? (i := 711) (by decide +kernel)⟩
def lw_privs_2 : List (MethodName × Nat) := [(⟨"LoopTells$Cures", "seenAlike", "(III)Z"⟩, 5), (⟨"LoopTells", "visitedByAll", "()I"⟩, 9), (⟨"LoopTellsModel", "isOrder", "(I)Z"⟩, 23), (⟨"LoopTellsModel", "isPlace", "(I)Z"⟩, 23), (⟨"LoopTellsModel", "isInput", "(I)Z"⟩, 23), (⟨"LoopTellsModel", "goes", "(I)V"⟩, 23), (⟨"LoopTellsModel", "step", "(II)I"⟩, 23), (⟨"LoopTellsModel", "bits", "(I)I"⟩, 23), (⟨"LoopTellsModel", "cost", "(II)I"⟩, 23), (⟨"LoopTellsModel", "kindAt", "(I)I"⟩, 23), (⟨"LoopTellsModel", "look", "(IIII)V"⟩, 23), (⟨"LoopTellsModel", "sees", "(IIII)V"⟩, 23), (⟨"LoopTellsModel", "goAll", "()V"⟩, 23), (⟨"LoopTellsModel", "classesOf", "(I)I"⟩, 23), (⟨"LoopTellsModel", "unlike", "(IIII)I"⟩, 23), (⟨"LoopTellsModel", "isSilent", "(II)Z"⟩, 23)]
theorem lw_r2 : ∀ q ∈ lw_privs_2, lw_okq q := List.forall_mem_cons.mpr ⟨lw_p16, List.forall_mem_cons.mpr ⟨lw_p17, List.forall_mem_cons.mpr ⟨lw_p18, List.forall_mem_cons.mpr ⟨lw_p19, List.forall_mem_cons.mpr ⟨lw_p20, List.forall_mem_cons.mpr ⟨lw_p21, List.forall_mem_cons.mpr ⟨lw_p22, List.forall_mem_cons.mpr ⟨lw_p23, List.forall_mem_cons.mpr ⟨lw_p24, List.forall_mem_cons.mpr ⟨lw_p25, List.forall_mem_cons.mpr ⟨lw_p26, List.forall_mem_cons.mpr ⟨lw_p27, List.forall_mem_cons.mpr ⟨lw_p28, List.forall_mem_cons.mpr ⟨lw_p29, List.forall_mem_cons.mpr ⟨lw_p30, List.forall_mem_cons.mpr ⟨lw_p31, fun _ h => absurd h List.not_mem_nil⟩⟩⟩⟩⟩⟩⟩⟩⟩⟩⟩⟩⟩⟩⟩⟩
theorem lw_p32 : lw_okq (⟨"LoopTellsModel", "priceOf", "(I)I"⟩, 23) := ⟨⟨by decide +kernel, by decide +kernel⟩, List.mem_of_getElem? (i := 525) (by decide +kernel), List.mem_of_getElem? (i := 722) (by decide +kernel), List.mem_of_getElem? (i := 723) (by decide +kernel)⟩
theorem lw_p33 : lw_okq (⟨"LoopTellsModel", "ones", "(I)I"⟩, 23) := ⟨⟨by decide +kernel, by decide +kernel⟩, List.mem_of_getElem? (i := 525) (by decide +kernel), List.mem_of_getElem? (i := 726) (by decide +kernel), List.mem_of_getElem? (i := 727) (by decide +kernel)⟩
def lw_privs_3 : List (MethodName × Nat) := [(⟨"LoopTellsModel", "priceOf", "(I)I"⟩, 23), (⟨"LoopTellsModel", "ones", "(I)I"⟩, 23)]
theorem lw_r3 : ∀ q ∈ lw_privs_3, lw_okq q := List.forall_mem_cons.mpr ⟨lw_p32, List.forall_mem_cons.mpr ⟨lw_p33, fun _ h => absurd h List.not_mem_nil⟩⟩
def lw_privs : List (MethodName × Nat) := lw_privs_1 ++ (lw_privs_2 ++ (lw_privs_3))
def lw_tbl : List Cond := k2_sels lw_privs ++ tables_1
theorem lw_privs_ok : ∀ q ∈ lw_privs, lw_okq q := by
  show ∀ q ∈ lw_privs_1 ++ (lw_privs_2 ++ (lw_privs_3)), lw_okq q
  exact List.forall_mem_append.mpr ⟨lw_r1, List.forall_mem_append.mpr ⟨lw_r2, lw_r3⟩⟩
end
section
def RX0 : String := "LoopTells$Cures"
def TX0 : u_T := fun k => match k with
  | 0 => ("LoopTells$Cures", "calm", "[Z", true)
  | 1 => ("LoopTells$Cures", "runs", "[LLoopTells$Run;", true)
  | 2 => ("LoopTells$Cures", "firstRow", "LLoopTells$Row;", true)
  | 3 => ("LoopTells$Cures", "otherRow", "LLoopTells$Row;", true)
  | _ => ("LoopTells$Cures", "known", "Z", false)
def tyX0 : Nat → FieldType := fun k => match k with
  | 0 => .array .boolean
  | 1 => .array (.object "LoopTells$Run")
  | 2 => .object "LoopTells$Row"
  | 3 => .object "LoopTells$Row"
  | _ => .boolean
abbrev wsX00 : List Cond := u_ws RX0 TX0 5
theorem nmX0 : ∀ a, a < 5 → ∀ b, b < 5 → a ≠ b → (TX0 a).2.1 ≠ (TX0 b).2.1 := by decide +kernel
theorem tyX0_ok : ∀ k, k < 5 → parseFieldDescriptor (TX0 k).2.2.1 = some (tyX0 k) := by decide +kernel
abbrev cX0_init : ByteArray := prog_2_method_1_code
def yX0_init : MethodName := ⟨RX0, "<init>", "()V"⟩
abbrev cX0_forget : ByteArray := prog_2_method_2_code
def yX0_forget : MethodName := ⟨RX0, "forget", "()V"⟩
abbrev cX0_learn : ByteArray := prog_2_method_3_code
def yX0_learn : MethodName := ⟨RX0, "learn", "(LLoopTells$Machine;LLoopTells$Program;LLoopTells$Watcher;)V"⟩
abbrev cX0_gatherRuns : ByteArray := prog_2_method_4_code
def yX0_gatherRuns : MethodName := ⟨RX0, "gatherRuns", "(LLoopTells$Machine;LLoopTells$Program;LLoopTells$Watcher;I)I"⟩
abbrev cX0_isNew : ByteArray := prog_2_method_5_code
def yX0_isNew : MethodName := ⟨RX0, "isNew", "(II)Z"⟩
abbrev cX0_sift : ByteArray := prog_2_method_6_code
def yX0_sift : MethodName := ⟨RX0, "sift", "(III)V"⟩
abbrev cX0_seenAlike : ByteArray := prog_2_method_7_code
def yX0_seenAlike : MethodName := ⟨RX0, "seenAlike", "(III)Z"⟩
abbrev cX0_cheapest : ByteArray := prog_2_method_8_code
def yX0_cheapest : MethodName := ⟨RX0, "cheapest", "(LLoopTells$Program;)I"⟩
abbrev cX0_isBetter : ByteArray := prog_2_method_9_code
def yX0_isBetter : MethodName := ⟨RX0, "isBetter", "(LLoopTells$Program;II)Z"⟩
abbrev cX0_howMany : ByteArray := prog_2_method_10_code
def yX0_howMany : MethodName := ⟨RX0, "howMany", "(LLoopTells$Program;)I"⟩
def RX1 : String := "LoopTells$Machine"
def TX1 : u_T := fun k => match k with
  | 0 => ("LoopTells$Machine", "registers", "[I", true)
  | 1 => ("LoopTells$Machine", "memory", "[I", true)
  | _ => ("LoopTells$Machine", "at", "I", false)
def tyX1 : Nat → FieldType := fun k => match k with
  | 0 => .array .int
  | 1 => .array .int
  | _ => .int
abbrev wsX10 : List Cond := u_ws RX1 TX1 3
theorem nmX1 : ∀ a, a < 3 → ∀ b, b < 3 → a ≠ b → (TX1 a).2.1 ≠ (TX1 b).2.1 := by decide +kernel
theorem tyX1_ok : ∀ k, k < 3 → parseFieldDescriptor (TX1 k).2.2.1 = some (tyX1 k) := by decide +kernel
abbrev cX1_init : ByteArray := prog_3_method_1_code
def yX1_init : MethodName := ⟨RX1, "<init>", "()V"⟩
abbrev cX1_go : ByteArray := prog_3_method_2_code
def yX1_go : MethodName := ⟨RX1, "go", "(LLoopTells$Program;LLoopTells$Watcher;IILLoopTells$Run;)V"⟩
abbrev cX1_begin : ByteArray := prog_3_method_3_code
def yX1_begin : MethodName := ⟨RX1, "begin", "(LLoopTells$Program;II)V"⟩
abbrev cX1_doOrder : ByteArray := prog_3_method_4_code
def yX1_doOrder : MethodName := ⟨RX1, "doOrder", "(ILLoopTells$Watcher;LLoopTells$Run;)V"⟩
abbrev cX1_tellOf : ByteArray := prog_3_method_5_code
def yX1_tellOf : MethodName := ⟨RX1, "tellOf", "(IIILLoopTells$Watcher;LLoopTells$Run;)V"⟩
abbrev cX1_next : ByteArray := prog_3_method_6_code
def yX1_next : MethodName := ⟨RX1, "next", "(III)I"⟩
abbrev cX1_work : ByteArray := prog_3_method_7_code
def yX1_work : MethodName := ⟨RX1, "work", "(IIII)V"⟩
abbrev cX1_bitsOf : ByteArray := prog_3_method_8_code
def yX1_bitsOf : MethodName := ⟨RX1, "bitsOf", "(I)I"⟩
def RX2 : String := "LoopTells$Parting"
def TX2 : u_T := fun k => match k with
  | 0 => ("LoopTells$Parting", "classNumbers", "[[I", true)
  | 1 => ("LoopTells$Parting", "counts", "[I", true)
  | 2 => ("LoopTells$Parting", "run", "LLoopTells$Run;", true)
  | _ => ("LoopTells$Parting", "leastRows", "[LLoopTells$Row;", true)
def tyX2 : Nat → FieldType := fun k => match k with
  | 0 => .array (.array .int)
  | 1 => .array .int
  | 2 => .object "LoopTells$Run"
  | _ => .array (.object "LoopTells$Row")
abbrev wsX20 : List Cond := u_ws RX2 TX2 4
theorem nmX2 : ∀ a, a < 4 → ∀ b, b < 4 → a ≠ b → (TX2 a).2.1 ≠ (TX2 b).2.1 := by decide +kernel
theorem tyX2_ok : ∀ k, k < 4 → parseFieldDescriptor (TX2 k).2.2.1 = some (tyX2 k) := by decide +kernel
abbrev cX2_init : ByteArray := prog_4_method_1_code
def yX2_init : MethodName := ⟨RX2, "<init>", "()V"⟩
abbrev cX2_forget : ByteArray := prog_4_method_2_code
def yX2_forget : MethodName := ⟨RX2, "forget", "()V"⟩
abbrev cX2_learn : ByteArray := prog_4_method_3_code
def yX2_learn : MethodName := ⟨RX2, "learn", "(LLoopTells$Machine;LLoopTells$Program;LLoopTells$Watcher;I)V"⟩
abbrev cX2_classAmong : ByteArray := prog_4_method_4_code
def yX2_classAmong : MethodName := ⟨RX2, "classAmong", "(LLoopTells$Row;I)I"⟩
abbrev cX2_firstParted : ByteArray := prog_4_method_5_code
def yX2_firstParted : MethodName := ⟨RX2, "firstParted", "(I)I"⟩
def RX3 : String := "LoopTells$Program"
def TX3 : u_T := fun k => match k with
  | 0 => ("LoopTells$Program", "orders", "[I", true)
  | 1 => ("LoopTells$Program", "prices", "[I", true)
  | 2 => ("LoopTells$Program", "words", "[I", true)
  | _ => ("LoopTells$Program", "count", "I", false)
def tyX3 : Nat → FieldType := fun k => match k with
  | 0 => .array .int
  | 1 => .array .int
  | 2 => .array .int
  | _ => .int
abbrev wsX30 : List Cond := u_ws RX3 TX3 4
theorem nmX3 : ∀ a, a < 4 → ∀ b, b < 4 → a ≠ b → (TX3 a).2.1 ≠ (TX3 b).2.1 := by decide +kernel
theorem tyX3_ok : ∀ k, k < 4 → parseFieldDescriptor (TX3 k).2.2.1 = some (tyX3 k) := by decide +kernel
abbrev cX3_init : ByteArray := prog_5_method_1_code
def yX3_init : MethodName := ⟨RX3, "<init>", "()V"⟩
abbrev cX3_has : ByteArray := prog_5_method_2_code
def yX3_has : MethodName := ⟨RX3, "has", "(I)Z"⟩
abbrev cX3_append : ByteArray := prog_5_method_3_code
def yX3_append : MethodName := ⟨RX3, "append", "(I)I"⟩
abbrev cX3_empty : ByteArray := prog_5_method_4_code
def yX3_empty : MethodName := ⟨RX3, "empty", "()V"⟩
abbrev cX3_allPlaces : ByteArray := prog_5_method_5_code
def yX3_allPlaces : MethodName := ⟨RX3, "allPlaces", "()I"⟩
abbrev cX3_priceOf : ByteArray := prog_5_method_6_code
def yX3_priceOf : MethodName := ⟨RX3, "priceOf", "(I)I"⟩
abbrev cX3_placesUnder : ByteArray := prog_5_method_7_code
def yX3_placesUnder : MethodName := ⟨RX3, "placesUnder", "(I)I"⟩
abbrev cX3_eyeOn : ByteArray := prog_5_method_8_code
def yX3_eyeOn : MethodName := ⟨RX3, "eyeOn", "(I)I"⟩
def RX4 : String := "LoopTells$Row"
def TX4 : u_T := fun k => match k with
  | 0 => ("LoopTells$Row", "places", "[I", true)
  | 1 => ("LoopTells$Row", "whats", "[I", true)
  | 2 => ("LoopTells$Row", "numbers", "[I", true)
  | _ => ("LoopTells$Row", "length", "I", false)
def tyX4 : Nat → FieldType := fun k => match k with
  | 0 => .array .int
  | 1 => .array .int
  | 2 => .array .int
  | _ => .int
abbrev wsX40 : List Cond := u_ws RX4 TX4 4
theorem nmX4 : ∀ a, a < 4 → ∀ b, b < 4 → a ≠ b → (TX4 a).2.1 ≠ (TX4 b).2.1 := by decide +kernel
theorem tyX4_ok : ∀ k, k < 4 → parseFieldDescriptor (TX4 k).2.2.1 = some (tyX4 k) := by decide +kernel
abbrev cX4_init : ByteArray := prog_6_method_1_code
def yX4_init : MethodName := ⟨RX4, "<init>", "()V"⟩
abbrev cX4_has : ByteArray := prog_6_method_2_code
def yX4_has : MethodName := ⟨RX4, "has", "(I)Z"⟩
abbrev cX4_fill : ByteArray := prog_6_method_3_code
def yX4_fill : MethodName := ⟨RX4, "fill", "(LLoopTells$Run;II)V"⟩
abbrev cX4_add : ByteArray := prog_6_method_4_code
def yX4_add : MethodName := ⟨RX4, "add", "(III)V"⟩
abbrev cX4_firstOtherwise : ByteArray := prog_6_method_5_code
def yX4_firstOtherwise : MethodName := ⟨RX4, "firstOtherwise", "(LLoopTells$Row;)I"⟩
def RX5 : String := "LoopTells$Run"
def TX5 : u_T := fun k => match k with
  | 0 => ("LoopTells$Run", "places", "[I", true)
  | 1 => ("LoopTells$Run", "whats", "[I", true)
  | 2 => ("LoopTells$Run", "numbers", "[I", true)
  | 3 => ("LoopTells$Run", "costs", "[I", true)
  | 4 => ("LoopTells$Run", "evenCosts", "[I", true)
  | 5 => ("LoopTells$Run", "length", "I", false)
  | 6 => ("LoopTells$Run", "steps", "I", false)
  | 7 => ("LoopTells$Run", "visited", "I", false)
  | 8 => ("LoopTells$Run", "answer", "I", false)
  | _ => ("LoopTells$Run", "spent", "Z", false)
def tyX5 : Nat → FieldType := fun k => match k with
  | 0 => .array .int
  | 1 => .array .int
  | 2 => .array .int
  | 3 => .array .int
  | 4 => .array .int
  | 5 => .int
  | 6 => .int
  | 7 => .int
  | 8 => .int
  | _ => .boolean
abbrev wsX50 : List Cond := u_ws RX5 TX5 10
theorem nmX5 : ∀ a, a < 10 → ∀ b, b < 10 → a ≠ b → (TX5 a).2.1 ≠ (TX5 b).2.1 := by decide +kernel
theorem tyX5_ok : ∀ k, k < 10 → parseFieldDescriptor (TX5 k).2.2.1 = some (tyX5 k) := by decide +kernel
abbrev cX5_init : ByteArray := prog_7_method_1_code
def yX5_init : MethodName := ⟨RX5, "<init>", "()V"⟩
abbrev cX5_begin : ByteArray := prog_7_method_2_code
def yX5_begin : MethodName := ⟨RX5, "begin", "()V"⟩
abbrev cX5_tell : ByteArray := prog_7_method_3_code
def yX5_tell : MethodName := ⟨RX5, "tell", "(III)V"⟩
abbrev cX5_costWith : ByteArray := prog_7_method_4_code
def yX5_costWith : MethodName := ⟨RX5, "costWith", "(I)I"⟩
abbrev cX5_alwaysSeenAs : ByteArray := prog_7_method_5_code
def yX5_alwaysSeenAs : MethodName := ⟨RX5, "alwaysSeenAs", "(LLoopTells$Run;I)Z"⟩
abbrev cX5_costsAs : ByteArray := prog_7_method_6_code
def yX5_costsAs : MethodName := ⟨RX5, "costsAs", "(LLoopTells$Run;)Z"⟩
def RX6 : String := "LoopTells$Watcher"
def TX6 : u_T := fun k => match k with
  | 0 => ("LoopTells$Watcher", "eyes", "I", false)
  | 1 => ("LoopTells$Watcher", "width", "I", false)
  | _ => ("LoopTells$Watcher", "evenPlaces", "I", false)
def tyX6 : Nat → FieldType := fun k => match k with
  | 0 => .int
  | 1 => .int
  | _ => .int
abbrev wsX60 : List Cond := u_ws RX6 TX6 3
theorem nmX6 : ∀ a, a < 3 → ∀ b, b < 3 → a ≠ b → (TX6 a).2.1 ≠ (TX6 b).2.1 := by decide +kernel
theorem tyX6_ok : ∀ k, k < 3 → parseFieldDescriptor (TX6 k).2.2.1 = some (tyX6 k) := by decide +kernel
abbrev cX6_init : ByteArray := prog_8_method_1_code
def yX6_init : MethodName := ⟨RX6, "<init>", "()V"⟩
abbrev cX6_holdsEven : ByteArray := prog_8_method_2_code
def yX6_holdsEven : MethodName := ⟨RX6, "holdsEven", "(I)Z"⟩
def RX7 : String := "LoopTells"
def TX7 : u_T := fun k => match k with
  | 0 => ("LoopTells", "program", "LLoopTells$Program;", true)
  | 1 => ("LoopTells", "watcher", "LLoopTells$Watcher;", true)
  | 2 => ("LoopTells", "machine", "LLoopTells$Machine;", true)
  | 3 => ("LoopTells", "oneRun", "LLoopTells$Run;", true)
  | 4 => ("LoopTells", "firstRow", "LLoopTells$Row;", true)
  | 5 => ("LoopTells", "otherRow", "LLoopTells$Row;", true)
  | 6 => ("LoopTells", "parting", "LLoopTells$Parting;", true)
  | 7 => ("LoopTells", "cures", "LLoopTells$Cures;", true)
  | _ => ("LoopTells", "visited", "I", false)
def tyX7 : Nat → FieldType := fun k => match k with
  | 0 => .object "LoopTells$Program"
  | 1 => .object "LoopTells$Watcher"
  | 2 => .object "LoopTells$Machine"
  | 3 => .object "LoopTells$Run"
  | 4 => .object "LoopTells$Row"
  | 5 => .object "LoopTells$Row"
  | 6 => .object "LoopTells$Parting"
  | 7 => .object "LoopTells$Cures"
  | _ => .int
abbrev wsX70 : List Cond := u_ws RX7 TX7 9
theorem nmX7 : ∀ a, a < 9 → ∀ b, b < 9 → a ≠ b → (TX7 a).2.1 ≠ (TX7 b).2.1 := by decide +kernel
theorem tyX7_ok : ∀ k, k < 9 → parseFieldDescriptor (TX7 k).2.2.1 = some (tyX7 k) := by decide +kernel
abbrev cX7_init : ByteArray := prog_1_method_1_code
def yX7_init : MethodName := ⟨RX7, "<init>", "()V"⟩
abbrev cX7_order : ByteArray := prog_1_method_2_code
def yX7_order : MethodName := ⟨RX7, "order", "(I)I"⟩
abbrev cX7_change : ByteArray := prog_1_method_3_code
def yX7_change : MethodName := ⟨RX7, "change", "(II)Z"⟩
abbrev cX7_clear : ByteArray := prog_1_method_4_code
def yX7_clear : MethodName := ⟨RX7, "clear", "()V"⟩
abbrev cX7_word : ByteArray := prog_1_method_5_code
def yX7_word : MethodName := ⟨RX7, "word", "(II)Z"⟩
abbrev cX7_watch : ByteArray := prog_1_method_6_code
def yX7_watch : MethodName := ⟨RX7, "watch", "(II)Z"⟩
abbrev cX7_even : ByteArray := prog_1_method_7_code
def yX7_even : MethodName := ⟨RX7, "even", "(IZ)Z"⟩
abbrev cX7_price : ByteArray := prog_1_method_8_code
def yX7_price : MethodName := ⟨RX7, "price", "(II)Z"⟩
abbrev cX7_look : ByteArray := prog_1_method_9_code
def yX7_look : MethodName := ⟨RX7, "look", "(I)I"⟩
abbrev cX7_lookInRows : ByteArray := prog_1_method_10_code
def yX7_lookInRows : MethodName := ⟨RX7, "lookInRows", "(I)I"⟩
abbrev cX7_run : ByteArray := prog_1_method_11_code
def yX7_run : MethodName := ⟨RX7, "run", "(III)I"⟩
abbrev cX7_seen : ByteArray := prog_1_method_12_code
def yX7_seen : MethodName := ⟨RX7, "seen", "(IIII)I"⟩
abbrev cX7_classes : ByteArray := prog_1_method_13_code
def yX7_classes : MethodName := ⟨RX7, "classes", "(I)I"⟩
abbrev cX7_classOf : ByteArray := prog_1_method_14_code
def yX7_classOf : MethodName := ⟨RX7, "classOf", "(II)I"⟩
abbrev cX7_most : ByteArray := prog_1_method_15_code
def yX7_most : MethodName := ⟨RX7, "most", "()I"⟩
abbrev cX7_silent : ByteArray := prog_1_method_16_code
def yX7_silent : MethodName := ⟨RX7, "silent", "()Z"⟩
abbrev cX7_pair : ByteArray := prog_1_method_17_code
def yX7_pair : MethodName := ⟨RX7, "pair", "(I)I"⟩
abbrev cX7_cure : ByteArray := prog_1_method_18_code
def yX7_cure : MethodName := ⟨RX7, "cure", "(I)I"⟩
abbrev cX7_reached : ByteArray := prog_1_method_19_code
def yX7_reached : MethodName := ⟨RX7, "reached", "()I"⟩
abbrev cX7_tellers : ByteArray := prog_1_method_20_code
def yX7_tellers : MethodName := ⟨RX7, "tellers", "()I"⟩
abbrev cX7_isOrder : ByteArray := prog_1_method_21_code
def yX7_isOrder : MethodName := ⟨RX7, "isOrder", "(I)Z"⟩
abbrev cX7_isInput : ByteArray := prog_1_method_22_code
def yX7_isInput : MethodName := ⟨RX7, "isInput", "(I)Z"⟩
abbrev cX7_isWidth : ByteArray := prog_1_method_23_code
def yX7_isWidth : MethodName := ⟨RX7, "isWidth", "(I)Z"⟩
abbrev cX7_forgetRuns : ByteArray := prog_1_method_24_code
def yX7_forgetRuns : MethodName := ⟨RX7, "forgetRuns", "()V"⟩
abbrev cX7_fillRow : ByteArray := prog_1_method_25_code
def yX7_fillRow : MethodName := ⟨RX7, "fillRow", "(LLoopTells$Row;II)V"⟩
abbrev cX7_firstToldOpen : ByteArray := prog_1_method_26_code
def yX7_firstToldOpen : MethodName := ⟨RX7, "firstToldOpen", "()I"⟩
abbrev cX7_firstTold : ByteArray := prog_1_method_27_code
def yX7_firstTold : MethodName := ⟨RX7, "firstTold", "(III)I"⟩
abbrev cX7_visitedByAll : ByteArray := prog_1_method_28_code
def yX7_visitedByAll : MethodName := ⟨RX7, "visitedByAll", "()I"⟩
def RX8 : String := "LoopTellsModel"
def TX8 : u_T := fun k => match k with
  | 0 => ("LoopTellsModel", "told", "I", false)
  | 1 => ("LoopTellsModel", "places", "I", false)
  | 2 => ("LoopTellsModel", "order", "[I", true)
  | 3 => ("LoopTellsModel", "price", "[I", true)
  | 4 => ("LoopTellsModel", "word", "[I", true)
  | 5 => ("LoopTellsModel", "eyes", "I", false)
  | 6 => ("LoopTellsModel", "width", "I", false)
  | 7 => ("LoopTellsModel", "evens", "I", false)
  | 8 => ("LoopTellsModel", "register", "[I", true)
  | 9 => ("LoopTellsModel", "memory", "[I", true)
  | 10 => ("LoopTellsModel", "steps", "[I", true)
  | 11 => ("LoopTellsModel", "answer", "[I", true)
  | 12 => ("LoopTellsModel", "isSpent", "[Z", true)
  | 13 => ("LoopTellsModel", "placeOf", "[I", true)
  | 14 => ("LoopTellsModel", "numberOf", "[I", true)
  | 15 => ("LoopTellsModel", "costOf", "[I", true)
  | 16 => ("LoopTellsModel", "seenMany", "[I", true)
  | 17 => ("LoopTellsModel", "seenWhat", "[I", true)
  | 18 => ("LoopTellsModel", "seenNumber", "[I", true)
  | 19 => ("LoopTellsModel", "seenPlace", "[I", true)
  | 20 => ("LoopTellsModel", "classOf", "[I", true)
  | 21 => ("LoopTellsModel", "pairOpen", "I", false)
  | _ => ("LoopTellsModel", "pairSecret", "I", false)
def tyX8 : Nat → FieldType := fun k => match k with
  | 0 => .int
  | 1 => .int
  | 2 => .array .int
  | 3 => .array .int
  | 4 => .array .int
  | 5 => .int
  | 6 => .int
  | 7 => .int
  | 8 => .array .int
  | 9 => .array .int
  | 10 => .array .int
  | 11 => .array .int
  | 12 => .array .boolean
  | 13 => .array .int
  | 14 => .array .int
  | 15 => .array .int
  | 16 => .array .int
  | 17 => .array .int
  | 18 => .array .int
  | 19 => .array .int
  | 20 => .array .int
  | 21 => .int
  | _ => .int
abbrev wsX80 : List Cond := u_ws RX8 TX8 23
theorem nmX8 : ∀ a, a < 23 → ∀ b, b < 23 → a ≠ b → (TX8 a).2.1 ≠ (TX8 b).2.1 := by decide +kernel
theorem tyX8_ok : ∀ k, k < 23 → parseFieldDescriptor (TX8 k).2.2.1 = some (tyX8 k) := by decide +kernel
abbrev cX8_init : ByteArray := prog_10_method_1_code
def yX8_init : MethodName := ⟨RX8, "<init>", "()V"⟩
abbrev cX8_isOrder : ByteArray := prog_10_method_3_code
def yX8_isOrder : MethodName := ⟨RX8, "isOrder", "(I)Z"⟩
abbrev cX8_isPlace : ByteArray := prog_10_method_4_code
def yX8_isPlace : MethodName := ⟨RX8, "isPlace", "(I)Z"⟩
abbrev cX8_order : ByteArray := prog_10_method_5_code
def yX8_order : MethodName := ⟨RX8, "order", "(I)I"⟩
abbrev cX8_change : ByteArray := prog_10_method_6_code
def yX8_change : MethodName := ⟨RX8, "change", "(II)Z"⟩
abbrev cX8_clear : ByteArray := prog_10_method_7_code
def yX8_clear : MethodName := ⟨RX8, "clear", "()V"⟩
abbrev cX8_word : ByteArray := prog_10_method_8_code
def yX8_word : MethodName := ⟨RX8, "word", "(II)Z"⟩
abbrev cX8_watch : ByteArray := prog_10_method_9_code
def yX8_watch : MethodName := ⟨RX8, "watch", "(II)Z"⟩
abbrev cX8_even : ByteArray := prog_10_method_10_code
def yX8_even : MethodName := ⟨RX8, "even", "(IZ)Z"⟩
abbrev cX8_price : ByteArray := prog_10_method_11_code
def yX8_price : MethodName := ⟨RX8, "price", "(II)Z"⟩
abbrev cX8_look : ByteArray := prog_10_method_12_code
def yX8_look : MethodName := ⟨RX8, "look", "(I)I"⟩
abbrev cX8_bits : ByteArray := prog_10_method_13_code
def yX8_bits : MethodName := ⟨RX8, "bits", "(I)I"⟩
abbrev cX8_goes : ByteArray := prog_10_method_14_code
def yX8_goes : MethodName := ⟨RX8, "goes", "(I)V"⟩
abbrev cX8_step : ByteArray := prog_10_method_15_code
def yX8_step : MethodName := ⟨RX8, "step", "(II)I"⟩
abbrev cX8_goAll : ByteArray := prog_10_method_16_code
def yX8_goAll : MethodName := ⟨RX8, "goAll", "()V"⟩
abbrev cX8_isInput : ByteArray := prog_10_method_17_code
def yX8_isInput : MethodName := ⟨RX8, "isInput", "(I)Z"⟩
abbrev cX8_sees : ByteArray := prog_10_method_18_code
def yX8_sees : MethodName := ⟨RX8, "sees", "(IIII)V"⟩
abbrev cX8_kindAt : ByteArray := prog_10_method_19_code
def yX8_kindAt : MethodName := ⟨RX8, "kindAt", "(I)I"⟩
abbrev cX8_cost : ByteArray := prog_10_method_20_code
def yX8_cost : MethodName := ⟨RX8, "cost", "(II)I"⟩
abbrev cX8_look_ : ByteArray := prog_10_method_21_code
def yX8_look_ : MethodName := ⟨RX8, "look", "(IIII)V"⟩
abbrev cX8_unlike : ByteArray := prog_10_method_22_code
def yX8_unlike : MethodName := ⟨RX8, "unlike", "(IIII)I"⟩
abbrev cX8_run : ByteArray := prog_10_method_23_code
def yX8_run : MethodName := ⟨RX8, "run", "(III)I"⟩
abbrev cX8_seen : ByteArray := prog_10_method_24_code
def yX8_seen : MethodName := ⟨RX8, "seen", "(IIII)I"⟩
abbrev cX8_classesOf : ByteArray := prog_10_method_25_code
def yX8_classesOf : MethodName := ⟨RX8, "classesOf", "(I)I"⟩
abbrev cX8_classes : ByteArray := prog_10_method_26_code
def yX8_classes : MethodName := ⟨RX8, "classes", "(I)I"⟩
abbrev cX8_classOf : ByteArray := prog_10_method_27_code
def yX8_classOf : MethodName := ⟨RX8, "classOf", "(II)I"⟩
abbrev cX8_most : ByteArray := prog_10_method_28_code
def yX8_most : MethodName := ⟨RX8, "most", "()I"⟩
abbrev cX8_isSilent : ByteArray := prog_10_method_29_code
def yX8_isSilent : MethodName := ⟨RX8, "isSilent", "(II)Z"⟩
abbrev cX8_silent : ByteArray := prog_10_method_30_code
def yX8_silent : MethodName := ⟨RX8, "silent", "()Z"⟩
abbrev cX8_pair : ByteArray := prog_10_method_31_code
def yX8_pair : MethodName := ⟨RX8, "pair", "(I)I"⟩
abbrev cX8_ones : ByteArray := prog_10_method_32_code
def yX8_ones : MethodName := ⟨RX8, "ones", "(I)I"⟩
abbrev cX8_priceOf : ByteArray := prog_10_method_33_code
def yX8_priceOf : MethodName := ⟨RX8, "priceOf", "(I)I"⟩
abbrev cX8_cure : ByteArray := prog_10_method_34_code
def yX8_cure : MethodName := ⟨RX8, "cure", "(I)I"⟩
abbrev cX8_reached : ByteArray := prog_10_method_35_code
def yX8_reached : MethodName := ⟨RX8, "reached", "()I"⟩
abbrev cX8_tellers : ByteArray := prog_10_method_36_code
def yX8_tellers : MethodName := ⟨RX8, "tellers", "()I"⟩
def RJ6 : String := "java/lang/Integer"
def TJ6 : u_T := fun k => match k with
  | _ => ("", "", "", false)
def tyJ6 : Nat → FieldType := fun k => match k with
  | _ => .int
abbrev wsJ60 : List Cond := u_ws RJ6 TJ6 0
theorem nmJ6 : ∀ a, a < 0 → ∀ b, b < 0 → a ≠ b → (TJ6 a).2.1 ≠ (TJ6 b).2.1 := by decide +kernel
theorem tyJ6_ok : ∀ k, k < 0 → parseFieldDescriptor (TJ6 k).2.2.1 = some (tyJ6 k) := by decide +kernel
abbrev cJ6_numberOfLeadingZeros_0f7a4 : ByteArray := prog_11_method_47_code
def yJ6_numberOfLeadingZeros_0f7a4 : MethodName := ⟨RJ6, "numberOfLeadingZeros", "(I)I"⟩
abbrev cJ6_bitCount_0f7a4 : ByteArray := prog_11_method_49_code
def yJ6_bitCount_0f7a4 : MethodName := ⟨RJ6, "bitCount", "(I)I"⟩
def RJ9 : String := "java/lang/Math"
def TJ9 : u_T := fun k => match k with
  | _ => ("", "", "", false)
def tyJ9 : Nat → FieldType := fun k => match k with
  | _ => .int
abbrev wsJ90 : List Cond := u_ws RJ9 TJ9 0
theorem nmJ9 : ∀ a, a < 0 → ∀ b, b < 0 → a ≠ b → (TJ9 a).2.1 ≠ (TJ9 b).2.1 := by decide +kernel
theorem tyJ9_ok : ∀ k, k < 0 → parseFieldDescriptor (TJ9 k).2.2.1 = some (tyJ9 k) := by decide +kernel
abbrev cJ9_max_7cf53 : ByteArray := prog_12_method_65_code
def yJ9_max_7cf53 : MethodName := ⟨RJ9, "max", "(II)I"⟩
abbrev cJ9_min_7cf53 : ByteArray := prog_12_method_69_code
def yJ9_min_7cf53 : MethodName := ⟨RJ9, "min", "(II)I"⟩
def RL : String := "LoopTellsLaw"
abbrev cL_law : ByteArray := code
def yL_law : MethodName := ⟨RL, "law", "([I)Z"⟩
theorem inJ6 : ∀ w ∈ wsJ60, w ∈ lw_tbl := by decide +kernel
theorem inJ9 : ∀ w ∈ wsJ90, w ∈ lw_tbl := by decide +kernel

abbrev vwCl : List vw_C := [(RX0, TX0, 5), (RX1, TX1, 3), (RX2, TX2, 4), (RX3, TX3, 4), (RX4, TX4, 4), (RX5, TX5, 10), (RX6, TX6, 3), (RX7, TX7, 9), (RX8, TX8, 23)]
end
section
theorem dX0_init_0 : decode cX0_init 0 = .ok (.aload_n 0, 1) := by decide +kernel
theorem dX0_init_1 : decode cX0_init 1 = .ok (.invokespecial 3, 3) := by decide +kernel
theorem dX0_init_4 : decode cX0_init 4 = .ok (.aload_n 0, 1) := by decide +kernel
theorem dX0_init_5 : decode cX0_init 5 = .ok (.sipush 256, 3) := by decide +kernel
theorem dX0_init_8 : decode cX0_init 8 = .ok (.newarray .boolean, 2) := by decide +kernel
theorem dX0_init_10 : decode cX0_init 10 = .ok (.putfield 9, 3) := by decide +kernel
theorem dX0_init_13 : decode cX0_init 13 = .ok (.aload_n 0, 1) := by decide +kernel
theorem dX0_init_14 : decode cX0_init 14 = .ok (.bipush 16, 2) := by decide +kernel
theorem dX0_init_16 : decode cX0_init 16 = .ok (.anewarray 15, 3) := by decide +kernel
theorem dX0_init_19 : decode cX0_init 19 = .ok (.putfield 17, 3) := by decide +kernel
theorem dX0_init_22 : decode cX0_init 22 = .ok (.aload_n 0, 1) := by decide +kernel
theorem dX0_init_23 : decode cX0_init 23 = .ok (.new 21, 3) := by decide +kernel
theorem dX0_init_26 : decode cX0_init 26 = .ok (.dup, 1) := by decide +kernel
theorem dX0_init_27 : decode cX0_init 27 = .ok (.invokespecial 23, 3) := by decide +kernel
theorem dX0_init_30 : decode cX0_init 30 = .ok (.putfield 24, 3) := by decide +kernel
theorem dX0_init_33 : decode cX0_init 33 = .ok (.aload_n 0, 1) := by decide +kernel
theorem dX0_init_34 : decode cX0_init 34 = .ok (.new 21, 3) := by decide +kernel
theorem dX0_init_37 : decode cX0_init 37 = .ok (.dup, 1) := by decide +kernel
theorem dX0_init_38 : decode cX0_init 38 = .ok (.invokespecial 23, 3) := by decide +kernel
theorem dX0_init_41 : decode cX0_init 41 = .ok (.putfield 28, 3) := by decide +kernel
theorem dX0_init_44 : decode cX0_init 44 = .ok (.aload_n 0, 1) := by decide +kernel
theorem dX0_init_45 : decode cX0_init 45 = .ok (.iconst 0, 1) := by decide +kernel
theorem dX0_init_46 : decode cX0_init 46 = .ok (.putfield 31, 3) := by decide +kernel
theorem dX0_init_49 : decode cX0_init 49 = .ok (.iconst 0, 1) := by decide +kernel
theorem dX0_init_50 : decode cX0_init 50 = .ok (.istore_n 1, 1) := by decide +kernel
theorem dX0_init_51 : decode cX0_init 51 = .ok (.iload_n 1, 1) := by decide +kernel
theorem dX0_init_52 : decode cX0_init 52 = .ok (.bipush 16, 2) := by decide +kernel
theorem dX0_init_54 : decode cX0_init 54 = .ok (.if_icmp .ge 22, 3) := by decide +kernel
theorem dX0_init_57 : decode cX0_init 57 = .ok (.aload_n 0, 1) := by decide +kernel
theorem dX0_init_58 : decode cX0_init 58 = .ok (.getfield 17, 3) := by decide +kernel
theorem dX0_init_61 : decode cX0_init 61 = .ok (.iload_n 1, 1) := by decide +kernel
theorem dX0_init_62 : decode cX0_init 62 = .ok (.new 15, 3) := by decide +kernel
theorem dX0_init_65 : decode cX0_init 65 = .ok (.dup, 1) := by decide +kernel
theorem dX0_init_66 : decode cX0_init 66 = .ok (.invokespecial 35, 3) := by decide +kernel
theorem dX0_init_69 : decode cX0_init 69 = .ok (.aastore, 1) := by decide +kernel
theorem dX0_init_70 : decode cX0_init 70 = .ok (.iinc 1 1, 3) := by decide +kernel
theorem dX0_init_73 : decode cX0_init 73 = .ok (.goto (-22), 3) := by decide +kernel
theorem dX0_init_76 : decode cX0_init 76 = .ok (.return_, 1) := by decide +kernel
theorem dX0_forget_0 : decode cX0_forget 0 = .ok (.aload_n 0, 1) := by decide +kernel
theorem dX0_forget_1 : decode cX0_forget 1 = .ok (.iconst 0, 1) := by decide +kernel
theorem dX0_forget_2 : decode cX0_forget 2 = .ok (.putfield 31, 3) := by decide +kernel
theorem dX0_forget_5 : decode cX0_forget 5 = .ok (.return_, 1) := by decide +kernel
theorem dX0_learn_0 : decode cX0_learn 0 = .ok (.aload_n 0, 1) := by decide +kernel
theorem dX0_learn_1 : decode cX0_learn 1 = .ok (.getfield 31, 3) := by decide +kernel
theorem dX0_learn_4 : decode cX0_learn 4 = .ok (.ifCond .eq 4, 3) := by decide +kernel
theorem dX0_learn_7 : decode cX0_learn 7 = .ok (.return_, 1) := by decide +kernel
theorem dX0_learn_8 : decode cX0_learn 8 = .ok (.aload_n 3, 1) := by decide +kernel
theorem dX0_learn_9 : decode cX0_learn 9 = .ok (.getfield 36, 3) := by decide +kernel
theorem dX0_learn_12 : decode cX0_learn 12 = .ok (.bipush (-9), 2) := by decide +kernel
theorem dX0_learn_14 : decode cX0_learn 14 = .ok (.iand, 1) := by decide +kernel
theorem dX0_learn_15 : decode cX0_learn 15 = .ok (.istore 4, 2) := by decide +kernel
theorem dX0_learn_17 : decode cX0_learn 17 = .ok (.aload_n 2, 1) := by decide +kernel
theorem dX0_learn_18 : decode cX0_learn 18 = .ok (.iload 4, 2) := by decide +kernel
theorem dX0_learn_20 : decode cX0_learn 20 = .ok (.invokevirtual 42, 3) := by decide +kernel
theorem dX0_learn_23 : decode cX0_learn 23 = .ok (.istore 5, 2) := by decide +kernel
theorem dX0_learn_25 : decode cX0_learn 25 = .ok (.iconst 0, 1) := by decide +kernel
theorem dX0_learn_26 : decode cX0_learn 26 = .ok (.istore 6, 2) := by decide +kernel
theorem dX0_learn_28 : decode cX0_learn 28 = .ok (.iload 6, 2) := by decide +kernel
theorem dX0_learn_30 : decode cX0_learn 30 = .ok (.sipush 256, 3) := by decide +kernel
theorem dX0_learn_33 : decode cX0_learn 33 = .ok (.if_icmp .ge 17, 3) := by decide +kernel
theorem dX0_learn_36 : decode cX0_learn 36 = .ok (.aload_n 0, 1) := by decide +kernel
theorem dX0_learn_37 : decode cX0_learn 37 = .ok (.getfield 9, 3) := by decide +kernel
theorem dX0_learn_40 : decode cX0_learn 40 = .ok (.iload 6, 2) := by decide +kernel
theorem dX0_learn_42 : decode cX0_learn 42 = .ok (.iconst 1, 1) := by decide +kernel
theorem dX0_learn_43 : decode cX0_learn 43 = .ok (.bastore, 1) := by decide +kernel
theorem dX0_learn_44 : decode cX0_learn 44 = .ok (.iinc 6 1, 3) := by decide +kernel
theorem dX0_learn_47 : decode cX0_learn 47 = .ok (.goto (-19), 3) := by decide +kernel
theorem dX0_learn_50 : decode cX0_learn 50 = .ok (.iconst 0, 1) := by decide +kernel
theorem dX0_learn_51 : decode cX0_learn 51 = .ok (.istore 6, 2) := by decide +kernel
theorem dX0_learn_53 : decode cX0_learn 53 = .ok (.iload 6, 2) := by decide +kernel
theorem dX0_learn_55 : decode cX0_learn 55 = .ok (.bipush 16, 2) := by decide +kernel
theorem dX0_learn_57 : decode cX0_learn 57 = .ok (.if_icmp .ge 36, 3) := by decide +kernel
theorem dX0_learn_60 : decode cX0_learn 60 = .ok (.aload_n 0, 1) := by decide +kernel
theorem dX0_learn_61 : decode cX0_learn 61 = .ok (.aload_n 1, 1) := by decide +kernel
theorem dX0_learn_62 : decode cX0_learn 62 = .ok (.aload_n 2, 1) := by decide +kernel
theorem dX0_learn_63 : decode cX0_learn 63 = .ok (.aload_n 3, 1) := by decide +kernel
theorem dX0_learn_64 : decode cX0_learn 64 = .ok (.iload 6, 2) := by decide +kernel
theorem dX0_learn_66 : decode cX0_learn 66 = .ok (.invokevirtual 48, 3) := by decide +kernel
theorem dX0_learn_69 : decode cX0_learn 69 = .ok (.istore 7, 2) := by decide +kernel
theorem dX0_learn_71 : decode cX0_learn 71 = .ok (.iload 7, 2) := by decide +kernel
theorem dX0_learn_73 : decode cX0_learn 73 = .ok (.iconst 1, 1) := by decide +kernel
theorem dX0_learn_74 : decode cX0_learn 74 = .ok (.if_icmp .le 13, 3) := by decide +kernel
theorem dX0_learn_77 : decode cX0_learn 77 = .ok (.aload_n 0, 1) := by decide +kernel
theorem dX0_learn_78 : decode cX0_learn 78 = .ok (.iload 7, 2) := by decide +kernel
theorem dX0_learn_80 : decode cX0_learn 80 = .ok (.iload 4, 2) := by decide +kernel
theorem dX0_learn_82 : decode cX0_learn 82 = .ok (.iload 5, 2) := by decide +kernel
theorem dX0_learn_84 : decode cX0_learn 84 = .ok (.invokevirtual 52, 3) := by decide +kernel
theorem dX0_learn_87 : decode cX0_learn 87 = .ok (.iinc 6 1, 3) := by decide +kernel
theorem dX0_learn_90 : decode cX0_learn 90 = .ok (.goto (-37), 3) := by decide +kernel
theorem dX0_learn_93 : decode cX0_learn 93 = .ok (.iconst 0, 1) := by decide +kernel
theorem dX0_learn_94 : decode cX0_learn 94 = .ok (.istore 6, 2) := by decide +kernel
theorem dX0_learn_96 : decode cX0_learn 96 = .ok (.iload 6, 2) := by decide +kernel
theorem dX0_learn_98 : decode cX0_learn 98 = .ok (.sipush 256, 3) := by decide +kernel
theorem dX0_learn_101 : decode cX0_learn 101 = .ok (.if_icmp .ge 26, 3) := by decide +kernel
theorem dX0_learn_104 : decode cX0_learn 104 = .ok (.aload_n 0, 1) := by decide +kernel
theorem dX0_learn_105 : decode cX0_learn 105 = .ok (.getfield 9, 3) := by decide +kernel
theorem dX0_learn_108 : decode cX0_learn 108 = .ok (.iload 6, 2) := by decide +kernel
theorem dX0_learn_110 : decode cX0_learn 110 = .ok (.aload_n 0, 1) := by decide +kernel
theorem dX0_learn_111 : decode cX0_learn 111 = .ok (.getfield 9, 3) := by decide +kernel
theorem dX0_learn_114 : decode cX0_learn 114 = .ok (.iload 6, 2) := by decide +kernel
theorem dX0_learn_116 : decode cX0_learn 116 = .ok (.iload 5, 2) := by decide +kernel
theorem dX0_learn_118 : decode cX0_learn 118 = .ok (.iand, 1) := by decide +kernel
theorem dX0_learn_119 : decode cX0_learn 119 = .ok (.baload, 1) := by decide +kernel
theorem dX0_learn_120 : decode cX0_learn 120 = .ok (.bastore, 1) := by decide +kernel
theorem dX0_learn_121 : decode cX0_learn 121 = .ok (.iinc 6 1, 3) := by decide +kernel
theorem dX0_learn_124 : decode cX0_learn 124 = .ok (.goto (-28), 3) := by decide +kernel
theorem dX0_learn_127 : decode cX0_learn 127 = .ok (.aload_n 0, 1) := by decide +kernel
theorem dX0_learn_128 : decode cX0_learn 128 = .ok (.iconst 1, 1) := by decide +kernel
theorem dX0_learn_129 : decode cX0_learn 129 = .ok (.putfield 31, 3) := by decide +kernel
theorem dX0_learn_132 : decode cX0_learn 132 = .ok (.return_, 1) := by decide +kernel
theorem dX0_gatherRuns_0 : decode cX0_gatherRuns 0 = .ok (.iconst 0, 1) := by decide +kernel
theorem dX0_gatherRuns_1 : decode cX0_gatherRuns 1 = .ok (.istore 5, 2) := by decide +kernel
theorem dX0_gatherRuns_3 : decode cX0_gatherRuns 3 = .ok (.iconst 0, 1) := by decide +kernel
theorem dX0_gatherRuns_4 : decode cX0_gatherRuns 4 = .ok (.istore 6, 2) := by decide +kernel
theorem dX0_gatherRuns_6 : decode cX0_gatherRuns 6 = .ok (.iload 6, 2) := by decide +kernel
theorem dX0_gatherRuns_8 : decode cX0_gatherRuns 8 = .ok (.bipush 16, 2) := by decide +kernel
theorem dX0_gatherRuns_10 : decode cX0_gatherRuns 10 = .ok (.if_icmp .ge 42, 3) := by decide +kernel
theorem dX0_gatherRuns_13 : decode cX0_gatherRuns 13 = .ok (.aload_n 1, 1) := by decide +kernel
theorem dX0_gatherRuns_14 : decode cX0_gatherRuns 14 = .ok (.aload_n 2, 1) := by decide +kernel
theorem dX0_gatherRuns_15 : decode cX0_gatherRuns 15 = .ok (.aload_n 3, 1) := by decide +kernel
theorem dX0_gatherRuns_16 : decode cX0_gatherRuns 16 = .ok (.iload 4, 2) := by decide +kernel
theorem dX0_gatherRuns_18 : decode cX0_gatherRuns 18 = .ok (.iload 6, 2) := by decide +kernel
theorem dX0_gatherRuns_20 : decode cX0_gatherRuns 20 = .ok (.aload_n 0, 1) := by decide +kernel
theorem dX0_gatherRuns_21 : decode cX0_gatherRuns 21 = .ok (.getfield 17, 3) := by decide +kernel
theorem dX0_gatherRuns_24 : decode cX0_gatherRuns 24 = .ok (.iload 5, 2) := by decide +kernel
theorem dX0_gatherRuns_26 : decode cX0_gatherRuns 26 = .ok (.aaload, 1) := by decide +kernel
theorem dX0_gatherRuns_27 : decode cX0_gatherRuns 27 = .ok (.invokevirtual 56, 3) := by decide +kernel
theorem dX0_gatherRuns_30 : decode cX0_gatherRuns 30 = .ok (.aload_n 0, 1) := by decide +kernel
theorem dX0_gatherRuns_31 : decode cX0_gatherRuns 31 = .ok (.iload 5, 2) := by decide +kernel
theorem dX0_gatherRuns_33 : decode cX0_gatherRuns 33 = .ok (.aload_n 3, 1) := by decide +kernel
theorem dX0_gatherRuns_34 : decode cX0_gatherRuns 34 = .ok (.getfield 36, 3) := by decide +kernel
theorem dX0_gatherRuns_37 : decode cX0_gatherRuns 37 = .ok (.invokevirtual 62, 3) := by decide +kernel
theorem dX0_gatherRuns_40 : decode cX0_gatherRuns 40 = .ok (.ifCond .eq 6, 3) := by decide +kernel
theorem dX0_gatherRuns_43 : decode cX0_gatherRuns 43 = .ok (.iinc 5 1, 3) := by decide +kernel
theorem dX0_gatherRuns_46 : decode cX0_gatherRuns 46 = .ok (.iinc 6 1, 3) := by decide +kernel
theorem dX0_gatherRuns_49 : decode cX0_gatherRuns 49 = .ok (.goto (-43), 3) := by decide +kernel
theorem dX0_gatherRuns_52 : decode cX0_gatherRuns 52 = .ok (.iload 5, 2) := by decide +kernel
theorem dX0_gatherRuns_54 : decode cX0_gatherRuns 54 = .ok (.ireturn, 1) := by decide +kernel
theorem dX0_isNew_0 : decode cX0_isNew 0 = .ok (.iconst 0, 1) := by decide +kernel
theorem dX0_isNew_1 : decode cX0_isNew 1 = .ok (.istore_n 3, 1) := by decide +kernel
theorem dX0_isNew_2 : decode cX0_isNew 2 = .ok (.iload_n 3, 1) := by decide +kernel
theorem dX0_isNew_3 : decode cX0_isNew 3 = .ok (.iload_n 1, 1) := by decide +kernel
theorem dX0_isNew_4 : decode cX0_isNew 4 = .ok (.if_icmp .ge 30, 3) := by decide +kernel
theorem dX0_isNew_7 : decode cX0_isNew 7 = .ok (.aload_n 0, 1) := by decide +kernel
theorem dX0_isNew_8 : decode cX0_isNew 8 = .ok (.getfield 17, 3) := by decide +kernel
theorem dX0_isNew_11 : decode cX0_isNew 11 = .ok (.iload_n 1, 1) := by decide +kernel
theorem dX0_isNew_12 : decode cX0_isNew 12 = .ok (.aaload, 1) := by decide +kernel
theorem dX0_isNew_13 : decode cX0_isNew 13 = .ok (.aload_n 0, 1) := by decide +kernel
theorem dX0_isNew_14 : decode cX0_isNew 14 = .ok (.getfield 17, 3) := by decide +kernel
theorem dX0_isNew_17 : decode cX0_isNew 17 = .ok (.iload_n 3, 1) := by decide +kernel
theorem dX0_isNew_18 : decode cX0_isNew 18 = .ok (.aaload, 1) := by decide +kernel
theorem dX0_isNew_19 : decode cX0_isNew 19 = .ok (.iload_n 2, 1) := by decide +kernel
theorem dX0_isNew_20 : decode cX0_isNew 20 = .ok (.invokevirtual 66, 3) := by decide +kernel
theorem dX0_isNew_23 : decode cX0_isNew 23 = .ok (.ifCond .eq 5, 3) := by decide +kernel
theorem dX0_isNew_26 : decode cX0_isNew 26 = .ok (.iconst 0, 1) := by decide +kernel
theorem dX0_isNew_27 : decode cX0_isNew 27 = .ok (.ireturn, 1) := by decide +kernel
theorem dX0_isNew_28 : decode cX0_isNew 28 = .ok (.iinc 3 1, 3) := by decide +kernel
theorem dX0_isNew_31 : decode cX0_isNew 31 = .ok (.goto (-29), 3) := by decide +kernel
theorem dX0_isNew_34 : decode cX0_isNew 34 = .ok (.iconst 1, 1) := by decide +kernel
theorem dX0_isNew_35 : decode cX0_isNew 35 = .ok (.ireturn, 1) := by decide +kernel
theorem dX0_sift_0 : decode cX0_sift 0 = .ok (.iconst 0, 1) := by decide +kernel
theorem dX0_sift_1 : decode cX0_sift 1 = .ok (.istore 4, 2) := by decide +kernel
theorem dX0_sift_3 : decode cX0_sift 3 = .ok (.iload 4, 2) := by decide +kernel
theorem dX0_sift_5 : decode cX0_sift 5 = .ok (.sipush 256, 3) := by decide +kernel
theorem dX0_sift_8 : decode cX0_sift 8 = .ok (.if_icmp .ge 43, 3) := by decide +kernel
theorem dX0_sift_11 : decode cX0_sift 11 = .ok (.iload 4, 2) := by decide +kernel
theorem dX0_sift_13 : decode cX0_sift 13 = .ok (.iload_n 3, 1) := by decide +kernel
theorem dX0_sift_14 : decode cX0_sift 14 = .ok (.iconst (-1), 1) := by decide +kernel
theorem dX0_sift_15 : decode cX0_sift 15 = .ok (.ixor, 1) := by decide +kernel
theorem dX0_sift_16 : decode cX0_sift 16 = .ok (.iand, 1) := by decide +kernel
theorem dX0_sift_17 : decode cX0_sift 17 = .ok (.ifCond .ne 28, 3) := by decide +kernel
theorem dX0_sift_20 : decode cX0_sift 20 = .ok (.aload_n 0, 1) := by decide +kernel
theorem dX0_sift_21 : decode cX0_sift 21 = .ok (.getfield 9, 3) := by decide +kernel
theorem dX0_sift_24 : decode cX0_sift 24 = .ok (.iload 4, 2) := by decide +kernel
theorem dX0_sift_26 : decode cX0_sift 26 = .ok (.baload, 1) := by decide +kernel
theorem dX0_sift_27 : decode cX0_sift 27 = .ok (.ifCond .eq 18, 3) := by decide +kernel
theorem dX0_sift_30 : decode cX0_sift 30 = .ok (.aload_n 0, 1) := by decide +kernel
theorem dX0_sift_31 : decode cX0_sift 31 = .ok (.getfield 9, 3) := by decide +kernel
theorem dX0_sift_34 : decode cX0_sift 34 = .ok (.iload 4, 2) := by decide +kernel
theorem dX0_sift_36 : decode cX0_sift 36 = .ok (.aload_n 0, 1) := by decide +kernel
theorem dX0_sift_37 : decode cX0_sift 37 = .ok (.iload_n 1, 1) := by decide +kernel
theorem dX0_sift_38 : decode cX0_sift 38 = .ok (.iload_n 2, 1) := by decide +kernel
theorem dX0_sift_39 : decode cX0_sift 39 = .ok (.iload 4, 2) := by decide +kernel
theorem dX0_sift_41 : decode cX0_sift 41 = .ok (.invokevirtual 70, 3) := by decide +kernel
theorem dX0_sift_44 : decode cX0_sift 44 = .ok (.bastore, 1) := by decide +kernel
theorem dX0_sift_45 : decode cX0_sift 45 = .ok (.iinc 4 1, 3) := by decide +kernel
theorem dX0_sift_48 : decode cX0_sift 48 = .ok (.goto (-45), 3) := by decide +kernel
theorem dX0_sift_51 : decode cX0_sift 51 = .ok (.return_, 1) := by decide +kernel
theorem dX0_seenAlike_0 : decode cX0_seenAlike 0 = .ok (.aload_n 0, 1) := by decide +kernel
theorem dX0_seenAlike_1 : decode cX0_seenAlike 1 = .ok (.getfield 24, 3) := by decide +kernel
theorem dX0_seenAlike_4 : decode cX0_seenAlike 4 = .ok (.aload_n 0, 1) := by decide +kernel
theorem dX0_seenAlike_5 : decode cX0_seenAlike 5 = .ok (.getfield 17, 3) := by decide +kernel
theorem dX0_seenAlike_8 : decode cX0_seenAlike 8 = .ok (.iconst 0, 1) := by decide +kernel
theorem dX0_seenAlike_9 : decode cX0_seenAlike 9 = .ok (.aaload, 1) := by decide +kernel
theorem dX0_seenAlike_10 : decode cX0_seenAlike 10 = .ok (.iload_n 2, 1) := by decide +kernel
theorem dX0_seenAlike_11 : decode cX0_seenAlike 11 = .ok (.iload_n 3, 1) := by decide +kernel
theorem dX0_seenAlike_12 : decode cX0_seenAlike 12 = .ok (.invokevirtual 74, 3) := by decide +kernel
theorem dX0_seenAlike_15 : decode cX0_seenAlike 15 = .ok (.iconst 1, 1) := by decide +kernel
theorem dX0_seenAlike_16 : decode cX0_seenAlike 16 = .ok (.istore 4, 2) := by decide +kernel
theorem dX0_seenAlike_18 : decode cX0_seenAlike 18 = .ok (.iload 4, 2) := by decide +kernel
theorem dX0_seenAlike_20 : decode cX0_seenAlike 20 = .ok (.iload_n 1, 1) := by decide +kernel
theorem dX0_seenAlike_21 : decode cX0_seenAlike 21 = .ok (.if_icmp .ge 42, 3) := by decide +kernel
theorem dX0_seenAlike_24 : decode cX0_seenAlike 24 = .ok (.aload_n 0, 1) := by decide +kernel
theorem dX0_seenAlike_25 : decode cX0_seenAlike 25 = .ok (.getfield 28, 3) := by decide +kernel
theorem dX0_seenAlike_28 : decode cX0_seenAlike 28 = .ok (.aload_n 0, 1) := by decide +kernel
theorem dX0_seenAlike_29 : decode cX0_seenAlike 29 = .ok (.getfield 17, 3) := by decide +kernel
theorem dX0_seenAlike_32 : decode cX0_seenAlike 32 = .ok (.iload 4, 2) := by decide +kernel
theorem dX0_seenAlike_34 : decode cX0_seenAlike 34 = .ok (.aaload, 1) := by decide +kernel
theorem dX0_seenAlike_35 : decode cX0_seenAlike 35 = .ok (.iload_n 2, 1) := by decide +kernel
theorem dX0_seenAlike_36 : decode cX0_seenAlike 36 = .ok (.iload_n 3, 1) := by decide +kernel
theorem dX0_seenAlike_37 : decode cX0_seenAlike 37 = .ok (.invokevirtual 74, 3) := by decide +kernel
theorem dX0_seenAlike_40 : decode cX0_seenAlike 40 = .ok (.aload_n 0, 1) := by decide +kernel
theorem dX0_seenAlike_41 : decode cX0_seenAlike 41 = .ok (.getfield 24, 3) := by decide +kernel
theorem dX0_seenAlike_44 : decode cX0_seenAlike 44 = .ok (.aload_n 0, 1) := by decide +kernel
theorem dX0_seenAlike_45 : decode cX0_seenAlike 45 = .ok (.getfield 28, 3) := by decide +kernel
theorem dX0_seenAlike_48 : decode cX0_seenAlike 48 = .ok (.invokevirtual 78, 3) := by decide +kernel
theorem dX0_seenAlike_51 : decode cX0_seenAlike 51 = .ok (.iconst (-1), 1) := by decide +kernel
theorem dX0_seenAlike_52 : decode cX0_seenAlike 52 = .ok (.if_icmp .eq 5, 3) := by decide +kernel
theorem dX0_seenAlike_55 : decode cX0_seenAlike 55 = .ok (.iconst 0, 1) := by decide +kernel
theorem dX0_seenAlike_56 : decode cX0_seenAlike 56 = .ok (.ireturn, 1) := by decide +kernel
theorem dX0_seenAlike_57 : decode cX0_seenAlike 57 = .ok (.iinc 4 1, 3) := by decide +kernel
theorem dX0_seenAlike_60 : decode cX0_seenAlike 60 = .ok (.goto (-42), 3) := by decide +kernel
theorem dX0_seenAlike_63 : decode cX0_seenAlike 63 = .ok (.iconst 1, 1) := by decide +kernel
theorem dX0_seenAlike_64 : decode cX0_seenAlike 64 = .ok (.ireturn, 1) := by decide +kernel
theorem dX0_cheapest_0 : decode cX0_cheapest 0 = .ok (.iconst 1, 1) := by decide +kernel
theorem dX0_cheapest_1 : decode cX0_cheapest 1 = .ok (.aload_n 1, 1) := by decide +kernel
theorem dX0_cheapest_2 : decode cX0_cheapest 2 = .ok (.getfield 82, 3) := by decide +kernel
theorem dX0_cheapest_5 : decode cX0_cheapest 5 = .ok (.ishl, 1) := by decide +kernel
theorem dX0_cheapest_6 : decode cX0_cheapest 6 = .ok (.istore_n 2, 1) := by decide +kernel
theorem dX0_cheapest_7 : decode cX0_cheapest 7 = .ok (.iconst (-1), 1) := by decide +kernel
theorem dX0_cheapest_8 : decode cX0_cheapest 8 = .ok (.istore_n 3, 1) := by decide +kernel
theorem dX0_cheapest_9 : decode cX0_cheapest 9 = .ok (.iconst 0, 1) := by decide +kernel
theorem dX0_cheapest_10 : decode cX0_cheapest 10 = .ok (.istore 4, 2) := by decide +kernel
theorem dX0_cheapest_12 : decode cX0_cheapest 12 = .ok (.iload 4, 2) := by decide +kernel
theorem dX0_cheapest_14 : decode cX0_cheapest 14 = .ok (.iload_n 2, 1) := by decide +kernel
theorem dX0_cheapest_15 : decode cX0_cheapest 15 = .ok (.if_icmp .ge 37, 3) := by decide +kernel
theorem dX0_cheapest_18 : decode cX0_cheapest 18 = .ok (.aload_n 0, 1) := by decide +kernel
theorem dX0_cheapest_19 : decode cX0_cheapest 19 = .ok (.getfield 9, 3) := by decide +kernel
theorem dX0_cheapest_22 : decode cX0_cheapest 22 = .ok (.iload 4, 2) := by decide +kernel
theorem dX0_cheapest_24 : decode cX0_cheapest 24 = .ok (.baload, 1) := by decide +kernel
theorem dX0_cheapest_25 : decode cX0_cheapest 25 = .ok (.ifCond .eq 21, 3) := by decide +kernel
theorem dX0_cheapest_28 : decode cX0_cheapest 28 = .ok (.iload_n 3, 1) := by decide +kernel
theorem dX0_cheapest_29 : decode cX0_cheapest 29 = .ok (.iconst (-1), 1) := by decide +kernel
theorem dX0_cheapest_30 : decode cX0_cheapest 30 = .ok (.if_icmp .eq 13, 3) := by decide +kernel
theorem dX0_cheapest_33 : decode cX0_cheapest 33 = .ok (.aload_n 1, 1) := by decide +kernel
theorem dX0_cheapest_34 : decode cX0_cheapest 34 = .ok (.iload 4, 2) := by decide +kernel
theorem dX0_cheapest_36 : decode cX0_cheapest 36 = .ok (.iload_n 3, 1) := by decide +kernel
theorem dX0_cheapest_37 : decode cX0_cheapest 37 = .ok (.invokestatic 85, 3) := by decide +kernel
theorem dX0_cheapest_40 : decode cX0_cheapest 40 = .ok (.ifCond .eq 6, 3) := by decide +kernel
theorem dX0_cheapest_43 : decode cX0_cheapest 43 = .ok (.iload 4, 2) := by decide +kernel
theorem dX0_cheapest_45 : decode cX0_cheapest 45 = .ok (.istore_n 3, 1) := by decide +kernel
theorem dX0_cheapest_46 : decode cX0_cheapest 46 = .ok (.iinc 4 1, 3) := by decide +kernel
theorem dX0_cheapest_49 : decode cX0_cheapest 49 = .ok (.goto (-37), 3) := by decide +kernel
theorem dX0_cheapest_52 : decode cX0_cheapest 52 = .ok (.iload_n 3, 1) := by decide +kernel
theorem dX0_cheapest_53 : decode cX0_cheapest 53 = .ok (.ireturn, 1) := by decide +kernel
theorem dX0_isBetter_0 : decode cX0_isBetter 0 = .ok (.aload_n 0, 1) := by decide +kernel
theorem dX0_isBetter_1 : decode cX0_isBetter 1 = .ok (.iload_n 1, 1) := by decide +kernel
theorem dX0_isBetter_2 : decode cX0_isBetter 2 = .ok (.invokevirtual 89, 3) := by decide +kernel
theorem dX0_isBetter_5 : decode cX0_isBetter 5 = .ok (.istore_n 3, 1) := by decide +kernel
theorem dX0_isBetter_6 : decode cX0_isBetter 6 = .ok (.aload_n 0, 1) := by decide +kernel
theorem dX0_isBetter_7 : decode cX0_isBetter 7 = .ok (.iload_n 2, 1) := by decide +kernel
theorem dX0_isBetter_8 : decode cX0_isBetter 8 = .ok (.invokevirtual 89, 3) := by decide +kernel
theorem dX0_isBetter_11 : decode cX0_isBetter 11 = .ok (.istore 4, 2) := by decide +kernel
theorem dX0_isBetter_13 : decode cX0_isBetter 13 = .ok (.iload_n 3, 1) := by decide +kernel
theorem dX0_isBetter_14 : decode cX0_isBetter 14 = .ok (.iload 4, 2) := by decide +kernel
theorem dX0_isBetter_16 : decode cX0_isBetter 16 = .ok (.if_icmp .eq 15, 3) := by decide +kernel
theorem dX0_isBetter_19 : decode cX0_isBetter 19 = .ok (.iload_n 3, 1) := by decide +kernel
theorem dX0_isBetter_20 : decode cX0_isBetter 20 = .ok (.iload 4, 2) := by decide +kernel
theorem dX0_isBetter_22 : decode cX0_isBetter 22 = .ok (.if_icmp .ge 7, 3) := by decide +kernel
theorem dX0_isBetter_25 : decode cX0_isBetter 25 = .ok (.iconst 1, 1) := by decide +kernel
theorem dX0_isBetter_26 : decode cX0_isBetter 26 = .ok (.goto 4, 3) := by decide +kernel
theorem dX0_isBetter_29 : decode cX0_isBetter 29 = .ok (.iconst 0, 1) := by decide +kernel
theorem dX0_isBetter_30 : decode cX0_isBetter 30 = .ok (.ireturn, 1) := by decide +kernel
theorem dX0_isBetter_31 : decode cX0_isBetter 31 = .ok (.iload_n 1, 1) := by decide +kernel
theorem dX0_isBetter_32 : decode cX0_isBetter 32 = .ok (.invokestatic 92, 3) := by decide +kernel
theorem dX0_isBetter_35 : decode cX0_isBetter 35 = .ok (.iload_n 2, 1) := by decide +kernel
theorem dX0_isBetter_36 : decode cX0_isBetter 36 = .ok (.invokestatic 92, 3) := by decide +kernel
theorem dX0_isBetter_39 : decode cX0_isBetter 39 = .ok (.if_icmp .ge 7, 3) := by decide +kernel
theorem dX0_isBetter_42 : decode cX0_isBetter 42 = .ok (.iconst 1, 1) := by decide +kernel
theorem dX0_isBetter_43 : decode cX0_isBetter 43 = .ok (.goto 4, 3) := by decide +kernel
theorem dX0_isBetter_46 : decode cX0_isBetter 46 = .ok (.iconst 0, 1) := by decide +kernel
theorem dX0_isBetter_47 : decode cX0_isBetter 47 = .ok (.ireturn, 1) := by decide +kernel
theorem dX0_howMany_0 : decode cX0_howMany 0 = .ok (.iconst 1, 1) := by decide +kernel
theorem dX0_howMany_1 : decode cX0_howMany 1 = .ok (.aload_n 1, 1) := by decide +kernel
theorem dX0_howMany_2 : decode cX0_howMany 2 = .ok (.getfield 82, 3) := by decide +kernel
theorem dX0_howMany_5 : decode cX0_howMany 5 = .ok (.ishl, 1) := by decide +kernel
theorem dX0_howMany_6 : decode cX0_howMany 6 = .ok (.istore_n 2, 1) := by decide +kernel
theorem dX0_howMany_7 : decode cX0_howMany 7 = .ok (.iconst 0, 1) := by decide +kernel
theorem dX0_howMany_8 : decode cX0_howMany 8 = .ok (.istore_n 3, 1) := by decide +kernel
theorem dX0_howMany_9 : decode cX0_howMany 9 = .ok (.iconst 0, 1) := by decide +kernel
theorem dX0_howMany_10 : decode cX0_howMany 10 = .ok (.istore 4, 2) := by decide +kernel
theorem dX0_howMany_12 : decode cX0_howMany 12 = .ok (.iload 4, 2) := by decide +kernel
theorem dX0_howMany_14 : decode cX0_howMany 14 = .ok (.iload_n 2, 1) := by decide +kernel
theorem dX0_howMany_15 : decode cX0_howMany 15 = .ok (.if_icmp .ge 22, 3) := by decide +kernel
theorem dX0_howMany_18 : decode cX0_howMany 18 = .ok (.aload_n 0, 1) := by decide +kernel
theorem dX0_howMany_19 : decode cX0_howMany 19 = .ok (.getfield 9, 3) := by decide +kernel
theorem dX0_howMany_22 : decode cX0_howMany 22 = .ok (.iload 4, 2) := by decide +kernel
theorem dX0_howMany_24 : decode cX0_howMany 24 = .ok (.baload, 1) := by decide +kernel
theorem dX0_howMany_25 : decode cX0_howMany 25 = .ok (.ifCond .eq 6, 3) := by decide +kernel
theorem dX0_howMany_28 : decode cX0_howMany 28 = .ok (.iinc 3 1, 3) := by decide +kernel
theorem dX0_howMany_31 : decode cX0_howMany 31 = .ok (.iinc 4 1, 3) := by decide +kernel
theorem dX0_howMany_34 : decode cX0_howMany 34 = .ok (.goto (-22), 3) := by decide +kernel
theorem dX0_howMany_37 : decode cX0_howMany 37 = .ok (.iload_n 3, 1) := by decide +kernel
theorem dX0_howMany_38 : decode cX0_howMany 38 = .ok (.ireturn, 1) := by decide +kernel
theorem dX1_init_0 : decode cX1_init 0 = .ok (.aload_n 0, 1) := by decide +kernel
theorem dX1_init_1 : decode cX1_init 1 = .ok (.invokespecial 3, 3) := by decide +kernel
theorem dX1_init_4 : decode cX1_init 4 = .ok (.aload_n 0, 1) := by decide +kernel
theorem dX1_init_5 : decode cX1_init 5 = .ok (.iconst 4, 1) := by decide +kernel
theorem dX1_init_6 : decode cX1_init 6 = .ok (.newarray .int, 2) := by decide +kernel
theorem dX1_init_8 : decode cX1_init 8 = .ok (.putfield 9, 3) := by decide +kernel
theorem dX1_init_11 : decode cX1_init 11 = .ok (.aload_n 0, 1) := by decide +kernel
theorem dX1_init_12 : decode cX1_init 12 = .ok (.bipush 8, 2) := by decide +kernel
theorem dX1_init_14 : decode cX1_init 14 = .ok (.newarray .int, 2) := by decide +kernel
theorem dX1_init_16 : decode cX1_init 16 = .ok (.putfield 15, 3) := by decide +kernel
theorem dX1_init_19 : decode cX1_init 19 = .ok (.aload_n 0, 1) := by decide +kernel
theorem dX1_init_20 : decode cX1_init 20 = .ok (.iconst 0, 1) := by decide +kernel
theorem dX1_init_21 : decode cX1_init 21 = .ok (.putfield 18, 3) := by decide +kernel
theorem dX1_init_24 : decode cX1_init 24 = .ok (.return_, 1) := by decide +kernel
theorem dX1_go_0 : decode cX1_go 0 = .ok (.aload_n 0, 1) := by decide +kernel
theorem dX1_go_1 : decode cX1_go 1 = .ok (.aload_n 1, 1) := by decide +kernel
theorem dX1_go_2 : decode cX1_go 2 = .ok (.iload_n 3, 1) := by decide +kernel
theorem dX1_go_3 : decode cX1_go 3 = .ok (.iload 4, 2) := by decide +kernel
theorem dX1_go_5 : decode cX1_go 5 = .ok (.invokevirtual 22, 3) := by decide +kernel
theorem dX1_go_8 : decode cX1_go 8 = .ok (.aload 5, 2) := by decide +kernel
theorem dX1_go_10 : decode cX1_go 10 = .ok (.invokevirtual 26, 3) := by decide +kernel
theorem dX1_go_13 : decode cX1_go 13 = .ok (.iconst 0, 1) := by decide +kernel
theorem dX1_go_14 : decode cX1_go 14 = .ok (.istore 6, 2) := by decide +kernel
theorem dX1_go_16 : decode cX1_go 16 = .ok (.iload 6, 2) := by decide +kernel
theorem dX1_go_18 : decode cX1_go 18 = .ok (.bipush 40, 2) := by decide +kernel
theorem dX1_go_20 : decode cX1_go 20 = .ok (.if_icmp .ge 63, 3) := by decide +kernel
theorem dX1_go_23 : decode cX1_go 23 = .ok (.aload_n 1, 1) := by decide +kernel
theorem dX1_go_24 : decode cX1_go 24 = .ok (.aload_n 0, 1) := by decide +kernel
theorem dX1_go_25 : decode cX1_go 25 = .ok (.getfield 18, 3) := by decide +kernel
theorem dX1_go_28 : decode cX1_go 28 = .ok (.invokevirtual 30, 3) := by decide +kernel
theorem dX1_go_31 : decode cX1_go 31 = .ok (.ifCond .eq 52, 3) := by decide +kernel
theorem dX1_go_34 : decode cX1_go 34 = .ok (.aload 5, 2) := by decide +kernel
theorem dX1_go_36 : decode cX1_go 36 = .ok (.dup, 1) := by decide +kernel
theorem dX1_go_37 : decode cX1_go 37 = .ok (.getfield 36, 3) := by decide +kernel
theorem dX1_go_40 : decode cX1_go 40 = .ok (.iconst 1, 1) := by decide +kernel
theorem dX1_go_41 : decode cX1_go 41 = .ok (.aload_n 0, 1) := by decide +kernel
theorem dX1_go_42 : decode cX1_go 42 = .ok (.getfield 18, 3) := by decide +kernel
theorem dX1_go_45 : decode cX1_go 45 = .ok (.ishl, 1) := by decide +kernel
theorem dX1_go_46 : decode cX1_go 46 = .ok (.ior, 1) := by decide +kernel
theorem dX1_go_47 : decode cX1_go 47 = .ok (.putfield 36, 3) := by decide +kernel
theorem dX1_go_50 : decode cX1_go 50 = .ok (.aload 5, 2) := by decide +kernel
theorem dX1_go_52 : decode cX1_go 52 = .ok (.dup, 1) := by decide +kernel
theorem dX1_go_53 : decode cX1_go 53 = .ok (.getfield 39, 3) := by decide +kernel
theorem dX1_go_56 : decode cX1_go 56 = .ok (.iconst 1, 1) := by decide +kernel
theorem dX1_go_57 : decode cX1_go 57 = .ok (.iadd, 1) := by decide +kernel
theorem dX1_go_58 : decode cX1_go 58 = .ok (.putfield 39, 3) := by decide +kernel
theorem dX1_go_61 : decode cX1_go 61 = .ok (.aload_n 0, 1) := by decide +kernel
theorem dX1_go_62 : decode cX1_go 62 = .ok (.aload_n 1, 1) := by decide +kernel
theorem dX1_go_63 : decode cX1_go 63 = .ok (.getfield 42, 3) := by decide +kernel
theorem dX1_go_66 : decode cX1_go 66 = .ok (.aload_n 0, 1) := by decide +kernel
theorem dX1_go_67 : decode cX1_go 67 = .ok (.getfield 18, 3) := by decide +kernel
theorem dX1_go_70 : decode cX1_go 70 = .ok (.iaload, 1) := by decide +kernel
theorem dX1_go_71 : decode cX1_go 71 = .ok (.aload_n 2, 1) := by decide +kernel
theorem dX1_go_72 : decode cX1_go 72 = .ok (.aload 5, 2) := by decide +kernel
theorem dX1_go_74 : decode cX1_go 74 = .ok (.invokevirtual 45, 3) := by decide +kernel
theorem dX1_go_77 : decode cX1_go 77 = .ok (.iinc 6 1, 3) := by decide +kernel
theorem dX1_go_80 : decode cX1_go 80 = .ok (.goto (-64), 3) := by decide +kernel
theorem dX1_go_83 : decode cX1_go 83 = .ok (.aload 5, 2) := by decide +kernel
theorem dX1_go_85 : decode cX1_go 85 = .ok (.aload_n 1, 1) := by decide +kernel
theorem dX1_go_86 : decode cX1_go 86 = .ok (.aload_n 0, 1) := by decide +kernel
theorem dX1_go_87 : decode cX1_go 87 = .ok (.getfield 18, 3) := by decide +kernel
theorem dX1_go_90 : decode cX1_go 90 = .ok (.invokevirtual 30, 3) := by decide +kernel
theorem dX1_go_93 : decode cX1_go 93 = .ok (.putfield 49, 3) := by decide +kernel
theorem dX1_go_96 : decode cX1_go 96 = .ok (.aload 5, 2) := by decide +kernel
theorem dX1_go_98 : decode cX1_go 98 = .ok (.getfield 49, 3) := by decide +kernel
theorem dX1_go_101 : decode cX1_go 101 = .ok (.ifCond .eq 19, 3) := by decide +kernel
theorem dX1_go_104 : decode cX1_go 104 = .ok (.aload 5, 2) := by decide +kernel
theorem dX1_go_106 : decode cX1_go 106 = .ok (.dup, 1) := by decide +kernel
theorem dX1_go_107 : decode cX1_go 107 = .ok (.getfield 36, 3) := by decide +kernel
theorem dX1_go_110 : decode cX1_go 110 = .ok (.iconst 1, 1) := by decide +kernel
theorem dX1_go_111 : decode cX1_go 111 = .ok (.aload_n 0, 1) := by decide +kernel
theorem dX1_go_112 : decode cX1_go 112 = .ok (.getfield 18, 3) := by decide +kernel
theorem dX1_go_115 : decode cX1_go 115 = .ok (.ishl, 1) := by decide +kernel
theorem dX1_go_116 : decode cX1_go 116 = .ok (.ior, 1) := by decide +kernel
theorem dX1_go_117 : decode cX1_go 117 = .ok (.putfield 36, 3) := by decide +kernel
theorem dX1_go_120 : decode cX1_go 120 = .ok (.aload 5, 2) := by decide +kernel
theorem dX1_go_122 : decode cX1_go 122 = .ok (.aload_n 0, 1) := by decide +kernel
theorem dX1_go_123 : decode cX1_go 123 = .ok (.getfield 9, 3) := by decide +kernel
theorem dX1_go_126 : decode cX1_go 126 = .ok (.iconst 0, 1) := by decide +kernel
theorem dX1_go_127 : decode cX1_go 127 = .ok (.iaload, 1) := by decide +kernel
theorem dX1_go_128 : decode cX1_go 128 = .ok (.putfield 53, 3) := by decide +kernel
theorem dX1_go_131 : decode cX1_go 131 = .ok (.return_, 1) := by decide +kernel
theorem dX1_begin_0 : decode cX1_begin 0 = .ok (.aload_n 0, 1) := by decide +kernel
theorem dX1_begin_1 : decode cX1_begin 1 = .ok (.iconst 0, 1) := by decide +kernel
theorem dX1_begin_2 : decode cX1_begin 2 = .ok (.putfield 18, 3) := by decide +kernel
theorem dX1_begin_5 : decode cX1_begin 5 = .ok (.aload_n 0, 1) := by decide +kernel
theorem dX1_begin_6 : decode cX1_begin 6 = .ok (.getfield 9, 3) := by decide +kernel
theorem dX1_begin_9 : decode cX1_begin 9 = .ok (.iconst 0, 1) := by decide +kernel
theorem dX1_begin_10 : decode cX1_begin 10 = .ok (.iload_n 2, 1) := by decide +kernel
theorem dX1_begin_11 : decode cX1_begin 11 = .ok (.iconst 3, 1) := by decide +kernel
theorem dX1_begin_12 : decode cX1_begin 12 = .ok (.iand, 1) := by decide +kernel
theorem dX1_begin_13 : decode cX1_begin 13 = .ok (.iastore, 1) := by decide +kernel
theorem dX1_begin_14 : decode cX1_begin 14 = .ok (.aload_n 0, 1) := by decide +kernel
theorem dX1_begin_15 : decode cX1_begin 15 = .ok (.getfield 9, 3) := by decide +kernel
theorem dX1_begin_18 : decode cX1_begin 18 = .ok (.iconst 1, 1) := by decide +kernel
theorem dX1_begin_19 : decode cX1_begin 19 = .ok (.iload_n 2, 1) := by decide +kernel
theorem dX1_begin_20 : decode cX1_begin 20 = .ok (.iconst 2, 1) := by decide +kernel
theorem dX1_begin_21 : decode cX1_begin 21 = .ok (.ishr, 1) := by decide +kernel
theorem dX1_begin_22 : decode cX1_begin 22 = .ok (.iconst 3, 1) := by decide +kernel
theorem dX1_begin_23 : decode cX1_begin 23 = .ok (.iand, 1) := by decide +kernel
theorem dX1_begin_24 : decode cX1_begin 24 = .ok (.iastore, 1) := by decide +kernel
theorem dX1_begin_25 : decode cX1_begin 25 = .ok (.aload_n 0, 1) := by decide +kernel
theorem dX1_begin_26 : decode cX1_begin 26 = .ok (.getfield 9, 3) := by decide +kernel
theorem dX1_begin_29 : decode cX1_begin 29 = .ok (.iconst 2, 1) := by decide +kernel
theorem dX1_begin_30 : decode cX1_begin 30 = .ok (.iload_n 3, 1) := by decide +kernel
theorem dX1_begin_31 : decode cX1_begin 31 = .ok (.iconst 3, 1) := by decide +kernel
theorem dX1_begin_32 : decode cX1_begin 32 = .ok (.iand, 1) := by decide +kernel
theorem dX1_begin_33 : decode cX1_begin 33 = .ok (.iastore, 1) := by decide +kernel
theorem dX1_begin_34 : decode cX1_begin 34 = .ok (.aload_n 0, 1) := by decide +kernel
theorem dX1_begin_35 : decode cX1_begin 35 = .ok (.getfield 9, 3) := by decide +kernel
theorem dX1_begin_38 : decode cX1_begin 38 = .ok (.iconst 3, 1) := by decide +kernel
theorem dX1_begin_39 : decode cX1_begin 39 = .ok (.iload_n 3, 1) := by decide +kernel
theorem dX1_begin_40 : decode cX1_begin 40 = .ok (.iconst 2, 1) := by decide +kernel
theorem dX1_begin_41 : decode cX1_begin 41 = .ok (.ishr, 1) := by decide +kernel
theorem dX1_begin_42 : decode cX1_begin 42 = .ok (.iconst 3, 1) := by decide +kernel
theorem dX1_begin_43 : decode cX1_begin 43 = .ok (.iand, 1) := by decide +kernel
theorem dX1_begin_44 : decode cX1_begin 44 = .ok (.iastore, 1) := by decide +kernel
theorem dX1_begin_45 : decode cX1_begin 45 = .ok (.iconst 0, 1) := by decide +kernel
theorem dX1_begin_46 : decode cX1_begin 46 = .ok (.istore 4, 2) := by decide +kernel
theorem dX1_begin_48 : decode cX1_begin 48 = .ok (.iload 4, 2) := by decide +kernel
theorem dX1_begin_50 : decode cX1_begin 50 = .ok (.bipush 8, 2) := by decide +kernel
theorem dX1_begin_52 : decode cX1_begin 52 = .ok (.if_icmp .ge 23, 3) := by decide +kernel
theorem dX1_begin_55 : decode cX1_begin 55 = .ok (.aload_n 0, 1) := by decide +kernel
theorem dX1_begin_56 : decode cX1_begin 56 = .ok (.getfield 15, 3) := by decide +kernel
theorem dX1_begin_59 : decode cX1_begin 59 = .ok (.iload 4, 2) := by decide +kernel
theorem dX1_begin_61 : decode cX1_begin 61 = .ok (.aload_n 1, 1) := by decide +kernel
theorem dX1_begin_62 : decode cX1_begin 62 = .ok (.getfield 56, 3) := by decide +kernel
theorem dX1_begin_65 : decode cX1_begin 65 = .ok (.iload 4, 2) := by decide +kernel
theorem dX1_begin_67 : decode cX1_begin 67 = .ok (.iaload, 1) := by decide +kernel
theorem dX1_begin_68 : decode cX1_begin 68 = .ok (.iastore, 1) := by decide +kernel
theorem dX1_begin_69 : decode cX1_begin 69 = .ok (.iinc 4 1, 3) := by decide +kernel
theorem dX1_begin_72 : decode cX1_begin 72 = .ok (.goto (-24), 3) := by decide +kernel
theorem dX1_begin_75 : decode cX1_begin 75 = .ok (.return_, 1) := by decide +kernel
theorem dX1_doOrder_0 : decode cX1_doOrder 0 = .ok (.aload_n 0, 1) := by decide +kernel
theorem dX1_doOrder_1 : decode cX1_doOrder 1 = .ok (.getfield 18, 3) := by decide +kernel
theorem dX1_doOrder_4 : decode cX1_doOrder 4 = .ok (.istore 4, 2) := by decide +kernel
theorem dX1_doOrder_6 : decode cX1_doOrder 6 = .ok (.iload_n 1, 1) := by decide +kernel
theorem dX1_doOrder_7 : decode cX1_doOrder 7 = .ok (.bipush 12, 2) := by decide +kernel
theorem dX1_doOrder_9 : decode cX1_doOrder 9 = .ok (.ishr, 1) := by decide +kernel
theorem dX1_doOrder_10 : decode cX1_doOrder 10 = .ok (.istore 5, 2) := by decide +kernel
theorem dX1_doOrder_12 : decode cX1_doOrder 12 = .ok (.iload_n 1, 1) := by decide +kernel
theorem dX1_doOrder_13 : decode cX1_doOrder 13 = .ok (.bipush 8, 2) := by decide +kernel
theorem dX1_doOrder_15 : decode cX1_doOrder 15 = .ok (.ishr, 1) := by decide +kernel
theorem dX1_doOrder_16 : decode cX1_doOrder 16 = .ok (.iconst 3, 1) := by decide +kernel
theorem dX1_doOrder_17 : decode cX1_doOrder 17 = .ok (.iand, 1) := by decide +kernel
theorem dX1_doOrder_18 : decode cX1_doOrder 18 = .ok (.istore 6, 2) := by decide +kernel
theorem dX1_doOrder_20 : decode cX1_doOrder 20 = .ok (.aload_n 0, 1) := by decide +kernel
theorem dX1_doOrder_21 : decode cX1_doOrder 21 = .ok (.getfield 9, 3) := by decide +kernel
theorem dX1_doOrder_24 : decode cX1_doOrder 24 = .ok (.iload_n 1, 1) := by decide +kernel
theorem dX1_doOrder_25 : decode cX1_doOrder 25 = .ok (.iconst 4, 1) := by decide +kernel
theorem dX1_doOrder_26 : decode cX1_doOrder 26 = .ok (.ishr, 1) := by decide +kernel
theorem dX1_doOrder_27 : decode cX1_doOrder 27 = .ok (.iconst 3, 1) := by decide +kernel
theorem dX1_doOrder_28 : decode cX1_doOrder 28 = .ok (.iand, 1) := by decide +kernel
theorem dX1_doOrder_29 : decode cX1_doOrder 29 = .ok (.iaload, 1) := by decide +kernel
theorem dX1_doOrder_30 : decode cX1_doOrder 30 = .ok (.istore 7, 2) := by decide +kernel
theorem dX1_doOrder_32 : decode cX1_doOrder 32 = .ok (.iload_n 1, 1) := by decide +kernel
theorem dX1_doOrder_33 : decode cX1_doOrder 33 = .ok (.bipush 15, 2) := by decide +kernel
theorem dX1_doOrder_35 : decode cX1_doOrder 35 = .ok (.iand, 1) := by decide +kernel
theorem dX1_doOrder_36 : decode cX1_doOrder 36 = .ok (.istore 8, 2) := by decide +kernel
theorem dX1_doOrder_38 : decode cX1_doOrder 38 = .ok (.iload 5, 2) := by decide +kernel
theorem dX1_doOrder_40 : decode cX1_doOrder 40 = .ok (.iconst 4, 1) := by decide +kernel
theorem dX1_doOrder_41 : decode cX1_doOrder 41 = .ok (.if_icmp .ne 7, 3) := by decide +kernel
theorem dX1_doOrder_44 : decode cX1_doOrder 44 = .ok (.iconst 1, 1) := by decide +kernel
theorem dX1_doOrder_45 : decode cX1_doOrder 45 = .ok (.goto 4, 3) := by decide +kernel
theorem dX1_doOrder_48 : decode cX1_doOrder 48 = .ok (.iconst 0, 1) := by decide +kernel
theorem dX1_doOrder_49 : decode cX1_doOrder 49 = .ok (.istore 9, 2) := by decide +kernel
theorem dX1_doOrder_51 : decode cX1_doOrder 51 = .ok (.aload_n 3, 1) := by decide +kernel
theorem dX1_doOrder_52 : decode cX1_doOrder 52 = .ok (.getfield 59, 3) := by decide +kernel
theorem dX1_doOrder_55 : decode cX1_doOrder 55 = .ok (.iload 4, 2) := by decide +kernel
theorem dX1_doOrder_57 : decode cX1_doOrder 57 = .ok (.dup2, 1) := by decide +kernel
theorem dX1_doOrder_58 : decode cX1_doOrder 58 = .ok (.iaload, 1) := by decide +kernel
theorem dX1_doOrder_59 : decode cX1_doOrder 59 = .ok (.iload 9, 2) := by decide +kernel
theorem dX1_doOrder_61 : decode cX1_doOrder 61 = .ok (.ifCond .eq 13, 3) := by decide +kernel
theorem dX1_doOrder_64 : decode cX1_doOrder 64 = .ok (.iconst 1, 1) := by decide +kernel
theorem dX1_doOrder_65 : decode cX1_doOrder 65 = .ok (.iload 7, 2) := by decide +kernel
theorem dX1_doOrder_67 : decode cX1_doOrder 67 = .ok (.invokestatic 62, 3) := by decide +kernel
theorem dX1_doOrder_70 : decode cX1_doOrder 70 = .ok (.iadd, 1) := by decide +kernel
theorem dX1_doOrder_71 : decode cX1_doOrder 71 = .ok (.goto 4, 3) := by decide +kernel
theorem dX1_doOrder_74 : decode cX1_doOrder 74 = .ok (.iconst 1, 1) := by decide +kernel
theorem dX1_doOrder_75 : decode cX1_doOrder 75 = .ok (.iadd, 1) := by decide +kernel
theorem dX1_doOrder_76 : decode cX1_doOrder 76 = .ok (.iastore, 1) := by decide +kernel
theorem dX1_doOrder_77 : decode cX1_doOrder 77 = .ok (.aload_n 3, 1) := by decide +kernel
theorem dX1_doOrder_78 : decode cX1_doOrder 78 = .ok (.getfield 66, 3) := by decide +kernel
theorem dX1_doOrder_81 : decode cX1_doOrder 81 = .ok (.iload 4, 2) := by decide +kernel
theorem dX1_doOrder_83 : decode cX1_doOrder 83 = .ok (.dup2, 1) := by decide +kernel
theorem dX1_doOrder_84 : decode cX1_doOrder 84 = .ok (.iaload, 1) := by decide +kernel
theorem dX1_doOrder_85 : decode cX1_doOrder 85 = .ok (.iload 9, 2) := by decide +kernel
theorem dX1_doOrder_87 : decode cX1_doOrder 87 = .ok (.ifCond .eq 8, 3) := by decide +kernel
theorem dX1_doOrder_90 : decode cX1_doOrder 90 = .ok (.bipush 33, 2) := by decide +kernel
theorem dX1_doOrder_92 : decode cX1_doOrder 92 = .ok (.goto 4, 3) := by decide +kernel
theorem dX1_doOrder_95 : decode cX1_doOrder 95 = .ok (.iconst 1, 1) := by decide +kernel
theorem dX1_doOrder_96 : decode cX1_doOrder 96 = .ok (.iadd, 1) := by decide +kernel
theorem dX1_doOrder_97 : decode cX1_doOrder 97 = .ok (.iastore, 1) := by decide +kernel
theorem dX1_doOrder_98 : decode cX1_doOrder 98 = .ok (.aload_n 0, 1) := by decide +kernel
theorem dX1_doOrder_99 : decode cX1_doOrder 99 = .ok (.iload 5, 2) := by decide +kernel
theorem dX1_doOrder_101 : decode cX1_doOrder 101 = .ok (.aload_n 0, 1) := by decide +kernel
theorem dX1_doOrder_102 : decode cX1_doOrder 102 = .ok (.getfield 9, 3) := by decide +kernel
theorem dX1_doOrder_105 : decode cX1_doOrder 105 = .ok (.iload 6, 2) := by decide +kernel
theorem dX1_doOrder_107 : decode cX1_doOrder 107 = .ok (.iaload, 1) := by decide +kernel
theorem dX1_doOrder_108 : decode cX1_doOrder 108 = .ok (.iload 7, 2) := by decide +kernel
theorem dX1_doOrder_110 : decode cX1_doOrder 110 = .ok (.aload_n 2, 1) := by decide +kernel
theorem dX1_doOrder_111 : decode cX1_doOrder 111 = .ok (.aload_n 3, 1) := by decide +kernel
theorem dX1_doOrder_112 : decode cX1_doOrder 112 = .ok (.invokevirtual 69, 3) := by decide +kernel
theorem dX1_doOrder_115 : decode cX1_doOrder 115 = .ok (.aload_n 0, 1) := by decide +kernel
theorem dX1_doOrder_116 : decode cX1_doOrder 116 = .ok (.aload_n 0, 1) := by decide +kernel
theorem dX1_doOrder_117 : decode cX1_doOrder 117 = .ok (.iload 5, 2) := by decide +kernel
theorem dX1_doOrder_119 : decode cX1_doOrder 119 = .ok (.aload_n 0, 1) := by decide +kernel
theorem dX1_doOrder_120 : decode cX1_doOrder 120 = .ok (.getfield 9, 3) := by decide +kernel
theorem dX1_doOrder_123 : decode cX1_doOrder 123 = .ok (.iload 6, 2) := by decide +kernel
theorem dX1_doOrder_125 : decode cX1_doOrder 125 = .ok (.iaload, 1) := by decide +kernel
theorem dX1_doOrder_126 : decode cX1_doOrder 126 = .ok (.iload 8, 2) := by decide +kernel
theorem dX1_doOrder_128 : decode cX1_doOrder 128 = .ok (.invokevirtual 73, 3) := by decide +kernel
theorem dX1_doOrder_131 : decode cX1_doOrder 131 = .ok (.putfield 18, 3) := by decide +kernel
theorem dX1_doOrder_134 : decode cX1_doOrder 134 = .ok (.aload_n 0, 1) := by decide +kernel
theorem dX1_doOrder_135 : decode cX1_doOrder 135 = .ok (.iload 5, 2) := by decide +kernel
theorem dX1_doOrder_137 : decode cX1_doOrder 137 = .ok (.iload 6, 2) := by decide +kernel
theorem dX1_doOrder_139 : decode cX1_doOrder 139 = .ok (.iload 7, 2) := by decide +kernel
theorem dX1_doOrder_141 : decode cX1_doOrder 141 = .ok (.iload 8, 2) := by decide +kernel
theorem dX1_doOrder_143 : decode cX1_doOrder 143 = .ok (.invokevirtual 77, 3) := by decide +kernel
theorem dX1_doOrder_146 : decode cX1_doOrder 146 = .ok (.return_, 1) := by decide +kernel
theorem dX1_tellOf_0 : decode cX1_tellOf 0 = .ok (.iload_n 1, 1) := by decide +kernel
theorem dX1_tellOf_1 : decode cX1_tellOf 1 = .ok (.iconst 5, 1) := by decide +kernel
theorem dX1_tellOf_2 : decode cX1_tellOf 2 = .ok (.if_icmp .eq 9, 3) := by decide +kernel
theorem dX1_tellOf_5 : decode cX1_tellOf 5 = .ok (.iload_n 1, 1) := by decide +kernel
theorem dX1_tellOf_6 : decode cX1_tellOf 6 = .ok (.bipush 6, 2) := by decide +kernel
theorem dX1_tellOf_8 : decode cX1_tellOf 8 = .ok (.if_icmp .ne 7, 3) := by decide +kernel
theorem dX1_tellOf_11 : decode cX1_tellOf 11 = .ok (.iconst 1, 1) := by decide +kernel
theorem dX1_tellOf_12 : decode cX1_tellOf 12 = .ok (.goto 4, 3) := by decide +kernel
theorem dX1_tellOf_15 : decode cX1_tellOf 15 = .ok (.iconst 0, 1) := by decide +kernel
theorem dX1_tellOf_16 : decode cX1_tellOf 16 = .ok (.istore 6, 2) := by decide +kernel
theorem dX1_tellOf_18 : decode cX1_tellOf 18 = .ok (.iload 6, 2) := by decide +kernel
theorem dX1_tellOf_20 : decode cX1_tellOf 20 = .ok (.ifCond .eq 41, 3) := by decide +kernel
theorem dX1_tellOf_23 : decode cX1_tellOf 23 = .ok (.aload 4, 2) := by decide +kernel
theorem dX1_tellOf_25 : decode cX1_tellOf 25 = .ok (.getfield 81, 3) := by decide +kernel
theorem dX1_tellOf_28 : decode cX1_tellOf 28 = .ok (.iconst 2, 1) := by decide +kernel
theorem dX1_tellOf_29 : decode cX1_tellOf 29 = .ok (.iand, 1) := by decide +kernel
theorem dX1_tellOf_30 : decode cX1_tellOf 30 = .ok (.ifCond .eq 31, 3) := by decide +kernel
theorem dX1_tellOf_33 : decode cX1_tellOf 33 = .ok (.aload 4, 2) := by decide +kernel
theorem dX1_tellOf_35 : decode cX1_tellOf 35 = .ok (.getfield 86, 3) := by decide +kernel
theorem dX1_tellOf_38 : decode cX1_tellOf 38 = .ok (.ifCond .le 23, 3) := by decide +kernel
theorem dX1_tellOf_41 : decode cX1_tellOf 41 = .ok (.aload 5, 2) := by decide +kernel
theorem dX1_tellOf_43 : decode cX1_tellOf 43 = .ok (.aload_n 0, 1) := by decide +kernel
theorem dX1_tellOf_44 : decode cX1_tellOf 44 = .ok (.getfield 18, 3) := by decide +kernel
theorem dX1_tellOf_47 : decode cX1_tellOf 47 = .ok (.iconst 2, 1) := by decide +kernel
theorem dX1_tellOf_48 : decode cX1_tellOf 48 = .ok (.iload_n 3, 1) := by decide +kernel
theorem dX1_tellOf_49 : decode cX1_tellOf 49 = .ok (.bipush 7, 2) := by decide +kernel
theorem dX1_tellOf_51 : decode cX1_tellOf 51 = .ok (.iand, 1) := by decide +kernel
theorem dX1_tellOf_52 : decode cX1_tellOf 52 = .ok (.aload 4, 2) := by decide +kernel
theorem dX1_tellOf_54 : decode cX1_tellOf 54 = .ok (.getfield 86, 3) := by decide +kernel
theorem dX1_tellOf_57 : decode cX1_tellOf 57 = .ok (.idiv, 1) := by decide +kernel
theorem dX1_tellOf_58 : decode cX1_tellOf 58 = .ok (.invokevirtual 89, 3) := by decide +kernel
theorem dX1_tellOf_61 : decode cX1_tellOf 61 = .ok (.iload_n 1, 1) := by decide +kernel
theorem dX1_tellOf_62 : decode cX1_tellOf 62 = .ok (.bipush 7, 2) := by decide +kernel
theorem dX1_tellOf_64 : decode cX1_tellOf 64 = .ok (.if_icmp .ne 32, 3) := by decide +kernel
theorem dX1_tellOf_67 : decode cX1_tellOf 67 = .ok (.aload 4, 2) := by decide +kernel
theorem dX1_tellOf_69 : decode cX1_tellOf 69 = .ok (.getfield 81, 3) := by decide +kernel
theorem dX1_tellOf_72 : decode cX1_tellOf 72 = .ok (.iconst 4, 1) := by decide +kernel
theorem dX1_tellOf_73 : decode cX1_tellOf 73 = .ok (.iand, 1) := by decide +kernel
theorem dX1_tellOf_74 : decode cX1_tellOf 74 = .ok (.ifCond .eq 22, 3) := by decide +kernel
theorem dX1_tellOf_77 : decode cX1_tellOf 77 = .ok (.aload 5, 2) := by decide +kernel
theorem dX1_tellOf_79 : decode cX1_tellOf 79 = .ok (.aload_n 0, 1) := by decide +kernel
theorem dX1_tellOf_80 : decode cX1_tellOf 80 = .ok (.getfield 18, 3) := by decide +kernel
theorem dX1_tellOf_83 : decode cX1_tellOf 83 = .ok (.iconst 4, 1) := by decide +kernel
theorem dX1_tellOf_84 : decode cX1_tellOf 84 = .ok (.iload_n 2, 1) := by decide +kernel
theorem dX1_tellOf_85 : decode cX1_tellOf 85 = .ok (.ifCond .ne 7, 3) := by decide +kernel
theorem dX1_tellOf_88 : decode cX1_tellOf 88 = .ok (.iconst 1, 1) := by decide +kernel
theorem dX1_tellOf_89 : decode cX1_tellOf 89 = .ok (.goto 4, 3) := by decide +kernel
theorem dX1_tellOf_92 : decode cX1_tellOf 92 = .ok (.iconst 0, 1) := by decide +kernel
theorem dX1_tellOf_93 : decode cX1_tellOf 93 = .ok (.invokevirtual 89, 3) := by decide +kernel
theorem dX1_tellOf_96 : decode cX1_tellOf 96 = .ok (.return_, 1) := by decide +kernel
theorem dX1_next_0 : decode cX1_next 0 = .ok (.iload_n 1, 1) := by decide +kernel
theorem dX1_next_1 : decode cX1_next 1 = .ok (.lookupswitch 54 #[(0, 35), (7, 37), (8, 52)], 35) := by decide +kernel
theorem dX1_next_36 : decode cX1_next 36 = .ok (.iconst (-1), 1) := by decide +kernel
theorem dX1_next_37 : decode cX1_next 37 = .ok (.ireturn, 1) := by decide +kernel
theorem dX1_next_38 : decode cX1_next 38 = .ok (.iload_n 2, 1) := by decide +kernel
theorem dX1_next_39 : decode cX1_next 39 = .ok (.ifCond .ne 7, 3) := by decide +kernel
theorem dX1_next_42 : decode cX1_next 42 = .ok (.iload_n 3, 1) := by decide +kernel
theorem dX1_next_43 : decode cX1_next 43 = .ok (.goto 9, 3) := by decide +kernel
theorem dX1_next_46 : decode cX1_next 46 = .ok (.aload_n 0, 1) := by decide +kernel
theorem dX1_next_47 : decode cX1_next 47 = .ok (.getfield 18, 3) := by decide +kernel
theorem dX1_next_50 : decode cX1_next 50 = .ok (.iconst 1, 1) := by decide +kernel
theorem dX1_next_51 : decode cX1_next 51 = .ok (.iadd, 1) := by decide +kernel
theorem dX1_next_52 : decode cX1_next 52 = .ok (.ireturn, 1) := by decide +kernel
theorem dX1_next_53 : decode cX1_next 53 = .ok (.iload_n 3, 1) := by decide +kernel
theorem dX1_next_54 : decode cX1_next 54 = .ok (.ireturn, 1) := by decide +kernel
theorem dX1_next_55 : decode cX1_next 55 = .ok (.aload_n 0, 1) := by decide +kernel
theorem dX1_next_56 : decode cX1_next 56 = .ok (.getfield 18, 3) := by decide +kernel
theorem dX1_next_59 : decode cX1_next 59 = .ok (.iconst 1, 1) := by decide +kernel
theorem dX1_next_60 : decode cX1_next 60 = .ok (.iadd, 1) := by decide +kernel
theorem dX1_next_61 : decode cX1_next 61 = .ok (.ireturn, 1) := by decide +kernel
theorem dX1_work_0 : decode cX1_work 0 = .ok (.iload_n 1, 1) := by decide +kernel
theorem dX1_work_1 : decode cX1_work 1 = .ok (.tableswitch 159 1 9 #[51, 62, 75, 88, 101, 119, 159, 159, 137], 51) := by decide +kernel
theorem dX1_work_52 : decode cX1_work 52 = .ok (.aload_n 0, 1) := by decide +kernel
theorem dX1_work_53 : decode cX1_work 53 = .ok (.getfield 9, 3) := by decide +kernel
theorem dX1_work_56 : decode cX1_work 56 = .ok (.iload_n 2, 1) := by decide +kernel
theorem dX1_work_57 : decode cX1_work 57 = .ok (.iload 4, 2) := by decide +kernel
theorem dX1_work_59 : decode cX1_work 59 = .ok (.iastore, 1) := by decide +kernel
theorem dX1_work_60 : decode cX1_work 60 = .ok (.goto 100, 3) := by decide +kernel
theorem dX1_work_63 : decode cX1_work 63 = .ok (.aload_n 0, 1) := by decide +kernel
theorem dX1_work_64 : decode cX1_work 64 = .ok (.getfield 9, 3) := by decide +kernel
theorem dX1_work_67 : decode cX1_work 67 = .ok (.iload_n 2, 1) := by decide +kernel
theorem dX1_work_68 : decode cX1_work 68 = .ok (.dup2, 1) := by decide +kernel
theorem dX1_work_69 : decode cX1_work 69 = .ok (.iaload, 1) := by decide +kernel
theorem dX1_work_70 : decode cX1_work 70 = .ok (.iload_n 3, 1) := by decide +kernel
theorem dX1_work_71 : decode cX1_work 71 = .ok (.iadd, 1) := by decide +kernel
theorem dX1_work_72 : decode cX1_work 72 = .ok (.iastore, 1) := by decide +kernel
theorem dX1_work_73 : decode cX1_work 73 = .ok (.goto 87, 3) := by decide +kernel
theorem dX1_work_76 : decode cX1_work 76 = .ok (.aload_n 0, 1) := by decide +kernel
theorem dX1_work_77 : decode cX1_work 77 = .ok (.getfield 9, 3) := by decide +kernel
theorem dX1_work_80 : decode cX1_work 80 = .ok (.iload_n 2, 1) := by decide +kernel
theorem dX1_work_81 : decode cX1_work 81 = .ok (.dup2, 1) := by decide +kernel
theorem dX1_work_82 : decode cX1_work 82 = .ok (.iaload, 1) := by decide +kernel
theorem dX1_work_83 : decode cX1_work 83 = .ok (.iload_n 3, 1) := by decide +kernel
theorem dX1_work_84 : decode cX1_work 84 = .ok (.ixor, 1) := by decide +kernel
theorem dX1_work_85 : decode cX1_work 85 = .ok (.iastore, 1) := by decide +kernel
theorem dX1_work_86 : decode cX1_work 86 = .ok (.goto 74, 3) := by decide +kernel
theorem dX1_work_89 : decode cX1_work 89 = .ok (.aload_n 0, 1) := by decide +kernel
theorem dX1_work_90 : decode cX1_work 90 = .ok (.getfield 9, 3) := by decide +kernel
theorem dX1_work_93 : decode cX1_work 93 = .ok (.iload_n 2, 1) := by decide +kernel
theorem dX1_work_94 : decode cX1_work 94 = .ok (.dup2, 1) := by decide +kernel
theorem dX1_work_95 : decode cX1_work 95 = .ok (.iaload, 1) := by decide +kernel
theorem dX1_work_96 : decode cX1_work 96 = .ok (.iload_n 3, 1) := by decide +kernel
theorem dX1_work_97 : decode cX1_work 97 = .ok (.imul, 1) := by decide +kernel
theorem dX1_work_98 : decode cX1_work 98 = .ok (.iastore, 1) := by decide +kernel
theorem dX1_work_99 : decode cX1_work 99 = .ok (.goto 61, 3) := by decide +kernel
theorem dX1_work_102 : decode cX1_work 102 = .ok (.aload_n 0, 1) := by decide +kernel
theorem dX1_work_103 : decode cX1_work 103 = .ok (.getfield 9, 3) := by decide +kernel
theorem dX1_work_106 : decode cX1_work 106 = .ok (.iload_n 2, 1) := by decide +kernel
theorem dX1_work_107 : decode cX1_work 107 = .ok (.aload_n 0, 1) := by decide +kernel
theorem dX1_work_108 : decode cX1_work 108 = .ok (.getfield 15, 3) := by decide +kernel
theorem dX1_work_111 : decode cX1_work 111 = .ok (.iload_n 3, 1) := by decide +kernel
theorem dX1_work_112 : decode cX1_work 112 = .ok (.bipush 7, 2) := by decide +kernel
theorem dX1_work_114 : decode cX1_work 114 = .ok (.iand, 1) := by decide +kernel
theorem dX1_work_115 : decode cX1_work 115 = .ok (.iaload, 1) := by decide +kernel
theorem dX1_work_116 : decode cX1_work 116 = .ok (.iastore, 1) := by decide +kernel
theorem dX1_work_117 : decode cX1_work 117 = .ok (.goto 43, 3) := by decide +kernel
theorem dX1_work_120 : decode cX1_work 120 = .ok (.aload_n 0, 1) := by decide +kernel
theorem dX1_work_121 : decode cX1_work 121 = .ok (.getfield 15, 3) := by decide +kernel
theorem dX1_work_124 : decode cX1_work 124 = .ok (.iload_n 3, 1) := by decide +kernel
theorem dX1_work_125 : decode cX1_work 125 = .ok (.bipush 7, 2) := by decide +kernel
theorem dX1_work_127 : decode cX1_work 127 = .ok (.iand, 1) := by decide +kernel
theorem dX1_work_128 : decode cX1_work 128 = .ok (.aload_n 0, 1) := by decide +kernel
theorem dX1_work_129 : decode cX1_work 129 = .ok (.getfield 9, 3) := by decide +kernel
theorem dX1_work_132 : decode cX1_work 132 = .ok (.iload_n 2, 1) := by decide +kernel
theorem dX1_work_133 : decode cX1_work 133 = .ok (.iaload, 1) := by decide +kernel
theorem dX1_work_134 : decode cX1_work 134 = .ok (.iastore, 1) := by decide +kernel
theorem dX1_work_135 : decode cX1_work 135 = .ok (.goto 25, 3) := by decide +kernel
theorem dX1_work_138 : decode cX1_work 138 = .ok (.aload_n 0, 1) := by decide +kernel
theorem dX1_work_139 : decode cX1_work 139 = .ok (.getfield 9, 3) := by decide +kernel
theorem dX1_work_142 : decode cX1_work 142 = .ok (.iload_n 2, 1) := by decide +kernel
theorem dX1_work_143 : decode cX1_work 143 = .ok (.dup2, 1) := by decide +kernel
theorem dX1_work_144 : decode cX1_work 144 = .ok (.iaload, 1) := by decide +kernel
theorem dX1_work_145 : decode cX1_work 145 = .ok (.iload_n 3, 1) := by decide +kernel
theorem dX1_work_146 : decode cX1_work 146 = .ok (.ifCond .eq 8, 3) := by decide +kernel
theorem dX1_work_149 : decode cX1_work 149 = .ok (.iload 4, 2) := by decide +kernel
theorem dX1_work_151 : decode cX1_work 151 = .ok (.goto 4, 3) := by decide +kernel
theorem dX1_work_154 : decode cX1_work 154 = .ok (.iconst 0, 1) := by decide +kernel
theorem dX1_work_155 : decode cX1_work 155 = .ok (.iadd, 1) := by decide +kernel
theorem dX1_work_156 : decode cX1_work 156 = .ok (.iastore, 1) := by decide +kernel
theorem dX1_work_157 : decode cX1_work 157 = .ok (.goto 3, 3) := by decide +kernel
theorem dX1_work_160 : decode cX1_work 160 = .ok (.return_, 1) := by decide +kernel
theorem dX1_bitsOf_0 : decode cX1_bitsOf 0 = .ok (.bipush 32, 2) := by decide +kernel
theorem dX1_bitsOf_2 : decode cX1_bitsOf 2 = .ok (.iload_n 0, 1) := by decide +kernel
theorem dX1_bitsOf_3 : decode cX1_bitsOf 3 = .ok (.invokestatic 93, 3) := by decide +kernel
theorem dX1_bitsOf_6 : decode cX1_bitsOf 6 = .ok (.isub, 1) := by decide +kernel
theorem dX1_bitsOf_7 : decode cX1_bitsOf 7 = .ok (.ireturn, 1) := by decide +kernel
theorem dX2_init_0 : decode cX2_init 0 = .ok (.aload_n 0, 1) := by decide +kernel
theorem dX2_init_1 : decode cX2_init 1 = .ok (.invokespecial 3, 3) := by decide +kernel
theorem dX2_init_4 : decode cX2_init 4 = .ok (.aload_n 0, 1) := by decide +kernel
theorem dX2_init_5 : decode cX2_init 5 = .ok (.bipush 16, 2) := by decide +kernel
theorem dX2_init_7 : decode cX2_init 7 = .ok (.bipush 16, 2) := by decide +kernel
theorem dX2_init_9 : decode cX2_init 9 = .ok (.multianewarray 9 2, 4) := by decide +kernel
theorem dX2_init_13 : decode cX2_init 13 = .ok (.putfield 11, 3) := by decide +kernel
theorem dX2_init_16 : decode cX2_init 16 = .ok (.aload_n 0, 1) := by decide +kernel
theorem dX2_init_17 : decode cX2_init 17 = .ok (.bipush 16, 2) := by decide +kernel
theorem dX2_init_19 : decode cX2_init 19 = .ok (.newarray .int, 2) := by decide +kernel
theorem dX2_init_21 : decode cX2_init 21 = .ok (.putfield 16, 3) := by decide +kernel
theorem dX2_init_24 : decode cX2_init 24 = .ok (.aload_n 0, 1) := by decide +kernel
theorem dX2_init_25 : decode cX2_init 25 = .ok (.new 20, 3) := by decide +kernel
theorem dX2_init_28 : decode cX2_init 28 = .ok (.dup, 1) := by decide +kernel
theorem dX2_init_29 : decode cX2_init 29 = .ok (.invokespecial 22, 3) := by decide +kernel
theorem dX2_init_32 : decode cX2_init 32 = .ok (.putfield 23, 3) := by decide +kernel
theorem dX2_init_35 : decode cX2_init 35 = .ok (.aload_n 0, 1) := by decide +kernel
theorem dX2_init_36 : decode cX2_init 36 = .ok (.bipush 16, 2) := by decide +kernel
theorem dX2_init_38 : decode cX2_init 38 = .ok (.anewarray 27, 3) := by decide +kernel
theorem dX2_init_41 : decode cX2_init 41 = .ok (.putfield 29, 3) := by decide +kernel
theorem dX2_init_44 : decode cX2_init 44 = .ok (.iconst 0, 1) := by decide +kernel
theorem dX2_init_45 : decode cX2_init 45 = .ok (.istore_n 1, 1) := by decide +kernel
theorem dX2_init_46 : decode cX2_init 46 = .ok (.iload_n 1, 1) := by decide +kernel
theorem dX2_init_47 : decode cX2_init 47 = .ok (.bipush 16, 2) := by decide +kernel
theorem dX2_init_49 : decode cX2_init 49 = .ok (.if_icmp .ge 22, 3) := by decide +kernel
theorem dX2_init_52 : decode cX2_init 52 = .ok (.aload_n 0, 1) := by decide +kernel
theorem dX2_init_53 : decode cX2_init 53 = .ok (.getfield 29, 3) := by decide +kernel
theorem dX2_init_56 : decode cX2_init 56 = .ok (.iload_n 1, 1) := by decide +kernel
theorem dX2_init_57 : decode cX2_init 57 = .ok (.new 27, 3) := by decide +kernel
theorem dX2_init_60 : decode cX2_init 60 = .ok (.dup, 1) := by decide +kernel
end
section
theorem dX2_init_61 : decode cX2_init 61 = .ok (.invokespecial 33, 3) := by decide +kernel
theorem dX2_init_64 : decode cX2_init 64 = .ok (.aastore, 1) := by decide +kernel
theorem dX2_init_65 : decode cX2_init 65 = .ok (.iinc 1 1, 3) := by decide +kernel
theorem dX2_init_68 : decode cX2_init 68 = .ok (.goto (-22), 3) := by decide +kernel
theorem dX2_init_71 : decode cX2_init 71 = .ok (.return_, 1) := by decide +kernel
theorem dX2_forget_0 : decode cX2_forget 0 = .ok (.iconst 0, 1) := by decide +kernel
theorem dX2_forget_1 : decode cX2_forget 1 = .ok (.istore_n 1, 1) := by decide +kernel
theorem dX2_forget_2 : decode cX2_forget 2 = .ok (.iload_n 1, 1) := by decide +kernel
theorem dX2_forget_3 : decode cX2_forget 3 = .ok (.bipush 16, 2) := by decide +kernel
theorem dX2_forget_5 : decode cX2_forget 5 = .ok (.if_icmp .ge 16, 3) := by decide +kernel
theorem dX2_forget_8 : decode cX2_forget 8 = .ok (.aload_n 0, 1) := by decide +kernel
theorem dX2_forget_9 : decode cX2_forget 9 = .ok (.getfield 16, 3) := by decide +kernel
theorem dX2_forget_12 : decode cX2_forget 12 = .ok (.iload_n 1, 1) := by decide +kernel
theorem dX2_forget_13 : decode cX2_forget 13 = .ok (.iconst 0, 1) := by decide +kernel
theorem dX2_forget_14 : decode cX2_forget 14 = .ok (.iastore, 1) := by decide +kernel
theorem dX2_forget_15 : decode cX2_forget 15 = .ok (.iinc 1 1, 3) := by decide +kernel
theorem dX2_forget_18 : decode cX2_forget 18 = .ok (.goto (-16), 3) := by decide +kernel
theorem dX2_forget_21 : decode cX2_forget 21 = .ok (.return_, 1) := by decide +kernel
theorem dX2_learn_0 : decode cX2_learn 0 = .ok (.aload_n 0, 1) := by decide +kernel
theorem dX2_learn_1 : decode cX2_learn 1 = .ok (.getfield 16, 3) := by decide +kernel
theorem dX2_learn_4 : decode cX2_learn 4 = .ok (.iload 4, 2) := by decide +kernel
theorem dX2_learn_6 : decode cX2_learn 6 = .ok (.iaload, 1) := by decide +kernel
theorem dX2_learn_7 : decode cX2_learn 7 = .ok (.ifCond .le 4, 3) := by decide +kernel
theorem dX2_learn_10 : decode cX2_learn 10 = .ok (.return_, 1) := by decide +kernel
theorem dX2_learn_11 : decode cX2_learn 11 = .ok (.iconst 0, 1) := by decide +kernel
theorem dX2_learn_12 : decode cX2_learn 12 = .ok (.istore 5, 2) := by decide +kernel
theorem dX2_learn_14 : decode cX2_learn 14 = .ok (.iconst 0, 1) := by decide +kernel
theorem dX2_learn_15 : decode cX2_learn 15 = .ok (.istore 6, 2) := by decide +kernel
theorem dX2_learn_17 : decode cX2_learn 17 = .ok (.iload 6, 2) := by decide +kernel
theorem dX2_learn_19 : decode cX2_learn 19 = .ok (.bipush 16, 2) := by decide +kernel
theorem dX2_learn_21 : decode cX2_learn 21 = .ok (.if_icmp .ge 81, 3) := by decide +kernel
theorem dX2_learn_24 : decode cX2_learn 24 = .ok (.aload_n 0, 1) := by decide +kernel
theorem dX2_learn_25 : decode cX2_learn 25 = .ok (.getfield 29, 3) := by decide +kernel
theorem dX2_learn_28 : decode cX2_learn 28 = .ok (.iload 5, 2) := by decide +kernel
theorem dX2_learn_30 : decode cX2_learn 30 = .ok (.aaload, 1) := by decide +kernel
theorem dX2_learn_31 : decode cX2_learn 31 = .ok (.astore 7, 2) := by decide +kernel
theorem dX2_learn_33 : decode cX2_learn 33 = .ok (.aload_n 1, 1) := by decide +kernel
theorem dX2_learn_34 : decode cX2_learn 34 = .ok (.aload_n 2, 1) := by decide +kernel
theorem dX2_learn_35 : decode cX2_learn 35 = .ok (.aload_n 3, 1) := by decide +kernel
theorem dX2_learn_36 : decode cX2_learn 36 = .ok (.iload 4, 2) := by decide +kernel
theorem dX2_learn_38 : decode cX2_learn 38 = .ok (.iload 6, 2) := by decide +kernel
theorem dX2_learn_40 : decode cX2_learn 40 = .ok (.aload_n 0, 1) := by decide +kernel
theorem dX2_learn_41 : decode cX2_learn 41 = .ok (.getfield 23, 3) := by decide +kernel
theorem dX2_learn_44 : decode cX2_learn 44 = .ok (.invokevirtual 34, 3) := by decide +kernel
theorem dX2_learn_47 : decode cX2_learn 47 = .ok (.aload 7, 2) := by decide +kernel
theorem dX2_learn_49 : decode cX2_learn 49 = .ok (.aload_n 0, 1) := by decide +kernel
theorem dX2_learn_50 : decode cX2_learn 50 = .ok (.getfield 23, 3) := by decide +kernel
theorem dX2_learn_53 : decode cX2_learn 53 = .ok (.aload_n 3, 1) := by decide +kernel
theorem dX2_learn_54 : decode cX2_learn 54 = .ok (.getfield 40, 3) := by decide +kernel
theorem dX2_learn_57 : decode cX2_learn 57 = .ok (.aload_n 3, 1) := by decide +kernel
theorem dX2_learn_58 : decode cX2_learn 58 = .ok (.getfield 46, 3) := by decide +kernel
theorem dX2_learn_61 : decode cX2_learn 61 = .ok (.invokevirtual 49, 3) := by decide +kernel
theorem dX2_learn_64 : decode cX2_learn 64 = .ok (.aload_n 0, 1) := by decide +kernel
theorem dX2_learn_65 : decode cX2_learn 65 = .ok (.aload 7, 2) := by decide +kernel
theorem dX2_learn_67 : decode cX2_learn 67 = .ok (.iload 5, 2) := by decide +kernel
theorem dX2_learn_69 : decode cX2_learn 69 = .ok (.invokevirtual 53, 3) := by decide +kernel
theorem dX2_learn_72 : decode cX2_learn 72 = .ok (.istore 8, 2) := by decide +kernel
theorem dX2_learn_74 : decode cX2_learn 74 = .ok (.aload_n 0, 1) := by decide +kernel
theorem dX2_learn_75 : decode cX2_learn 75 = .ok (.getfield 11, 3) := by decide +kernel
theorem dX2_learn_78 : decode cX2_learn 78 = .ok (.iload 4, 2) := by decide +kernel
theorem dX2_learn_80 : decode cX2_learn 80 = .ok (.aaload, 1) := by decide +kernel
theorem dX2_learn_81 : decode cX2_learn 81 = .ok (.iload 6, 2) := by decide +kernel
theorem dX2_learn_83 : decode cX2_learn 83 = .ok (.iload 8, 2) := by decide +kernel
theorem dX2_learn_85 : decode cX2_learn 85 = .ok (.iastore, 1) := by decide +kernel
theorem dX2_learn_86 : decode cX2_learn 86 = .ok (.iload 8, 2) := by decide +kernel
theorem dX2_learn_88 : decode cX2_learn 88 = .ok (.iload 5, 2) := by decide +kernel
theorem dX2_learn_90 : decode cX2_learn 90 = .ok (.if_icmp .ne 6, 3) := by decide +kernel
theorem dX2_learn_93 : decode cX2_learn 93 = .ok (.iinc 5 1, 3) := by decide +kernel
theorem dX2_learn_96 : decode cX2_learn 96 = .ok (.iinc 6 1, 3) := by decide +kernel
theorem dX2_learn_99 : decode cX2_learn 99 = .ok (.goto (-82), 3) := by decide +kernel
theorem dX2_learn_102 : decode cX2_learn 102 = .ok (.aload_n 0, 1) := by decide +kernel
theorem dX2_learn_103 : decode cX2_learn 103 = .ok (.getfield 16, 3) := by decide +kernel
theorem dX2_learn_106 : decode cX2_learn 106 = .ok (.iload 4, 2) := by decide +kernel
theorem dX2_learn_108 : decode cX2_learn 108 = .ok (.iload 5, 2) := by decide +kernel
theorem dX2_learn_110 : decode cX2_learn 110 = .ok (.iastore, 1) := by decide +kernel
theorem dX2_learn_111 : decode cX2_learn 111 = .ok (.return_, 1) := by decide +kernel
theorem dX2_classAmong_0 : decode cX2_classAmong 0 = .ok (.iconst 0, 1) := by decide +kernel
theorem dX2_classAmong_1 : decode cX2_classAmong 1 = .ok (.istore_n 3, 1) := by decide +kernel
theorem dX2_classAmong_2 : decode cX2_classAmong 2 = .ok (.iload_n 3, 1) := by decide +kernel
theorem dX2_classAmong_3 : decode cX2_classAmong 3 = .ok (.iload_n 2, 1) := by decide +kernel
theorem dX2_classAmong_4 : decode cX2_classAmong 4 = .ok (.if_icmp .ge 25, 3) := by decide +kernel
theorem dX2_classAmong_7 : decode cX2_classAmong 7 = .ok (.aload_n 1, 1) := by decide +kernel
theorem dX2_classAmong_8 : decode cX2_classAmong 8 = .ok (.aload_n 0, 1) := by decide +kernel
theorem dX2_classAmong_9 : decode cX2_classAmong 9 = .ok (.getfield 29, 3) := by decide +kernel
theorem dX2_classAmong_12 : decode cX2_classAmong 12 = .ok (.iload_n 3, 1) := by decide +kernel
theorem dX2_classAmong_13 : decode cX2_classAmong 13 = .ok (.aaload, 1) := by decide +kernel
theorem dX2_classAmong_14 : decode cX2_classAmong 14 = .ok (.invokevirtual 57, 3) := by decide +kernel
theorem dX2_classAmong_17 : decode cX2_classAmong 17 = .ok (.iconst (-1), 1) := by decide +kernel
theorem dX2_classAmong_18 : decode cX2_classAmong 18 = .ok (.if_icmp .ne 5, 3) := by decide +kernel
theorem dX2_classAmong_21 : decode cX2_classAmong 21 = .ok (.iload_n 3, 1) := by decide +kernel
theorem dX2_classAmong_22 : decode cX2_classAmong 22 = .ok (.ireturn, 1) := by decide +kernel
theorem dX2_classAmong_23 : decode cX2_classAmong 23 = .ok (.iinc 3 1, 3) := by decide +kernel
theorem dX2_classAmong_26 : decode cX2_classAmong 26 = .ok (.goto (-24), 3) := by decide +kernel
theorem dX2_classAmong_29 : decode cX2_classAmong 29 = .ok (.iload_n 2, 1) := by decide +kernel
theorem dX2_classAmong_30 : decode cX2_classAmong 30 = .ok (.ireturn, 1) := by decide +kernel
theorem dX2_firstParted_0 : decode cX2_firstParted 0 = .ok (.iconst 1, 1) := by decide +kernel
theorem dX2_firstParted_1 : decode cX2_firstParted 1 = .ok (.istore_n 2, 1) := by decide +kernel
theorem dX2_firstParted_2 : decode cX2_firstParted 2 = .ok (.iload_n 2, 1) := by decide +kernel
theorem dX2_firstParted_3 : decode cX2_firstParted 3 = .ok (.bipush 16, 2) := by decide +kernel
theorem dX2_firstParted_5 : decode cX2_firstParted 5 = .ok (.if_icmp .ge 22, 3) := by decide +kernel
theorem dX2_firstParted_8 : decode cX2_firstParted 8 = .ok (.aload_n 0, 1) := by decide +kernel
theorem dX2_firstParted_9 : decode cX2_firstParted 9 = .ok (.getfield 11, 3) := by decide +kernel
theorem dX2_firstParted_12 : decode cX2_firstParted 12 = .ok (.iload_n 1, 1) := by decide +kernel
theorem dX2_firstParted_13 : decode cX2_firstParted 13 = .ok (.aaload, 1) := by decide +kernel
theorem dX2_firstParted_14 : decode cX2_firstParted 14 = .ok (.iload_n 2, 1) := by decide +kernel
theorem dX2_firstParted_15 : decode cX2_firstParted 15 = .ok (.iaload, 1) := by decide +kernel
theorem dX2_firstParted_16 : decode cX2_firstParted 16 = .ok (.ifCond .eq 5, 3) := by decide +kernel
theorem dX2_firstParted_19 : decode cX2_firstParted 19 = .ok (.iload_n 2, 1) := by decide +kernel
theorem dX2_firstParted_20 : decode cX2_firstParted 20 = .ok (.ireturn, 1) := by decide +kernel
theorem dX2_firstParted_21 : decode cX2_firstParted 21 = .ok (.iinc 2 1, 3) := by decide +kernel
theorem dX2_firstParted_24 : decode cX2_firstParted 24 = .ok (.goto (-22), 3) := by decide +kernel
theorem dX2_firstParted_27 : decode cX2_firstParted 27 = .ok (.iconst (-1), 1) := by decide +kernel
theorem dX2_firstParted_28 : decode cX2_firstParted 28 = .ok (.ireturn, 1) := by decide +kernel
theorem dX3_init_0 : decode cX3_init 0 = .ok (.aload_n 0, 1) := by decide +kernel
theorem dX3_init_1 : decode cX3_init 1 = .ok (.invokespecial 3, 3) := by decide +kernel
theorem dX3_init_4 : decode cX3_init 4 = .ok (.aload_n 0, 1) := by decide +kernel
theorem dX3_init_5 : decode cX3_init 5 = .ok (.bipush 8, 2) := by decide +kernel
theorem dX3_init_7 : decode cX3_init 7 = .ok (.newarray .int, 2) := by decide +kernel
theorem dX3_init_9 : decode cX3_init 9 = .ok (.putfield 9, 3) := by decide +kernel
theorem dX3_init_12 : decode cX3_init 12 = .ok (.aload_n 0, 1) := by decide +kernel
theorem dX3_init_13 : decode cX3_init 13 = .ok (.bipush 8, 2) := by decide +kernel
theorem dX3_init_15 : decode cX3_init 15 = .ok (.newarray .int, 2) := by decide +kernel
theorem dX3_init_17 : decode cX3_init 17 = .ok (.putfield 15, 3) := by decide +kernel
theorem dX3_init_20 : decode cX3_init 20 = .ok (.aload_n 0, 1) := by decide +kernel
theorem dX3_init_21 : decode cX3_init 21 = .ok (.bipush 8, 2) := by decide +kernel
theorem dX3_init_23 : decode cX3_init 23 = .ok (.newarray .int, 2) := by decide +kernel
theorem dX3_init_25 : decode cX3_init 25 = .ok (.putfield 18, 3) := by decide +kernel
theorem dX3_init_28 : decode cX3_init 28 = .ok (.aload_n 0, 1) := by decide +kernel
theorem dX3_init_29 : decode cX3_init 29 = .ok (.iconst 0, 1) := by decide +kernel
theorem dX3_init_30 : decode cX3_init 30 = .ok (.putfield 21, 3) := by decide +kernel
theorem dX3_init_33 : decode cX3_init 33 = .ok (.return_, 1) := by decide +kernel
theorem dX3_has_0 : decode cX3_has 0 = .ok (.iload_n 1, 1) := by decide +kernel
theorem dX3_has_1 : decode cX3_has 1 = .ok (.ifCond .lt 15, 3) := by decide +kernel
theorem dX3_has_4 : decode cX3_has 4 = .ok (.iload_n 1, 1) := by decide +kernel
theorem dX3_has_5 : decode cX3_has 5 = .ok (.aload_n 0, 1) := by decide +kernel
theorem dX3_has_6 : decode cX3_has 6 = .ok (.getfield 21, 3) := by decide +kernel
theorem dX3_has_9 : decode cX3_has 9 = .ok (.if_icmp .ge 7, 3) := by decide +kernel
theorem dX3_has_12 : decode cX3_has 12 = .ok (.iconst 1, 1) := by decide +kernel
theorem dX3_has_13 : decode cX3_has 13 = .ok (.goto 4, 3) := by decide +kernel
theorem dX3_has_16 : decode cX3_has 16 = .ok (.iconst 0, 1) := by decide +kernel
theorem dX3_has_17 : decode cX3_has 17 = .ok (.ireturn, 1) := by decide +kernel
theorem dX3_append_0 : decode cX3_append 0 = .ok (.aload_n 0, 1) := by decide +kernel
theorem dX3_append_1 : decode cX3_append 1 = .ok (.getfield 21, 3) := by decide +kernel
theorem dX3_append_4 : decode cX3_append 4 = .ok (.bipush 8, 2) := by decide +kernel
theorem dX3_append_6 : decode cX3_append 6 = .ok (.if_icmp .lt 5, 3) := by decide +kernel
theorem dX3_append_9 : decode cX3_append 9 = .ok (.iconst (-1), 1) := by decide +kernel
theorem dX3_append_10 : decode cX3_append 10 = .ok (.ireturn, 1) := by decide +kernel
theorem dX3_append_11 : decode cX3_append 11 = .ok (.aload_n 0, 1) := by decide +kernel
theorem dX3_append_12 : decode cX3_append 12 = .ok (.getfield 9, 3) := by decide +kernel
theorem dX3_append_15 : decode cX3_append 15 = .ok (.aload_n 0, 1) := by decide +kernel
theorem dX3_append_16 : decode cX3_append 16 = .ok (.getfield 21, 3) := by decide +kernel
theorem dX3_append_19 : decode cX3_append 19 = .ok (.iload_n 1, 1) := by decide +kernel
theorem dX3_append_20 : decode cX3_append 20 = .ok (.iastore, 1) := by decide +kernel
theorem dX3_append_21 : decode cX3_append 21 = .ok (.aload_n 0, 1) := by decide +kernel
theorem dX3_append_22 : decode cX3_append 22 = .ok (.getfield 15, 3) := by decide +kernel
theorem dX3_append_25 : decode cX3_append 25 = .ok (.aload_n 0, 1) := by decide +kernel
theorem dX3_append_26 : decode cX3_append 26 = .ok (.getfield 21, 3) := by decide +kernel
theorem dX3_append_29 : decode cX3_append 29 = .ok (.iconst 1, 1) := by decide +kernel
theorem dX3_append_30 : decode cX3_append 30 = .ok (.iastore, 1) := by decide +kernel
theorem dX3_append_31 : decode cX3_append 31 = .ok (.aload_n 0, 1) := by decide +kernel
theorem dX3_append_32 : decode cX3_append 32 = .ok (.dup, 1) := by decide +kernel
theorem dX3_append_33 : decode cX3_append 33 = .ok (.getfield 21, 3) := by decide +kernel
theorem dX3_append_36 : decode cX3_append 36 = .ok (.iconst 1, 1) := by decide +kernel
theorem dX3_append_37 : decode cX3_append 37 = .ok (.iadd, 1) := by decide +kernel
theorem dX3_append_38 : decode cX3_append 38 = .ok (.putfield 21, 3) := by decide +kernel
theorem dX3_append_41 : decode cX3_append 41 = .ok (.aload_n 0, 1) := by decide +kernel
theorem dX3_append_42 : decode cX3_append 42 = .ok (.getfield 21, 3) := by decide +kernel
theorem dX3_append_45 : decode cX3_append 45 = .ok (.iconst 1, 1) := by decide +kernel
theorem dX3_append_46 : decode cX3_append 46 = .ok (.isub, 1) := by decide +kernel
theorem dX3_append_47 : decode cX3_append 47 = .ok (.ireturn, 1) := by decide +kernel
theorem dX3_empty_0 : decode cX3_empty 0 = .ok (.aload_n 0, 1) := by decide +kernel
theorem dX3_empty_1 : decode cX3_empty 1 = .ok (.iconst 0, 1) := by decide +kernel
theorem dX3_empty_2 : decode cX3_empty 2 = .ok (.putfield 21, 3) := by decide +kernel
theorem dX3_empty_5 : decode cX3_empty 5 = .ok (.return_, 1) := by decide +kernel
theorem dX3_allPlaces_0 : decode cX3_allPlaces 0 = .ok (.iconst 1, 1) := by decide +kernel
theorem dX3_allPlaces_1 : decode cX3_allPlaces 1 = .ok (.aload_n 0, 1) := by decide +kernel
theorem dX3_allPlaces_2 : decode cX3_allPlaces 2 = .ok (.getfield 21, 3) := by decide +kernel
theorem dX3_allPlaces_5 : decode cX3_allPlaces 5 = .ok (.ishl, 1) := by decide +kernel
theorem dX3_allPlaces_6 : decode cX3_allPlaces 6 = .ok (.iconst 1, 1) := by decide +kernel
theorem dX3_allPlaces_7 : decode cX3_allPlaces 7 = .ok (.isub, 1) := by decide +kernel
theorem dX3_allPlaces_8 : decode cX3_allPlaces 8 = .ok (.ireturn, 1) := by decide +kernel
theorem dX3_priceOf_0 : decode cX3_priceOf 0 = .ok (.iconst 0, 1) := by decide +kernel
theorem dX3_priceOf_1 : decode cX3_priceOf 1 = .ok (.istore_n 2, 1) := by decide +kernel
theorem dX3_priceOf_2 : decode cX3_priceOf 2 = .ok (.iconst 0, 1) := by decide +kernel
theorem dX3_priceOf_3 : decode cX3_priceOf 3 = .ok (.istore_n 3, 1) := by decide +kernel
theorem dX3_priceOf_4 : decode cX3_priceOf 4 = .ok (.iload_n 3, 1) := by decide +kernel
theorem dX3_priceOf_5 : decode cX3_priceOf 5 = .ok (.aload_n 0, 1) := by decide +kernel
theorem dX3_priceOf_6 : decode cX3_priceOf 6 = .ok (.getfield 21, 3) := by decide +kernel
theorem dX3_priceOf_9 : decode cX3_priceOf 9 = .ok (.if_icmp .ge 26, 3) := by decide +kernel
theorem dX3_priceOf_12 : decode cX3_priceOf 12 = .ok (.iload_n 1, 1) := by decide +kernel
theorem dX3_priceOf_13 : decode cX3_priceOf 13 = .ok (.iload_n 3, 1) := by decide +kernel
theorem dX3_priceOf_14 : decode cX3_priceOf 14 = .ok (.ishr, 1) := by decide +kernel
theorem dX3_priceOf_15 : decode cX3_priceOf 15 = .ok (.iconst 1, 1) := by decide +kernel
theorem dX3_priceOf_16 : decode cX3_priceOf 16 = .ok (.iand, 1) := by decide +kernel
theorem dX3_priceOf_17 : decode cX3_priceOf 17 = .ok (.ifCond .eq 12, 3) := by decide +kernel
theorem dX3_priceOf_20 : decode cX3_priceOf 20 = .ok (.iload_n 2, 1) := by decide +kernel
theorem dX3_priceOf_21 : decode cX3_priceOf 21 = .ok (.aload_n 0, 1) := by decide +kernel
theorem dX3_priceOf_22 : decode cX3_priceOf 22 = .ok (.getfield 15, 3) := by decide +kernel
theorem dX3_priceOf_25 : decode cX3_priceOf 25 = .ok (.iload_n 3, 1) := by decide +kernel
theorem dX3_priceOf_26 : decode cX3_priceOf 26 = .ok (.iaload, 1) := by decide +kernel
theorem dX3_priceOf_27 : decode cX3_priceOf 27 = .ok (.iadd, 1) := by decide +kernel
theorem dX3_priceOf_28 : decode cX3_priceOf 28 = .ok (.istore_n 2, 1) := by decide +kernel
theorem dX3_priceOf_29 : decode cX3_priceOf 29 = .ok (.iinc 3 1, 3) := by decide +kernel
theorem dX3_priceOf_32 : decode cX3_priceOf 32 = .ok (.goto (-28), 3) := by decide +kernel
theorem dX3_priceOf_35 : decode cX3_priceOf 35 = .ok (.iload_n 2, 1) := by decide +kernel
theorem dX3_priceOf_36 : decode cX3_priceOf 36 = .ok (.ireturn, 1) := by decide +kernel
theorem dX3_placesUnder_0 : decode cX3_placesUnder 0 = .ok (.iconst 0, 1) := by decide +kernel
theorem dX3_placesUnder_1 : decode cX3_placesUnder 1 = .ok (.istore_n 2, 1) := by decide +kernel
theorem dX3_placesUnder_2 : decode cX3_placesUnder 2 = .ok (.iconst 0, 1) := by decide +kernel
theorem dX3_placesUnder_3 : decode cX3_placesUnder 3 = .ok (.istore_n 3, 1) := by decide +kernel
theorem dX3_placesUnder_4 : decode cX3_placesUnder 4 = .ok (.iload_n 3, 1) := by decide +kernel
theorem dX3_placesUnder_5 : decode cX3_placesUnder 5 = .ok (.aload_n 0, 1) := by decide +kernel
theorem dX3_placesUnder_6 : decode cX3_placesUnder 6 = .ok (.getfield 21, 3) := by decide +kernel
theorem dX3_placesUnder_9 : decode cX3_placesUnder 9 = .ok (.if_icmp .ge 32, 3) := by decide +kernel
theorem dX3_placesUnder_12 : decode cX3_placesUnder 12 = .ok (.aload_n 0, 1) := by decide +kernel
theorem dX3_placesUnder_13 : decode cX3_placesUnder 13 = .ok (.getfield 9, 3) := by decide +kernel
theorem dX3_placesUnder_16 : decode cX3_placesUnder 16 = .ok (.iload_n 3, 1) := by decide +kernel
theorem dX3_placesUnder_17 : decode cX3_placesUnder 17 = .ok (.iaload, 1) := by decide +kernel
theorem dX3_placesUnder_18 : decode cX3_placesUnder 18 = .ok (.bipush 12, 2) := by decide +kernel
theorem dX3_placesUnder_20 : decode cX3_placesUnder 20 = .ok (.ishr, 1) := by decide +kernel
theorem dX3_placesUnder_21 : decode cX3_placesUnder 21 = .ok (.invokestatic 25, 3) := by decide +kernel
theorem dX3_placesUnder_24 : decode cX3_placesUnder 24 = .ok (.iload_n 1, 1) := by decide +kernel
theorem dX3_placesUnder_25 : decode cX3_placesUnder 25 = .ok (.iand, 1) := by decide +kernel
theorem dX3_placesUnder_26 : decode cX3_placesUnder 26 = .ok (.ifCond .eq 9, 3) := by decide +kernel
theorem dX3_placesUnder_29 : decode cX3_placesUnder 29 = .ok (.iload_n 2, 1) := by decide +kernel
theorem dX3_placesUnder_30 : decode cX3_placesUnder 30 = .ok (.iconst 1, 1) := by decide +kernel
theorem dX3_placesUnder_31 : decode cX3_placesUnder 31 = .ok (.iload_n 3, 1) := by decide +kernel
theorem dX3_placesUnder_32 : decode cX3_placesUnder 32 = .ok (.ishl, 1) := by decide +kernel
theorem dX3_placesUnder_33 : decode cX3_placesUnder 33 = .ok (.ior, 1) := by decide +kernel
theorem dX3_placesUnder_34 : decode cX3_placesUnder 34 = .ok (.istore_n 2, 1) := by decide +kernel
theorem dX3_placesUnder_35 : decode cX3_placesUnder 35 = .ok (.iinc 3 1, 3) := by decide +kernel
theorem dX3_placesUnder_38 : decode cX3_placesUnder 38 = .ok (.goto (-34), 3) := by decide +kernel
theorem dX3_placesUnder_41 : decode cX3_placesUnder 41 = .ok (.iload_n 2, 1) := by decide +kernel
theorem dX3_placesUnder_42 : decode cX3_placesUnder 42 = .ok (.ireturn, 1) := by decide +kernel
theorem dX3_eyeOn_0 : decode cX3_eyeOn 0 = .ok (.iload_n 0, 1) := by decide +kernel
theorem dX3_eyeOn_1 : decode cX3_eyeOn 1 = .ok (.tableswitch 37 4 7 #[31, 33, 33, 35], 31) := by decide +kernel
theorem dX3_eyeOn_32 : decode cX3_eyeOn 32 = .ok (.iconst 1, 1) := by decide +kernel
theorem dX3_eyeOn_33 : decode cX3_eyeOn 33 = .ok (.ireturn, 1) := by decide +kernel
theorem dX3_eyeOn_34 : decode cX3_eyeOn 34 = .ok (.iconst 2, 1) := by decide +kernel
theorem dX3_eyeOn_35 : decode cX3_eyeOn 35 = .ok (.ireturn, 1) := by decide +kernel
theorem dX3_eyeOn_36 : decode cX3_eyeOn 36 = .ok (.iconst 4, 1) := by decide +kernel
theorem dX3_eyeOn_37 : decode cX3_eyeOn 37 = .ok (.ireturn, 1) := by decide +kernel
theorem dX3_eyeOn_38 : decode cX3_eyeOn 38 = .ok (.iconst 0, 1) := by decide +kernel
theorem dX3_eyeOn_39 : decode cX3_eyeOn 39 = .ok (.ireturn, 1) := by decide +kernel
theorem dX4_init_0 : decode cX4_init 0 = .ok (.aload_n 0, 1) := by decide +kernel
theorem dX4_init_1 : decode cX4_init 1 = .ok (.invokespecial 3, 3) := by decide +kernel
theorem dX4_init_4 : decode cX4_init 4 = .ok (.aload_n 0, 1) := by decide +kernel
theorem dX4_init_5 : decode cX4_init 5 = .ok (.bipush 42, 2) := by decide +kernel
theorem dX4_init_7 : decode cX4_init 7 = .ok (.newarray .int, 2) := by decide +kernel
theorem dX4_init_9 : decode cX4_init 9 = .ok (.putfield 11, 3) := by decide +kernel
theorem dX4_init_12 : decode cX4_init 12 = .ok (.aload_n 0, 1) := by decide +kernel
theorem dX4_init_13 : decode cX4_init 13 = .ok (.bipush 42, 2) := by decide +kernel
theorem dX4_init_15 : decode cX4_init 15 = .ok (.newarray .int, 2) := by decide +kernel
theorem dX4_init_17 : decode cX4_init 17 = .ok (.putfield 15, 3) := by decide +kernel
theorem dX4_init_20 : decode cX4_init 20 = .ok (.aload_n 0, 1) := by decide +kernel
theorem dX4_init_21 : decode cX4_init 21 = .ok (.bipush 42, 2) := by decide +kernel
theorem dX4_init_23 : decode cX4_init 23 = .ok (.newarray .int, 2) := by decide +kernel
theorem dX4_init_25 : decode cX4_init 25 = .ok (.putfield 18, 3) := by decide +kernel
theorem dX4_init_28 : decode cX4_init 28 = .ok (.aload_n 0, 1) := by decide +kernel
theorem dX4_init_29 : decode cX4_init 29 = .ok (.iconst 0, 1) := by decide +kernel
theorem dX4_init_30 : decode cX4_init 30 = .ok (.putfield 21, 3) := by decide +kernel
theorem dX4_init_33 : decode cX4_init 33 = .ok (.return_, 1) := by decide +kernel
theorem dX4_has_0 : decode cX4_has 0 = .ok (.iload_n 1, 1) := by decide +kernel
theorem dX4_has_1 : decode cX4_has 1 = .ok (.ifCond .lt 15, 3) := by decide +kernel
theorem dX4_has_4 : decode cX4_has 4 = .ok (.iload_n 1, 1) := by decide +kernel
theorem dX4_has_5 : decode cX4_has 5 = .ok (.aload_n 0, 1) := by decide +kernel
theorem dX4_has_6 : decode cX4_has 6 = .ok (.getfield 21, 3) := by decide +kernel
theorem dX4_has_9 : decode cX4_has 9 = .ok (.if_icmp .ge 7, 3) := by decide +kernel
theorem dX4_has_12 : decode cX4_has 12 = .ok (.iconst 1, 1) := by decide +kernel
theorem dX4_has_13 : decode cX4_has 13 = .ok (.goto 4, 3) := by decide +kernel
theorem dX4_has_16 : decode cX4_has 16 = .ok (.iconst 0, 1) := by decide +kernel
theorem dX4_has_17 : decode cX4_has 17 = .ok (.ireturn, 1) := by decide +kernel
theorem dX4_fill_0 : decode cX4_fill 0 = .ok (.aload_n 0, 1) := by decide +kernel
theorem dX4_fill_1 : decode cX4_fill 1 = .ok (.iconst 0, 1) := by decide +kernel
theorem dX4_fill_2 : decode cX4_fill 2 = .ok (.putfield 21, 3) := by decide +kernel
theorem dX4_fill_5 : decode cX4_fill 5 = .ok (.iconst 0, 1) := by decide +kernel
theorem dX4_fill_6 : decode cX4_fill 6 = .ok (.istore 4, 2) := by decide +kernel
theorem dX4_fill_8 : decode cX4_fill 8 = .ok (.iload 4, 2) := by decide +kernel
theorem dX4_fill_10 : decode cX4_fill 10 = .ok (.aload_n 1, 1) := by decide +kernel
theorem dX4_fill_11 : decode cX4_fill 11 = .ok (.getfield 25, 3) := by decide +kernel
theorem dX4_fill_14 : decode cX4_fill 14 = .ok (.if_icmp .ge 48, 3) := by decide +kernel
theorem dX4_fill_17 : decode cX4_fill 17 = .ok (.iload_n 3, 1) := by decide +kernel
theorem dX4_fill_18 : decode cX4_fill 18 = .ok (.aload_n 1, 1) := by decide +kernel
theorem dX4_fill_19 : decode cX4_fill 19 = .ok (.getfield 28, 3) := by decide +kernel
theorem dX4_fill_22 : decode cX4_fill 22 = .ok (.iload 4, 2) := by decide +kernel
theorem dX4_fill_24 : decode cX4_fill 24 = .ok (.iaload, 1) := by decide +kernel
theorem dX4_fill_25 : decode cX4_fill 25 = .ok (.ishr, 1) := by decide +kernel
theorem dX4_fill_26 : decode cX4_fill 26 = .ok (.iconst 1, 1) := by decide +kernel
theorem dX4_fill_27 : decode cX4_fill 27 = .ok (.iand, 1) := by decide +kernel
theorem dX4_fill_28 : decode cX4_fill 28 = .ok (.ifCond .ne 28, 3) := by decide +kernel
theorem dX4_fill_31 : decode cX4_fill 31 = .ok (.aload_n 0, 1) := by decide +kernel
theorem dX4_fill_32 : decode cX4_fill 32 = .ok (.aload_n 1, 1) := by decide +kernel
theorem dX4_fill_33 : decode cX4_fill 33 = .ok (.getfield 28, 3) := by decide +kernel
theorem dX4_fill_36 : decode cX4_fill 36 = .ok (.iload 4, 2) := by decide +kernel
theorem dX4_fill_38 : decode cX4_fill 38 = .ok (.iaload, 1) := by decide +kernel
theorem dX4_fill_39 : decode cX4_fill 39 = .ok (.aload_n 1, 1) := by decide +kernel
theorem dX4_fill_40 : decode cX4_fill 40 = .ok (.getfield 29, 3) := by decide +kernel
theorem dX4_fill_43 : decode cX4_fill 43 = .ok (.iload 4, 2) := by decide +kernel
theorem dX4_fill_45 : decode cX4_fill 45 = .ok (.iaload, 1) := by decide +kernel
theorem dX4_fill_46 : decode cX4_fill 46 = .ok (.aload_n 1, 1) := by decide +kernel
theorem dX4_fill_47 : decode cX4_fill 47 = .ok (.getfield 30, 3) := by decide +kernel
theorem dX4_fill_50 : decode cX4_fill 50 = .ok (.iload 4, 2) := by decide +kernel
theorem dX4_fill_52 : decode cX4_fill 52 = .ok (.iaload, 1) := by decide +kernel
theorem dX4_fill_53 : decode cX4_fill 53 = .ok (.invokevirtual 31, 3) := by decide +kernel
theorem dX4_fill_56 : decode cX4_fill 56 = .ok (.iinc 4 1, 3) := by decide +kernel
theorem dX4_fill_59 : decode cX4_fill 59 = .ok (.goto (-51), 3) := by decide +kernel
theorem dX4_fill_62 : decode cX4_fill 62 = .ok (.iload_n 2, 1) := by decide +kernel
theorem dX4_fill_63 : decode cX4_fill 63 = .ok (.iconst 1, 1) := by decide +kernel
theorem dX4_fill_64 : decode cX4_fill 64 = .ok (.iand, 1) := by decide +kernel
theorem dX4_fill_65 : decode cX4_fill 65 = .ok (.ifCond .eq 29, 3) := by decide +kernel
theorem dX4_fill_68 : decode cX4_fill 68 = .ok (.aload_n 0, 1) := by decide +kernel
theorem dX4_fill_69 : decode cX4_fill 69 = .ok (.iconst (-1), 1) := by decide +kernel
theorem dX4_fill_70 : decode cX4_fill 70 = .ok (.iconst 1, 1) := by decide +kernel
theorem dX4_fill_71 : decode cX4_fill 71 = .ok (.iconst 2, 1) := by decide +kernel
theorem dX4_fill_72 : decode cX4_fill 72 = .ok (.aload_n 1, 1) := by decide +kernel
theorem dX4_fill_73 : decode cX4_fill 73 = .ok (.iload_n 3, 1) := by decide +kernel
theorem dX4_fill_74 : decode cX4_fill 74 = .ok (.invokevirtual 35, 3) := by decide +kernel
theorem dX4_fill_77 : decode cX4_fill 77 = .ok (.imul, 1) := by decide +kernel
theorem dX4_fill_78 : decode cX4_fill 78 = .ok (.aload_n 1, 1) := by decide +kernel
theorem dX4_fill_79 : decode cX4_fill 79 = .ok (.getfield 39, 3) := by decide +kernel
theorem dX4_fill_82 : decode cX4_fill 82 = .ok (.ifCond .eq 7, 3) := by decide +kernel
theorem dX4_fill_85 : decode cX4_fill 85 = .ok (.iconst 1, 1) := by decide +kernel
theorem dX4_fill_86 : decode cX4_fill 86 = .ok (.goto 4, 3) := by decide +kernel
theorem dX4_fill_89 : decode cX4_fill 89 = .ok (.iconst 0, 1) := by decide +kernel
theorem dX4_fill_90 : decode cX4_fill 90 = .ok (.iadd, 1) := by decide +kernel
theorem dX4_fill_91 : decode cX4_fill 91 = .ok (.invokevirtual 31, 3) := by decide +kernel
theorem dX4_fill_94 : decode cX4_fill 94 = .ok (.iload_n 2, 1) := by decide +kernel
theorem dX4_fill_95 : decode cX4_fill 95 = .ok (.bipush 8, 2) := by decide +kernel
theorem dX4_fill_97 : decode cX4_fill 97 = .ok (.iand, 1) := by decide +kernel
theorem dX4_fill_98 : decode cX4_fill 98 = .ok (.ifCond .eq 14, 3) := by decide +kernel
theorem dX4_fill_101 : decode cX4_fill 101 = .ok (.aload_n 0, 1) := by decide +kernel
theorem dX4_fill_102 : decode cX4_fill 102 = .ok (.iconst (-1), 1) := by decide +kernel
theorem dX4_fill_103 : decode cX4_fill 103 = .ok (.bipush 8, 2) := by decide +kernel
theorem dX4_fill_105 : decode cX4_fill 105 = .ok (.aload_n 1, 1) := by decide +kernel
theorem dX4_fill_106 : decode cX4_fill 106 = .ok (.getfield 43, 3) := by decide +kernel
theorem dX4_fill_109 : decode cX4_fill 109 = .ok (.invokevirtual 31, 3) := by decide +kernel
theorem dX4_fill_112 : decode cX4_fill 112 = .ok (.return_, 1) := by decide +kernel
theorem dX4_add_0 : decode cX4_add 0 = .ok (.aload_n 0, 1) := by decide +kernel
theorem dX4_add_1 : decode cX4_add 1 = .ok (.getfield 21, 3) := by decide +kernel
theorem dX4_add_4 : decode cX4_add 4 = .ok (.bipush 42, 2) := by decide +kernel
theorem dX4_add_6 : decode cX4_add 6 = .ok (.if_icmp .lt 4, 3) := by decide +kernel
theorem dX4_add_9 : decode cX4_add 9 = .ok (.return_, 1) := by decide +kernel
theorem dX4_add_10 : decode cX4_add 10 = .ok (.aload_n 0, 1) := by decide +kernel
theorem dX4_add_11 : decode cX4_add 11 = .ok (.getfield 11, 3) := by decide +kernel
theorem dX4_add_14 : decode cX4_add 14 = .ok (.aload_n 0, 1) := by decide +kernel
theorem dX4_add_15 : decode cX4_add 15 = .ok (.getfield 21, 3) := by decide +kernel
theorem dX4_add_18 : decode cX4_add 18 = .ok (.iload_n 1, 1) := by decide +kernel
theorem dX4_add_19 : decode cX4_add 19 = .ok (.iastore, 1) := by decide +kernel
theorem dX4_add_20 : decode cX4_add 20 = .ok (.aload_n 0, 1) := by decide +kernel
theorem dX4_add_21 : decode cX4_add 21 = .ok (.getfield 15, 3) := by decide +kernel
theorem dX4_add_24 : decode cX4_add 24 = .ok (.aload_n 0, 1) := by decide +kernel
theorem dX4_add_25 : decode cX4_add 25 = .ok (.getfield 21, 3) := by decide +kernel
theorem dX4_add_28 : decode cX4_add 28 = .ok (.iload_n 2, 1) := by decide +kernel
theorem dX4_add_29 : decode cX4_add 29 = .ok (.iastore, 1) := by decide +kernel
theorem dX4_add_30 : decode cX4_add 30 = .ok (.aload_n 0, 1) := by decide +kernel
theorem dX4_add_31 : decode cX4_add 31 = .ok (.getfield 18, 3) := by decide +kernel
theorem dX4_add_34 : decode cX4_add 34 = .ok (.aload_n 0, 1) := by decide +kernel
theorem dX4_add_35 : decode cX4_add 35 = .ok (.getfield 21, 3) := by decide +kernel
theorem dX4_add_38 : decode cX4_add 38 = .ok (.iload_n 3, 1) := by decide +kernel
theorem dX4_add_39 : decode cX4_add 39 = .ok (.iastore, 1) := by decide +kernel
theorem dX4_add_40 : decode cX4_add 40 = .ok (.aload_n 0, 1) := by decide +kernel
theorem dX4_add_41 : decode cX4_add 41 = .ok (.dup, 1) := by decide +kernel
theorem dX4_add_42 : decode cX4_add 42 = .ok (.getfield 21, 3) := by decide +kernel
theorem dX4_add_45 : decode cX4_add 45 = .ok (.iconst 1, 1) := by decide +kernel
theorem dX4_add_46 : decode cX4_add 46 = .ok (.iadd, 1) := by decide +kernel
theorem dX4_add_47 : decode cX4_add 47 = .ok (.putfield 21, 3) := by decide +kernel
theorem dX4_add_50 : decode cX4_add 50 = .ok (.return_, 1) := by decide +kernel
theorem dX4_firstOtherwise_0 : decode cX4_firstOtherwise 0 = .ok (.aload_n 0, 1) := by decide +kernel
theorem dX4_firstOtherwise_1 : decode cX4_firstOtherwise 1 = .ok (.getfield 21, 3) := by decide +kernel
theorem dX4_firstOtherwise_4 : decode cX4_firstOtherwise 4 = .ok (.aload_n 1, 1) := by decide +kernel
theorem dX4_firstOtherwise_5 : decode cX4_firstOtherwise 5 = .ok (.getfield 21, 3) := by decide +kernel
theorem dX4_firstOtherwise_8 : decode cX4_firstOtherwise 8 = .ok (.invokestatic 46, 3) := by decide +kernel
theorem dX4_firstOtherwise_11 : decode cX4_firstOtherwise 11 = .ok (.istore_n 2, 1) := by decide +kernel
theorem dX4_firstOtherwise_12 : decode cX4_firstOtherwise 12 = .ok (.iconst 0, 1) := by decide +kernel
theorem dX4_firstOtherwise_13 : decode cX4_firstOtherwise 13 = .ok (.istore_n 3, 1) := by decide +kernel
theorem dX4_firstOtherwise_14 : decode cX4_firstOtherwise 14 = .ok (.iload_n 3, 1) := by decide +kernel
theorem dX4_firstOtherwise_15 : decode cX4_firstOtherwise 15 = .ok (.iload_n 2, 1) := by decide +kernel
theorem dX4_firstOtherwise_16 : decode cX4_firstOtherwise 16 = .ok (.if_icmp .ge 41, 3) := by decide +kernel
theorem dX4_firstOtherwise_19 : decode cX4_firstOtherwise 19 = .ok (.aload_n 0, 1) := by decide +kernel
theorem dX4_firstOtherwise_20 : decode cX4_firstOtherwise 20 = .ok (.getfield 15, 3) := by decide +kernel
theorem dX4_firstOtherwise_23 : decode cX4_firstOtherwise 23 = .ok (.iload_n 3, 1) := by decide +kernel
theorem dX4_firstOtherwise_24 : decode cX4_firstOtherwise 24 = .ok (.iaload, 1) := by decide +kernel
theorem dX4_firstOtherwise_25 : decode cX4_firstOtherwise 25 = .ok (.aload_n 1, 1) := by decide +kernel
theorem dX4_firstOtherwise_26 : decode cX4_firstOtherwise 26 = .ok (.getfield 15, 3) := by decide +kernel
theorem dX4_firstOtherwise_29 : decode cX4_firstOtherwise 29 = .ok (.iload_n 3, 1) := by decide +kernel
theorem dX4_firstOtherwise_30 : decode cX4_firstOtherwise 30 = .ok (.iaload, 1) := by decide +kernel
theorem dX4_firstOtherwise_31 : decode cX4_firstOtherwise 31 = .ok (.if_icmp .ne 18, 3) := by decide +kernel
theorem dX4_firstOtherwise_34 : decode cX4_firstOtherwise 34 = .ok (.aload_n 0, 1) := by decide +kernel
theorem dX4_firstOtherwise_35 : decode cX4_firstOtherwise 35 = .ok (.getfield 18, 3) := by decide +kernel
theorem dX4_firstOtherwise_38 : decode cX4_firstOtherwise 38 = .ok (.iload_n 3, 1) := by decide +kernel
theorem dX4_firstOtherwise_39 : decode cX4_firstOtherwise 39 = .ok (.iaload, 1) := by decide +kernel
theorem dX4_firstOtherwise_40 : decode cX4_firstOtherwise 40 = .ok (.aload_n 1, 1) := by decide +kernel
theorem dX4_firstOtherwise_41 : decode cX4_firstOtherwise 41 = .ok (.getfield 18, 3) := by decide +kernel
theorem dX4_firstOtherwise_44 : decode cX4_firstOtherwise 44 = .ok (.iload_n 3, 1) := by decide +kernel
theorem dX4_firstOtherwise_45 : decode cX4_firstOtherwise 45 = .ok (.iaload, 1) := by decide +kernel
theorem dX4_firstOtherwise_46 : decode cX4_firstOtherwise 46 = .ok (.if_icmp .eq 5, 3) := by decide +kernel
theorem dX4_firstOtherwise_49 : decode cX4_firstOtherwise 49 = .ok (.iload_n 3, 1) := by decide +kernel
theorem dX4_firstOtherwise_50 : decode cX4_firstOtherwise 50 = .ok (.ireturn, 1) := by decide +kernel
theorem dX4_firstOtherwise_51 : decode cX4_firstOtherwise 51 = .ok (.iinc 3 1, 3) := by decide +kernel
theorem dX4_firstOtherwise_54 : decode cX4_firstOtherwise 54 = .ok (.goto (-40), 3) := by decide +kernel
theorem dX4_firstOtherwise_57 : decode cX4_firstOtherwise 57 = .ok (.aload_n 0, 1) := by decide +kernel
theorem dX4_firstOtherwise_58 : decode cX4_firstOtherwise 58 = .ok (.getfield 21, 3) := by decide +kernel
theorem dX4_firstOtherwise_61 : decode cX4_firstOtherwise 61 = .ok (.aload_n 1, 1) := by decide +kernel
theorem dX4_firstOtherwise_62 : decode cX4_firstOtherwise 62 = .ok (.getfield 21, 3) := by decide +kernel
theorem dX4_firstOtherwise_65 : decode cX4_firstOtherwise 65 = .ok (.if_icmp .ne 7, 3) := by decide +kernel
theorem dX4_firstOtherwise_68 : decode cX4_firstOtherwise 68 = .ok (.iconst (-1), 1) := by decide +kernel
theorem dX4_firstOtherwise_69 : decode cX4_firstOtherwise 69 = .ok (.goto 4, 3) := by decide +kernel
theorem dX4_firstOtherwise_72 : decode cX4_firstOtherwise 72 = .ok (.iload_n 2, 1) := by decide +kernel
theorem dX4_firstOtherwise_73 : decode cX4_firstOtherwise 73 = .ok (.ireturn, 1) := by decide +kernel
theorem dX5_init_0 : decode cX5_init 0 = .ok (.aload_n 0, 1) := by decide +kernel
theorem dX5_init_1 : decode cX5_init 1 = .ok (.invokespecial 3, 3) := by decide +kernel
theorem dX5_init_4 : decode cX5_init 4 = .ok (.aload_n 0, 1) := by decide +kernel
theorem dX5_init_5 : decode cX5_init 5 = .ok (.bipush 40, 2) := by decide +kernel
theorem dX5_init_7 : decode cX5_init 7 = .ok (.newarray .int, 2) := by decide +kernel
theorem dX5_init_9 : decode cX5_init 9 = .ok (.putfield 9, 3) := by decide +kernel
theorem dX5_init_12 : decode cX5_init 12 = .ok (.aload_n 0, 1) := by decide +kernel
theorem dX5_init_13 : decode cX5_init 13 = .ok (.bipush 40, 2) := by decide +kernel
theorem dX5_init_15 : decode cX5_init 15 = .ok (.newarray .int, 2) := by decide +kernel
theorem dX5_init_17 : decode cX5_init 17 = .ok (.putfield 15, 3) := by decide +kernel
theorem dX5_init_20 : decode cX5_init 20 = .ok (.aload_n 0, 1) := by decide +kernel
theorem dX5_init_21 : decode cX5_init 21 = .ok (.bipush 40, 2) := by decide +kernel
theorem dX5_init_23 : decode cX5_init 23 = .ok (.newarray .int, 2) := by decide +kernel
theorem dX5_init_25 : decode cX5_init 25 = .ok (.putfield 18, 3) := by decide +kernel
theorem dX5_init_28 : decode cX5_init 28 = .ok (.aload_n 0, 1) := by decide +kernel
theorem dX5_init_29 : decode cX5_init 29 = .ok (.bipush 8, 2) := by decide +kernel
theorem dX5_init_31 : decode cX5_init 31 = .ok (.newarray .int, 2) := by decide +kernel
theorem dX5_init_33 : decode cX5_init 33 = .ok (.putfield 21, 3) := by decide +kernel
theorem dX5_init_36 : decode cX5_init 36 = .ok (.aload_n 0, 1) := by decide +kernel
theorem dX5_init_37 : decode cX5_init 37 = .ok (.bipush 8, 2) := by decide +kernel
theorem dX5_init_39 : decode cX5_init 39 = .ok (.newarray .int, 2) := by decide +kernel
theorem dX5_init_41 : decode cX5_init 41 = .ok (.putfield 24, 3) := by decide +kernel
theorem dX5_init_44 : decode cX5_init 44 = .ok (.aload_n 0, 1) := by decide +kernel
theorem dX5_init_45 : decode cX5_init 45 = .ok (.iconst 0, 1) := by decide +kernel
theorem dX5_init_46 : decode cX5_init 46 = .ok (.putfield 27, 3) := by decide +kernel
theorem dX5_init_49 : decode cX5_init 49 = .ok (.aload_n 0, 1) := by decide +kernel
theorem dX5_init_50 : decode cX5_init 50 = .ok (.iconst 0, 1) := by decide +kernel
theorem dX5_init_51 : decode cX5_init 51 = .ok (.putfield 31, 3) := by decide +kernel
theorem dX5_init_54 : decode cX5_init 54 = .ok (.aload_n 0, 1) := by decide +kernel
theorem dX5_init_55 : decode cX5_init 55 = .ok (.iconst 0, 1) := by decide +kernel
theorem dX5_init_56 : decode cX5_init 56 = .ok (.putfield 34, 3) := by decide +kernel
theorem dX5_init_59 : decode cX5_init 59 = .ok (.aload_n 0, 1) := by decide +kernel
theorem dX5_init_60 : decode cX5_init 60 = .ok (.iconst 0, 1) := by decide +kernel
theorem dX5_init_61 : decode cX5_init 61 = .ok (.putfield 37, 3) := by decide +kernel
theorem dX5_init_64 : decode cX5_init 64 = .ok (.aload_n 0, 1) := by decide +kernel
theorem dX5_init_65 : decode cX5_init 65 = .ok (.iconst 0, 1) := by decide +kernel
theorem dX5_init_66 : decode cX5_init 66 = .ok (.putfield 40, 3) := by decide +kernel
theorem dX5_init_69 : decode cX5_init 69 = .ok (.return_, 1) := by decide +kernel
theorem dX5_begin_0 : decode cX5_begin 0 = .ok (.aload_n 0, 1) := by decide +kernel
theorem dX5_begin_1 : decode cX5_begin 1 = .ok (.iconst 0, 1) := by decide +kernel
theorem dX5_begin_2 : decode cX5_begin 2 = .ok (.putfield 27, 3) := by decide +kernel
theorem dX5_begin_5 : decode cX5_begin 5 = .ok (.aload_n 0, 1) := by decide +kernel
theorem dX5_begin_6 : decode cX5_begin 6 = .ok (.iconst 0, 1) := by decide +kernel
theorem dX5_begin_7 : decode cX5_begin 7 = .ok (.putfield 31, 3) := by decide +kernel
theorem dX5_begin_10 : decode cX5_begin 10 = .ok (.aload_n 0, 1) := by decide +kernel
theorem dX5_begin_11 : decode cX5_begin 11 = .ok (.iconst 0, 1) := by decide +kernel
theorem dX5_begin_12 : decode cX5_begin 12 = .ok (.putfield 34, 3) := by decide +kernel
theorem dX5_begin_15 : decode cX5_begin 15 = .ok (.iconst 0, 1) := by decide +kernel
theorem dX5_begin_16 : decode cX5_begin 16 = .ok (.istore_n 1, 1) := by decide +kernel
theorem dX5_begin_17 : decode cX5_begin 17 = .ok (.iload_n 1, 1) := by decide +kernel
theorem dX5_begin_18 : decode cX5_begin 18 = .ok (.bipush 8, 2) := by decide +kernel
theorem dX5_begin_20 : decode cX5_begin 20 = .ok (.if_icmp .ge 23, 3) := by decide +kernel
theorem dX5_begin_23 : decode cX5_begin 23 = .ok (.aload_n 0, 1) := by decide +kernel
theorem dX5_begin_24 : decode cX5_begin 24 = .ok (.getfield 21, 3) := by decide +kernel
theorem dX5_begin_27 : decode cX5_begin 27 = .ok (.iload_n 1, 1) := by decide +kernel
theorem dX5_begin_28 : decode cX5_begin 28 = .ok (.iconst 0, 1) := by decide +kernel
theorem dX5_begin_29 : decode cX5_begin 29 = .ok (.iastore, 1) := by decide +kernel
theorem dX5_begin_30 : decode cX5_begin 30 = .ok (.aload_n 0, 1) := by decide +kernel
theorem dX5_begin_31 : decode cX5_begin 31 = .ok (.getfield 24, 3) := by decide +kernel
theorem dX5_begin_34 : decode cX5_begin 34 = .ok (.iload_n 1, 1) := by decide +kernel
theorem dX5_begin_35 : decode cX5_begin 35 = .ok (.iconst 0, 1) := by decide +kernel
theorem dX5_begin_36 : decode cX5_begin 36 = .ok (.iastore, 1) := by decide +kernel
theorem dX5_begin_37 : decode cX5_begin 37 = .ok (.iinc 1 1, 3) := by decide +kernel
theorem dX5_begin_40 : decode cX5_begin 40 = .ok (.goto (-23), 3) := by decide +kernel
theorem dX5_begin_43 : decode cX5_begin 43 = .ok (.return_, 1) := by decide +kernel
theorem dX5_tell_0 : decode cX5_tell 0 = .ok (.aload_n 0, 1) := by decide +kernel
theorem dX5_tell_1 : decode cX5_tell 1 = .ok (.getfield 27, 3) := by decide +kernel
theorem dX5_tell_4 : decode cX5_tell 4 = .ok (.bipush 40, 2) := by decide +kernel
theorem dX5_tell_6 : decode cX5_tell 6 = .ok (.if_icmp .lt 4, 3) := by decide +kernel
theorem dX5_tell_9 : decode cX5_tell 9 = .ok (.return_, 1) := by decide +kernel
theorem dX5_tell_10 : decode cX5_tell 10 = .ok (.aload_n 0, 1) := by decide +kernel
theorem dX5_tell_11 : decode cX5_tell 11 = .ok (.getfield 9, 3) := by decide +kernel
theorem dX5_tell_14 : decode cX5_tell 14 = .ok (.aload_n 0, 1) := by decide +kernel
theorem dX5_tell_15 : decode cX5_tell 15 = .ok (.getfield 27, 3) := by decide +kernel
theorem dX5_tell_18 : decode cX5_tell 18 = .ok (.iload_n 1, 1) := by decide +kernel
theorem dX5_tell_19 : decode cX5_tell 19 = .ok (.iastore, 1) := by decide +kernel
theorem dX5_tell_20 : decode cX5_tell 20 = .ok (.aload_n 0, 1) := by decide +kernel
theorem dX5_tell_21 : decode cX5_tell 21 = .ok (.getfield 15, 3) := by decide +kernel
theorem dX5_tell_24 : decode cX5_tell 24 = .ok (.aload_n 0, 1) := by decide +kernel
theorem dX5_tell_25 : decode cX5_tell 25 = .ok (.getfield 27, 3) := by decide +kernel
theorem dX5_tell_28 : decode cX5_tell 28 = .ok (.iload_n 2, 1) := by decide +kernel
theorem dX5_tell_29 : decode cX5_tell 29 = .ok (.iastore, 1) := by decide +kernel
theorem dX5_tell_30 : decode cX5_tell 30 = .ok (.aload_n 0, 1) := by decide +kernel
theorem dX5_tell_31 : decode cX5_tell 31 = .ok (.getfield 18, 3) := by decide +kernel
theorem dX5_tell_34 : decode cX5_tell 34 = .ok (.aload_n 0, 1) := by decide +kernel
theorem dX5_tell_35 : decode cX5_tell 35 = .ok (.getfield 27, 3) := by decide +kernel
theorem dX5_tell_38 : decode cX5_tell 38 = .ok (.iload_n 3, 1) := by decide +kernel
theorem dX5_tell_39 : decode cX5_tell 39 = .ok (.iastore, 1) := by decide +kernel
theorem dX5_tell_40 : decode cX5_tell 40 = .ok (.aload_n 0, 1) := by decide +kernel
theorem dX5_tell_41 : decode cX5_tell 41 = .ok (.dup, 1) := by decide +kernel
theorem dX5_tell_42 : decode cX5_tell 42 = .ok (.getfield 27, 3) := by decide +kernel
theorem dX5_tell_45 : decode cX5_tell 45 = .ok (.iconst 1, 1) := by decide +kernel
theorem dX5_tell_46 : decode cX5_tell 46 = .ok (.iadd, 1) := by decide +kernel
theorem dX5_tell_47 : decode cX5_tell 47 = .ok (.putfield 27, 3) := by decide +kernel
theorem dX5_tell_50 : decode cX5_tell 50 = .ok (.return_, 1) := by decide +kernel
theorem dX5_costWith_0 : decode cX5_costWith 0 = .ok (.iconst 0, 1) := by decide +kernel
theorem dX5_costWith_1 : decode cX5_costWith 1 = .ok (.istore_n 2, 1) := by decide +kernel
theorem dX5_costWith_2 : decode cX5_costWith 2 = .ok (.iconst 0, 1) := by decide +kernel
theorem dX5_costWith_3 : decode cX5_costWith 3 = .ok (.istore_n 3, 1) := by decide +kernel
theorem dX5_costWith_4 : decode cX5_costWith 4 = .ok (.iload_n 3, 1) := by decide +kernel
theorem dX5_costWith_5 : decode cX5_costWith 5 = .ok (.bipush 8, 2) := by decide +kernel
theorem dX5_costWith_7 : decode cX5_costWith 7 = .ok (.if_icmp .ge 35, 3) := by decide +kernel
theorem dX5_costWith_10 : decode cX5_costWith 10 = .ok (.iload_n 2, 1) := by decide +kernel
theorem dX5_costWith_11 : decode cX5_costWith 11 = .ok (.iload_n 1, 1) := by decide +kernel
theorem dX5_costWith_12 : decode cX5_costWith 12 = .ok (.iload_n 3, 1) := by decide +kernel
theorem dX5_costWith_13 : decode cX5_costWith 13 = .ok (.ishr, 1) := by decide +kernel
theorem dX5_costWith_14 : decode cX5_costWith 14 = .ok (.iconst 1, 1) := by decide +kernel
theorem dX5_costWith_15 : decode cX5_costWith 15 = .ok (.iand, 1) := by decide +kernel
theorem dX5_costWith_16 : decode cX5_costWith 16 = .ok (.ifCond .eq 12, 3) := by decide +kernel
theorem dX5_costWith_19 : decode cX5_costWith 19 = .ok (.aload_n 0, 1) := by decide +kernel
theorem dX5_costWith_20 : decode cX5_costWith 20 = .ok (.getfield 24, 3) := by decide +kernel
theorem dX5_costWith_23 : decode cX5_costWith 23 = .ok (.iload_n 3, 1) := by decide +kernel
theorem dX5_costWith_24 : decode cX5_costWith 24 = .ok (.iaload, 1) := by decide +kernel
theorem dX5_costWith_25 : decode cX5_costWith 25 = .ok (.goto 9, 3) := by decide +kernel
theorem dX5_costWith_28 : decode cX5_costWith 28 = .ok (.aload_n 0, 1) := by decide +kernel
theorem dX5_costWith_29 : decode cX5_costWith 29 = .ok (.getfield 21, 3) := by decide +kernel
theorem dX5_costWith_32 : decode cX5_costWith 32 = .ok (.iload_n 3, 1) := by decide +kernel
theorem dX5_costWith_33 : decode cX5_costWith 33 = .ok (.iaload, 1) := by decide +kernel
theorem dX5_costWith_34 : decode cX5_costWith 34 = .ok (.iadd, 1) := by decide +kernel
theorem dX5_costWith_35 : decode cX5_costWith 35 = .ok (.istore_n 2, 1) := by decide +kernel
theorem dX5_costWith_36 : decode cX5_costWith 36 = .ok (.iinc 3 1, 3) := by decide +kernel
theorem dX5_costWith_39 : decode cX5_costWith 39 = .ok (.goto (-35), 3) := by decide +kernel
theorem dX5_costWith_42 : decode cX5_costWith 42 = .ok (.iload_n 2, 1) := by decide +kernel
theorem dX5_costWith_43 : decode cX5_costWith 43 = .ok (.ireturn, 1) := by decide +kernel
theorem dX5_alwaysSeenAs_0 : decode cX5_alwaysSeenAs 0 = .ok (.iload_n 2, 1) := by decide +kernel
theorem dX5_alwaysSeenAs_1 : decode cX5_alwaysSeenAs 1 = .ok (.iconst 1, 1) := by decide +kernel
theorem dX5_alwaysSeenAs_2 : decode cX5_alwaysSeenAs 2 = .ok (.iand, 1) := by decide +kernel
theorem dX5_alwaysSeenAs_3 : decode cX5_alwaysSeenAs 3 = .ok (.ifCond .eq 13, 3) := by decide +kernel
theorem dX5_alwaysSeenAs_6 : decode cX5_alwaysSeenAs 6 = .ok (.aload_n 0, 1) := by decide +kernel
theorem dX5_alwaysSeenAs_7 : decode cX5_alwaysSeenAs 7 = .ok (.aload_n 1, 1) := by decide +kernel
theorem dX5_alwaysSeenAs_8 : decode cX5_alwaysSeenAs 8 = .ok (.invokevirtual 44, 3) := by decide +kernel
theorem dX5_alwaysSeenAs_11 : decode cX5_alwaysSeenAs 11 = .ok (.ifCond .ne 5, 3) := by decide +kernel
theorem dX5_alwaysSeenAs_14 : decode cX5_alwaysSeenAs 14 = .ok (.iconst 0, 1) := by decide +kernel
theorem dX5_alwaysSeenAs_15 : decode cX5_alwaysSeenAs 15 = .ok (.ireturn, 1) := by decide +kernel
theorem dX5_alwaysSeenAs_16 : decode cX5_alwaysSeenAs 16 = .ok (.aload_n 0, 1) := by decide +kernel
theorem dX5_alwaysSeenAs_17 : decode cX5_alwaysSeenAs 17 = .ok (.getfield 27, 3) := by decide +kernel
theorem dX5_alwaysSeenAs_20 : decode cX5_alwaysSeenAs 20 = .ok (.aload_n 1, 1) := by decide +kernel
theorem dX5_alwaysSeenAs_21 : decode cX5_alwaysSeenAs 21 = .ok (.getfield 27, 3) := by decide +kernel
theorem dX5_alwaysSeenAs_24 : decode cX5_alwaysSeenAs 24 = .ok (.if_icmp .eq 5, 3) := by decide +kernel
theorem dX5_alwaysSeenAs_27 : decode cX5_alwaysSeenAs 27 = .ok (.iconst 0, 1) := by decide +kernel
theorem dX5_alwaysSeenAs_28 : decode cX5_alwaysSeenAs 28 = .ok (.ireturn, 1) := by decide +kernel
theorem dX5_alwaysSeenAs_29 : decode cX5_alwaysSeenAs 29 = .ok (.iconst 0, 1) := by decide +kernel
theorem dX5_alwaysSeenAs_30 : decode cX5_alwaysSeenAs 30 = .ok (.istore_n 3, 1) := by decide +kernel
theorem dX5_alwaysSeenAs_31 : decode cX5_alwaysSeenAs 31 = .ok (.iload_n 3, 1) := by decide +kernel
theorem dX5_alwaysSeenAs_32 : decode cX5_alwaysSeenAs 32 = .ok (.aload_n 0, 1) := by decide +kernel
theorem dX5_alwaysSeenAs_33 : decode cX5_alwaysSeenAs 33 = .ok (.getfield 27, 3) := by decide +kernel
theorem dX5_alwaysSeenAs_36 : decode cX5_alwaysSeenAs 36 = .ok (.if_icmp .ge 56, 3) := by decide +kernel
theorem dX5_alwaysSeenAs_39 : decode cX5_alwaysSeenAs 39 = .ok (.aload_n 0, 1) := by decide +kernel
theorem dX5_alwaysSeenAs_40 : decode cX5_alwaysSeenAs 40 = .ok (.getfield 9, 3) := by decide +kernel
theorem dX5_alwaysSeenAs_43 : decode cX5_alwaysSeenAs 43 = .ok (.iload_n 3, 1) := by decide +kernel
theorem dX5_alwaysSeenAs_44 : decode cX5_alwaysSeenAs 44 = .ok (.iaload, 1) := by decide +kernel
theorem dX5_alwaysSeenAs_45 : decode cX5_alwaysSeenAs 45 = .ok (.aload_n 1, 1) := by decide +kernel
theorem dX5_alwaysSeenAs_46 : decode cX5_alwaysSeenAs 46 = .ok (.getfield 9, 3) := by decide +kernel
theorem dX5_alwaysSeenAs_49 : decode cX5_alwaysSeenAs 49 = .ok (.iload_n 3, 1) := by decide +kernel
theorem dX5_alwaysSeenAs_50 : decode cX5_alwaysSeenAs 50 = .ok (.iaload, 1) := by decide +kernel
theorem dX5_alwaysSeenAs_51 : decode cX5_alwaysSeenAs 51 = .ok (.if_icmp .ne 33, 3) := by decide +kernel
theorem dX5_alwaysSeenAs_54 : decode cX5_alwaysSeenAs 54 = .ok (.aload_n 0, 1) := by decide +kernel
theorem dX5_alwaysSeenAs_55 : decode cX5_alwaysSeenAs 55 = .ok (.getfield 15, 3) := by decide +kernel
theorem dX5_alwaysSeenAs_58 : decode cX5_alwaysSeenAs 58 = .ok (.iload_n 3, 1) := by decide +kernel
theorem dX5_alwaysSeenAs_59 : decode cX5_alwaysSeenAs 59 = .ok (.iaload, 1) := by decide +kernel
theorem dX5_alwaysSeenAs_60 : decode cX5_alwaysSeenAs 60 = .ok (.aload_n 1, 1) := by decide +kernel
theorem dX5_alwaysSeenAs_61 : decode cX5_alwaysSeenAs 61 = .ok (.getfield 15, 3) := by decide +kernel
theorem dX5_alwaysSeenAs_64 : decode cX5_alwaysSeenAs 64 = .ok (.iload_n 3, 1) := by decide +kernel
theorem dX5_alwaysSeenAs_65 : decode cX5_alwaysSeenAs 65 = .ok (.iaload, 1) := by decide +kernel
theorem dX5_alwaysSeenAs_66 : decode cX5_alwaysSeenAs 66 = .ok (.if_icmp .ne 18, 3) := by decide +kernel
theorem dX5_alwaysSeenAs_69 : decode cX5_alwaysSeenAs 69 = .ok (.aload_n 0, 1) := by decide +kernel
theorem dX5_alwaysSeenAs_70 : decode cX5_alwaysSeenAs 70 = .ok (.getfield 18, 3) := by decide +kernel
theorem dX5_alwaysSeenAs_73 : decode cX5_alwaysSeenAs 73 = .ok (.iload_n 3, 1) := by decide +kernel
theorem dX5_alwaysSeenAs_74 : decode cX5_alwaysSeenAs 74 = .ok (.iaload, 1) := by decide +kernel
theorem dX5_alwaysSeenAs_75 : decode cX5_alwaysSeenAs 75 = .ok (.aload_n 1, 1) := by decide +kernel
theorem dX5_alwaysSeenAs_76 : decode cX5_alwaysSeenAs 76 = .ok (.getfield 18, 3) := by decide +kernel
theorem dX5_alwaysSeenAs_79 : decode cX5_alwaysSeenAs 79 = .ok (.iload_n 3, 1) := by decide +kernel
theorem dX5_alwaysSeenAs_80 : decode cX5_alwaysSeenAs 80 = .ok (.iaload, 1) := by decide +kernel
theorem dX5_alwaysSeenAs_81 : decode cX5_alwaysSeenAs 81 = .ok (.if_icmp .eq 5, 3) := by decide +kernel
theorem dX5_alwaysSeenAs_84 : decode cX5_alwaysSeenAs 84 = .ok (.iconst 0, 1) := by decide +kernel
theorem dX5_alwaysSeenAs_85 : decode cX5_alwaysSeenAs 85 = .ok (.ireturn, 1) := by decide +kernel
theorem dX5_alwaysSeenAs_86 : decode cX5_alwaysSeenAs 86 = .ok (.iinc 3 1, 3) := by decide +kernel
theorem dX5_alwaysSeenAs_89 : decode cX5_alwaysSeenAs 89 = .ok (.goto (-58), 3) := by decide +kernel
theorem dX5_alwaysSeenAs_92 : decode cX5_alwaysSeenAs 92 = .ok (.iconst 1, 1) := by decide +kernel
theorem dX5_alwaysSeenAs_93 : decode cX5_alwaysSeenAs 93 = .ok (.ireturn, 1) := by decide +kernel
theorem dX5_costsAs_0 : decode cX5_costsAs 0 = .ok (.aload_n 0, 1) := by decide +kernel
theorem dX5_costsAs_1 : decode cX5_costsAs 1 = .ok (.getfield 40, 3) := by decide +kernel
theorem dX5_costsAs_4 : decode cX5_costsAs 4 = .ok (.aload_n 1, 1) := by decide +kernel
theorem dX5_costsAs_5 : decode cX5_costsAs 5 = .ok (.getfield 40, 3) := by decide +kernel
theorem dX5_costsAs_8 : decode cX5_costsAs 8 = .ok (.if_icmp .eq 5, 3) := by decide +kernel
theorem dX5_costsAs_11 : decode cX5_costsAs 11 = .ok (.iconst 0, 1) := by decide +kernel
theorem dX5_costsAs_12 : decode cX5_costsAs 12 = .ok (.ireturn, 1) := by decide +kernel
theorem dX5_costsAs_13 : decode cX5_costsAs 13 = .ok (.iconst 0, 1) := by decide +kernel
theorem dX5_costsAs_14 : decode cX5_costsAs 14 = .ok (.istore_n 2, 1) := by decide +kernel
theorem dX5_costsAs_15 : decode cX5_costsAs 15 = .ok (.iload_n 2, 1) := by decide +kernel
theorem dX5_costsAs_16 : decode cX5_costsAs 16 = .ok (.bipush 8, 2) := by decide +kernel
theorem dX5_costsAs_18 : decode cX5_costsAs 18 = .ok (.if_icmp .ge 41, 3) := by decide +kernel
theorem dX5_costsAs_21 : decode cX5_costsAs 21 = .ok (.aload_n 0, 1) := by decide +kernel
theorem dX5_costsAs_22 : decode cX5_costsAs 22 = .ok (.getfield 21, 3) := by decide +kernel
theorem dX5_costsAs_25 : decode cX5_costsAs 25 = .ok (.iload_n 2, 1) := by decide +kernel
theorem dX5_costsAs_26 : decode cX5_costsAs 26 = .ok (.iaload, 1) := by decide +kernel
theorem dX5_costsAs_27 : decode cX5_costsAs 27 = .ok (.aload_n 1, 1) := by decide +kernel
theorem dX5_costsAs_28 : decode cX5_costsAs 28 = .ok (.getfield 21, 3) := by decide +kernel
theorem dX5_costsAs_31 : decode cX5_costsAs 31 = .ok (.iload_n 2, 1) := by decide +kernel
theorem dX5_costsAs_32 : decode cX5_costsAs 32 = .ok (.iaload, 1) := by decide +kernel
theorem dX5_costsAs_33 : decode cX5_costsAs 33 = .ok (.if_icmp .ne 18, 3) := by decide +kernel
theorem dX5_costsAs_36 : decode cX5_costsAs 36 = .ok (.aload_n 0, 1) := by decide +kernel
theorem dX5_costsAs_37 : decode cX5_costsAs 37 = .ok (.getfield 24, 3) := by decide +kernel
theorem dX5_costsAs_40 : decode cX5_costsAs 40 = .ok (.iload_n 2, 1) := by decide +kernel
theorem dX5_costsAs_41 : decode cX5_costsAs 41 = .ok (.iaload, 1) := by decide +kernel
theorem dX5_costsAs_42 : decode cX5_costsAs 42 = .ok (.aload_n 1, 1) := by decide +kernel
theorem dX5_costsAs_43 : decode cX5_costsAs 43 = .ok (.getfield 24, 3) := by decide +kernel
theorem dX5_costsAs_46 : decode cX5_costsAs 46 = .ok (.iload_n 2, 1) := by decide +kernel
theorem dX5_costsAs_47 : decode cX5_costsAs 47 = .ok (.iaload, 1) := by decide +kernel
theorem dX5_costsAs_48 : decode cX5_costsAs 48 = .ok (.if_icmp .eq 5, 3) := by decide +kernel
theorem dX5_costsAs_51 : decode cX5_costsAs 51 = .ok (.iconst 0, 1) := by decide +kernel
theorem dX5_costsAs_52 : decode cX5_costsAs 52 = .ok (.ireturn, 1) := by decide +kernel
theorem dX5_costsAs_53 : decode cX5_costsAs 53 = .ok (.iinc 2 1, 3) := by decide +kernel
theorem dX5_costsAs_56 : decode cX5_costsAs 56 = .ok (.goto (-41), 3) := by decide +kernel
theorem dX5_costsAs_59 : decode cX5_costsAs 59 = .ok (.iconst 1, 1) := by decide +kernel
theorem dX5_costsAs_60 : decode cX5_costsAs 60 = .ok (.ireturn, 1) := by decide +kernel
theorem dX6_init_0 : decode cX6_init 0 = .ok (.aload_n 0, 1) := by decide +kernel
theorem dX6_init_1 : decode cX6_init 1 = .ok (.invokespecial 3, 3) := by decide +kernel
theorem dX6_init_4 : decode cX6_init 4 = .ok (.aload_n 0, 1) := by decide +kernel
theorem dX6_init_5 : decode cX6_init 5 = .ok (.bipush 15, 2) := by decide +kernel
theorem dX6_init_7 : decode cX6_init 7 = .ok (.putfield 9, 3) := by decide +kernel
theorem dX6_init_10 : decode cX6_init 10 = .ok (.aload_n 0, 1) := by decide +kernel
theorem dX6_init_11 : decode cX6_init 11 = .ok (.iconst 1, 1) := by decide +kernel
theorem dX6_init_12 : decode cX6_init 12 = .ok (.putfield 15, 3) := by decide +kernel
theorem dX6_init_15 : decode cX6_init 15 = .ok (.aload_n 0, 1) := by decide +kernel
theorem dX6_init_16 : decode cX6_init 16 = .ok (.iconst 0, 1) := by decide +kernel
theorem dX6_init_17 : decode cX6_init 17 = .ok (.putfield 18, 3) := by decide +kernel
theorem dX6_init_20 : decode cX6_init 20 = .ok (.return_, 1) := by decide +kernel
theorem dX6_holdsEven_0 : decode cX6_holdsEven 0 = .ok (.aload_n 0, 1) := by decide +kernel
theorem dX6_holdsEven_1 : decode cX6_holdsEven 1 = .ok (.getfield 18, 3) := by decide +kernel
theorem dX6_holdsEven_4 : decode cX6_holdsEven 4 = .ok (.iload_n 1, 1) := by decide +kernel
theorem dX6_holdsEven_5 : decode cX6_holdsEven 5 = .ok (.ishr, 1) := by decide +kernel
theorem dX6_holdsEven_6 : decode cX6_holdsEven 6 = .ok (.iconst 1, 1) := by decide +kernel
theorem dX6_holdsEven_7 : decode cX6_holdsEven 7 = .ok (.iand, 1) := by decide +kernel
theorem dX6_holdsEven_8 : decode cX6_holdsEven 8 = .ok (.ifCond .eq 7, 3) := by decide +kernel
theorem dX6_holdsEven_11 : decode cX6_holdsEven 11 = .ok (.iconst 1, 1) := by decide +kernel
theorem dX6_holdsEven_12 : decode cX6_holdsEven 12 = .ok (.goto 4, 3) := by decide +kernel
theorem dX6_holdsEven_15 : decode cX6_holdsEven 15 = .ok (.iconst 0, 1) := by decide +kernel
theorem dX6_holdsEven_16 : decode cX6_holdsEven 16 = .ok (.ireturn, 1) := by decide +kernel
theorem dX7_init_0 : decode cX7_init 0 = .ok (.aload_n 0, 1) := by decide +kernel
theorem dX7_init_1 : decode cX7_init 1 = .ok (.invokespecial 3, 3) := by decide +kernel
theorem dX7_init_4 : decode cX7_init 4 = .ok (.aload_n 0, 1) := by decide +kernel
theorem dX7_init_5 : decode cX7_init 5 = .ok (.new 9, 3) := by decide +kernel
theorem dX7_init_8 : decode cX7_init 8 = .ok (.dup, 1) := by decide +kernel
theorem dX7_init_9 : decode cX7_init 9 = .ok (.invokespecial 11, 3) := by decide +kernel
theorem dX7_init_12 : decode cX7_init 12 = .ok (.putfield 12, 3) := by decide +kernel
theorem dX7_init_15 : decode cX7_init 15 = .ok (.aload_n 0, 1) := by decide +kernel
theorem dX7_init_16 : decode cX7_init 16 = .ok (.new 16, 3) := by decide +kernel
theorem dX7_init_19 : decode cX7_init 19 = .ok (.dup, 1) := by decide +kernel
theorem dX7_init_20 : decode cX7_init 20 = .ok (.invokespecial 18, 3) := by decide +kernel
theorem dX7_init_23 : decode cX7_init 23 = .ok (.putfield 19, 3) := by decide +kernel
theorem dX7_init_26 : decode cX7_init 26 = .ok (.aload_n 0, 1) := by decide +kernel
theorem dX7_init_27 : decode cX7_init 27 = .ok (.new 23, 3) := by decide +kernel
theorem dX7_init_30 : decode cX7_init 30 = .ok (.dup, 1) := by decide +kernel
theorem dX7_init_31 : decode cX7_init 31 = .ok (.invokespecial 25, 3) := by decide +kernel
theorem dX7_init_34 : decode cX7_init 34 = .ok (.putfield 26, 3) := by decide +kernel
theorem dX7_init_37 : decode cX7_init 37 = .ok (.aload_n 0, 1) := by decide +kernel
theorem dX7_init_38 : decode cX7_init 38 = .ok (.new 30, 3) := by decide +kernel
theorem dX7_init_41 : decode cX7_init 41 = .ok (.dup, 1) := by decide +kernel
theorem dX7_init_42 : decode cX7_init 42 = .ok (.invokespecial 32, 3) := by decide +kernel
theorem dX7_init_45 : decode cX7_init 45 = .ok (.putfield 33, 3) := by decide +kernel
theorem dX7_init_48 : decode cX7_init 48 = .ok (.aload_n 0, 1) := by decide +kernel
theorem dX7_init_49 : decode cX7_init 49 = .ok (.new 37, 3) := by decide +kernel
theorem dX7_init_52 : decode cX7_init 52 = .ok (.dup, 1) := by decide +kernel
theorem dX7_init_53 : decode cX7_init 53 = .ok (.invokespecial 39, 3) := by decide +kernel
theorem dX7_init_56 : decode cX7_init 56 = .ok (.putfield 40, 3) := by decide +kernel
theorem dX7_init_59 : decode cX7_init 59 = .ok (.aload_n 0, 1) := by decide +kernel
theorem dX7_init_60 : decode cX7_init 60 = .ok (.new 37, 3) := by decide +kernel
theorem dX7_init_63 : decode cX7_init 63 = .ok (.dup, 1) := by decide +kernel
theorem dX7_init_64 : decode cX7_init 64 = .ok (.invokespecial 39, 3) := by decide +kernel
theorem dX7_init_67 : decode cX7_init 67 = .ok (.putfield 44, 3) := by decide +kernel
theorem dX7_init_70 : decode cX7_init 70 = .ok (.aload_n 0, 1) := by decide +kernel
theorem dX7_init_71 : decode cX7_init 71 = .ok (.new 47, 3) := by decide +kernel
theorem dX7_init_74 : decode cX7_init 74 = .ok (.dup, 1) := by decide +kernel
theorem dX7_init_75 : decode cX7_init 75 = .ok (.invokespecial 49, 3) := by decide +kernel
theorem dX7_init_78 : decode cX7_init 78 = .ok (.putfield 50, 3) := by decide +kernel
theorem dX7_init_81 : decode cX7_init 81 = .ok (.aload_n 0, 1) := by decide +kernel
theorem dX7_init_82 : decode cX7_init 82 = .ok (.new 54, 3) := by decide +kernel
theorem dX7_init_85 : decode cX7_init 85 = .ok (.dup, 1) := by decide +kernel
theorem dX7_init_86 : decode cX7_init 86 = .ok (.invokespecial 56, 3) := by decide +kernel
theorem dX7_init_89 : decode cX7_init 89 = .ok (.putfield 57, 3) := by decide +kernel
theorem dX7_init_92 : decode cX7_init 92 = .ok (.aload_n 0, 1) := by decide +kernel
theorem dX7_init_93 : decode cX7_init 93 = .ok (.iconst (-1), 1) := by decide +kernel
theorem dX7_init_94 : decode cX7_init 94 = .ok (.putfield 61, 3) := by decide +kernel
theorem dX7_init_97 : decode cX7_init 97 = .ok (.return_, 1) := by decide +kernel
theorem dX7_order_0 : decode cX7_order 0 = .ok (.iload_n 1, 1) := by decide +kernel
theorem dX7_order_1 : decode cX7_order 1 = .ok (.invokestatic 65, 3) := by decide +kernel
theorem dX7_order_4 : decode cX7_order 4 = .ok (.ifCond .eq 15, 3) := by decide +kernel
theorem dX7_order_7 : decode cX7_order 7 = .ok (.aload_n 0, 1) := by decide +kernel
theorem dX7_order_8 : decode cX7_order 8 = .ok (.getfield 12, 3) := by decide +kernel
theorem dX7_order_11 : decode cX7_order 11 = .ok (.getfield 69, 3) := by decide +kernel
end
section
theorem dX7_order_14 : decode cX7_order 14 = .ok (.bipush 8, 2) := by decide +kernel
theorem dX7_order_16 : decode cX7_order 16 = .ok (.if_icmp .lt 5, 3) := by decide +kernel
theorem dX7_order_19 : decode cX7_order 19 = .ok (.iconst (-1), 1) := by decide +kernel
theorem dX7_order_20 : decode cX7_order 20 = .ok (.ireturn, 1) := by decide +kernel
theorem dX7_order_21 : decode cX7_order 21 = .ok (.aload_n 0, 1) := by decide +kernel
theorem dX7_order_22 : decode cX7_order 22 = .ok (.getfield 12, 3) := by decide +kernel
theorem dX7_order_25 : decode cX7_order 25 = .ok (.iload_n 1, 1) := by decide +kernel
theorem dX7_order_26 : decode cX7_order 26 = .ok (.invokevirtual 72, 3) := by decide +kernel
theorem dX7_order_29 : decode cX7_order 29 = .ok (.istore_n 2, 1) := by decide +kernel
theorem dX7_order_30 : decode cX7_order 30 = .ok (.aload_n 0, 1) := by decide +kernel
theorem dX7_order_31 : decode cX7_order 31 = .ok (.invokevirtual 76, 3) := by decide +kernel
theorem dX7_order_34 : decode cX7_order 34 = .ok (.iload_n 2, 1) := by decide +kernel
theorem dX7_order_35 : decode cX7_order 35 = .ok (.ireturn, 1) := by decide +kernel
theorem dX7_change_0 : decode cX7_change 0 = .ok (.iload_n 2, 1) := by decide +kernel
theorem dX7_change_1 : decode cX7_change 1 = .ok (.invokestatic 65, 3) := by decide +kernel
theorem dX7_change_4 : decode cX7_change 4 = .ok (.ifCond .eq 14, 3) := by decide +kernel
theorem dX7_change_7 : decode cX7_change 7 = .ok (.aload_n 0, 1) := by decide +kernel
theorem dX7_change_8 : decode cX7_change 8 = .ok (.getfield 12, 3) := by decide +kernel
theorem dX7_change_11 : decode cX7_change 11 = .ok (.iload_n 1, 1) := by decide +kernel
theorem dX7_change_12 : decode cX7_change 12 = .ok (.invokevirtual 79, 3) := by decide +kernel
theorem dX7_change_15 : decode cX7_change 15 = .ok (.ifCond .ne 5, 3) := by decide +kernel
theorem dX7_change_18 : decode cX7_change 18 = .ok (.iconst 0, 1) := by decide +kernel
theorem dX7_change_19 : decode cX7_change 19 = .ok (.ireturn, 1) := by decide +kernel
theorem dX7_change_20 : decode cX7_change 20 = .ok (.aload_n 0, 1) := by decide +kernel
theorem dX7_change_21 : decode cX7_change 21 = .ok (.getfield 12, 3) := by decide +kernel
theorem dX7_change_24 : decode cX7_change 24 = .ok (.getfield 82, 3) := by decide +kernel
theorem dX7_change_27 : decode cX7_change 27 = .ok (.iload_n 1, 1) := by decide +kernel
theorem dX7_change_28 : decode cX7_change 28 = .ok (.iload_n 2, 1) := by decide +kernel
theorem dX7_change_29 : decode cX7_change 29 = .ok (.iastore, 1) := by decide +kernel
theorem dX7_change_30 : decode cX7_change 30 = .ok (.aload_n 0, 1) := by decide +kernel
theorem dX7_change_31 : decode cX7_change 31 = .ok (.invokevirtual 76, 3) := by decide +kernel
theorem dX7_change_34 : decode cX7_change 34 = .ok (.iconst 1, 1) := by decide +kernel
theorem dX7_change_35 : decode cX7_change 35 = .ok (.ireturn, 1) := by decide +kernel
theorem dX7_clear_0 : decode cX7_clear 0 = .ok (.aload_n 0, 1) := by decide +kernel
theorem dX7_clear_1 : decode cX7_clear 1 = .ok (.getfield 12, 3) := by decide +kernel
theorem dX7_clear_4 : decode cX7_clear 4 = .ok (.invokevirtual 86, 3) := by decide +kernel
theorem dX7_clear_7 : decode cX7_clear 7 = .ok (.aload_n 0, 1) := by decide +kernel
theorem dX7_clear_8 : decode cX7_clear 8 = .ok (.getfield 19, 3) := by decide +kernel
theorem dX7_clear_11 : decode cX7_clear 11 = .ok (.iconst 0, 1) := by decide +kernel
theorem dX7_clear_12 : decode cX7_clear 12 = .ok (.putfield 89, 3) := by decide +kernel
theorem dX7_clear_15 : decode cX7_clear 15 = .ok (.aload_n 0, 1) := by decide +kernel
theorem dX7_clear_16 : decode cX7_clear 16 = .ok (.invokevirtual 76, 3) := by decide +kernel
theorem dX7_clear_19 : decode cX7_clear 19 = .ok (.return_, 1) := by decide +kernel
theorem dX7_word_0 : decode cX7_word 0 = .ok (.iload_n 1, 1) := by decide +kernel
theorem dX7_word_1 : decode cX7_word 1 = .ok (.ifCond .lt 9, 3) := by decide +kernel
theorem dX7_word_4 : decode cX7_word 4 = .ok (.iload_n 1, 1) := by decide +kernel
theorem dX7_word_5 : decode cX7_word 5 = .ok (.bipush 8, 2) := by decide +kernel
theorem dX7_word_7 : decode cX7_word 7 = .ok (.if_icmp .lt 5, 3) := by decide +kernel
theorem dX7_word_10 : decode cX7_word 10 = .ok (.iconst 0, 1) := by decide +kernel
theorem dX7_word_11 : decode cX7_word 11 = .ok (.ireturn, 1) := by decide +kernel
theorem dX7_word_12 : decode cX7_word 12 = .ok (.aload_n 0, 1) := by decide +kernel
theorem dX7_word_13 : decode cX7_word 13 = .ok (.getfield 12, 3) := by decide +kernel
theorem dX7_word_16 : decode cX7_word 16 = .ok (.getfield 92, 3) := by decide +kernel
theorem dX7_word_19 : decode cX7_word 19 = .ok (.iload_n 1, 1) := by decide +kernel
theorem dX7_word_20 : decode cX7_word 20 = .ok (.iload_n 2, 1) := by decide +kernel
theorem dX7_word_21 : decode cX7_word 21 = .ok (.iastore, 1) := by decide +kernel
theorem dX7_word_22 : decode cX7_word 22 = .ok (.aload_n 0, 1) := by decide +kernel
theorem dX7_word_23 : decode cX7_word 23 = .ok (.invokevirtual 76, 3) := by decide +kernel
theorem dX7_word_26 : decode cX7_word 26 = .ok (.iconst 1, 1) := by decide +kernel
theorem dX7_word_27 : decode cX7_word 27 = .ok (.ireturn, 1) := by decide +kernel
theorem dX7_watch_0 : decode cX7_watch 0 = .ok (.iload_n 1, 1) := by decide +kernel
theorem dX7_watch_1 : decode cX7_watch 1 = .ok (.ifCond .lt 16, 3) := by decide +kernel
theorem dX7_watch_4 : decode cX7_watch 4 = .ok (.iload_n 1, 1) := by decide +kernel
theorem dX7_watch_5 : decode cX7_watch 5 = .ok (.bipush 15, 2) := by decide +kernel
theorem dX7_watch_7 : decode cX7_watch 7 = .ok (.if_icmp .gt 10, 3) := by decide +kernel
theorem dX7_watch_10 : decode cX7_watch 10 = .ok (.iload_n 2, 1) := by decide +kernel
theorem dX7_watch_11 : decode cX7_watch 11 = .ok (.invokestatic 95, 3) := by decide +kernel
theorem dX7_watch_14 : decode cX7_watch 14 = .ok (.ifCond .ne 5, 3) := by decide +kernel
theorem dX7_watch_17 : decode cX7_watch 17 = .ok (.iconst 0, 1) := by decide +kernel
theorem dX7_watch_18 : decode cX7_watch 18 = .ok (.ireturn, 1) := by decide +kernel
theorem dX7_watch_19 : decode cX7_watch 19 = .ok (.aload_n 0, 1) := by decide +kernel
theorem dX7_watch_20 : decode cX7_watch 20 = .ok (.getfield 19, 3) := by decide +kernel
theorem dX7_watch_23 : decode cX7_watch 23 = .ok (.iload_n 1, 1) := by decide +kernel
theorem dX7_watch_24 : decode cX7_watch 24 = .ok (.putfield 98, 3) := by decide +kernel
theorem dX7_watch_27 : decode cX7_watch 27 = .ok (.aload_n 0, 1) := by decide +kernel
theorem dX7_watch_28 : decode cX7_watch 28 = .ok (.getfield 19, 3) := by decide +kernel
theorem dX7_watch_31 : decode cX7_watch 31 = .ok (.iload_n 2, 1) := by decide +kernel
theorem dX7_watch_32 : decode cX7_watch 32 = .ok (.putfield 101, 3) := by decide +kernel
theorem dX7_watch_35 : decode cX7_watch 35 = .ok (.aload_n 0, 1) := by decide +kernel
theorem dX7_watch_36 : decode cX7_watch 36 = .ok (.invokevirtual 76, 3) := by decide +kernel
theorem dX7_watch_39 : decode cX7_watch 39 = .ok (.iconst 1, 1) := by decide +kernel
theorem dX7_watch_40 : decode cX7_watch 40 = .ok (.ireturn, 1) := by decide +kernel
theorem dX7_even_0 : decode cX7_even 0 = .ok (.aload_n 0, 1) := by decide +kernel
theorem dX7_even_1 : decode cX7_even 1 = .ok (.getfield 12, 3) := by decide +kernel
theorem dX7_even_4 : decode cX7_even 4 = .ok (.iload_n 1, 1) := by decide +kernel
theorem dX7_even_5 : decode cX7_even 5 = .ok (.invokevirtual 79, 3) := by decide +kernel
theorem dX7_even_8 : decode cX7_even 8 = .ok (.ifCond .eq 15, 3) := by decide +kernel
theorem dX7_even_11 : decode cX7_even 11 = .ok (.aload_n 0, 1) := by decide +kernel
theorem dX7_even_12 : decode cX7_even 12 = .ok (.getfield 19, 3) := by decide +kernel
theorem dX7_even_15 : decode cX7_even 15 = .ok (.iload_n 1, 1) := by decide +kernel
theorem dX7_even_16 : decode cX7_even 16 = .ok (.invokevirtual 104, 3) := by decide +kernel
theorem dX7_even_19 : decode cX7_even 19 = .ok (.iload_n 2, 1) := by decide +kernel
theorem dX7_even_20 : decode cX7_even 20 = .ok (.if_icmp .ne 5, 3) := by decide +kernel
theorem dX7_even_23 : decode cX7_even 23 = .ok (.iconst 0, 1) := by decide +kernel
theorem dX7_even_24 : decode cX7_even 24 = .ok (.ireturn, 1) := by decide +kernel
theorem dX7_even_25 : decode cX7_even 25 = .ok (.aload_n 0, 1) := by decide +kernel
theorem dX7_even_26 : decode cX7_even 26 = .ok (.getfield 19, 3) := by decide +kernel
theorem dX7_even_29 : decode cX7_even 29 = .ok (.dup, 1) := by decide +kernel
theorem dX7_even_30 : decode cX7_even 30 = .ok (.getfield 89, 3) := by decide +kernel
theorem dX7_even_33 : decode cX7_even 33 = .ok (.iconst 1, 1) := by decide +kernel
theorem dX7_even_34 : decode cX7_even 34 = .ok (.iload_n 1, 1) := by decide +kernel
theorem dX7_even_35 : decode cX7_even 35 = .ok (.ishl, 1) := by decide +kernel
theorem dX7_even_36 : decode cX7_even 36 = .ok (.ixor, 1) := by decide +kernel
theorem dX7_even_37 : decode cX7_even 37 = .ok (.putfield 89, 3) := by decide +kernel
theorem dX7_even_40 : decode cX7_even 40 = .ok (.aload_n 0, 1) := by decide +kernel
theorem dX7_even_41 : decode cX7_even 41 = .ok (.getfield 50, 3) := by decide +kernel
theorem dX7_even_44 : decode cX7_even 44 = .ok (.invokevirtual 107, 3) := by decide +kernel
theorem dX7_even_47 : decode cX7_even 47 = .ok (.iconst 1, 1) := by decide +kernel
theorem dX7_even_48 : decode cX7_even 48 = .ok (.ireturn, 1) := by decide +kernel
theorem dX7_price_0 : decode cX7_price 0 = .ok (.aload_n 0, 1) := by decide +kernel
theorem dX7_price_1 : decode cX7_price 1 = .ok (.getfield 12, 3) := by decide +kernel
theorem dX7_price_4 : decode cX7_price 4 = .ok (.iload_n 1, 1) := by decide +kernel
theorem dX7_price_5 : decode cX7_price 5 = .ok (.invokevirtual 79, 3) := by decide +kernel
theorem dX7_price_8 : decode cX7_price 8 = .ok (.ifCond .eq 13, 3) := by decide +kernel
theorem dX7_price_11 : decode cX7_price 11 = .ok (.iload_n 2, 1) := by decide +kernel
theorem dX7_price_12 : decode cX7_price 12 = .ok (.ifCond .lt 9, 3) := by decide +kernel
theorem dX7_price_15 : decode cX7_price 15 = .ok (.iload_n 2, 1) := by decide +kernel
theorem dX7_price_16 : decode cX7_price 16 = .ok (.bipush 99, 2) := by decide +kernel
theorem dX7_price_18 : decode cX7_price 18 = .ok (.if_icmp .le 5, 3) := by decide +kernel
theorem dX7_price_21 : decode cX7_price 21 = .ok (.iconst 0, 1) := by decide +kernel
theorem dX7_price_22 : decode cX7_price 22 = .ok (.ireturn, 1) := by decide +kernel
theorem dX7_price_23 : decode cX7_price 23 = .ok (.aload_n 0, 1) := by decide +kernel
theorem dX7_price_24 : decode cX7_price 24 = .ok (.getfield 12, 3) := by decide +kernel
theorem dX7_price_27 : decode cX7_price 27 = .ok (.getfield 110, 3) := by decide +kernel
theorem dX7_price_30 : decode cX7_price 30 = .ok (.iload_n 1, 1) := by decide +kernel
theorem dX7_price_31 : decode cX7_price 31 = .ok (.iload_n 2, 1) := by decide +kernel
theorem dX7_price_32 : decode cX7_price 32 = .ok (.iastore, 1) := by decide +kernel
theorem dX7_price_33 : decode cX7_price 33 = .ok (.iconst 1, 1) := by decide +kernel
theorem dX7_price_34 : decode cX7_price 34 = .ok (.ireturn, 1) := by decide +kernel
theorem dX7_look_0 : decode cX7_look 0 = .ok (.iload_n 1, 1) := by decide +kernel
theorem dX7_look_1 : decode cX7_look 1 = .ok (.tableswitch 63 0 3 #[31, 39, 47, 55], 31) := by decide +kernel
theorem dX7_look_32 : decode cX7_look 32 = .ok (.aload_n 0, 1) := by decide +kernel
theorem dX7_look_33 : decode cX7_look 33 = .ok (.getfield 12, 3) := by decide +kernel
theorem dX7_look_36 : decode cX7_look 36 = .ok (.getfield 69, 3) := by decide +kernel
theorem dX7_look_39 : decode cX7_look 39 = .ok (.ireturn, 1) := by decide +kernel
theorem dX7_look_40 : decode cX7_look 40 = .ok (.aload_n 0, 1) := by decide +kernel
theorem dX7_look_41 : decode cX7_look 41 = .ok (.getfield 19, 3) := by decide +kernel
theorem dX7_look_44 : decode cX7_look 44 = .ok (.getfield 98, 3) := by decide +kernel
theorem dX7_look_47 : decode cX7_look 47 = .ok (.ireturn, 1) := by decide +kernel
theorem dX7_look_48 : decode cX7_look 48 = .ok (.aload_n 0, 1) := by decide +kernel
theorem dX7_look_49 : decode cX7_look 49 = .ok (.getfield 19, 3) := by decide +kernel
theorem dX7_look_52 : decode cX7_look 52 = .ok (.getfield 101, 3) := by decide +kernel
theorem dX7_look_55 : decode cX7_look 55 = .ok (.ireturn, 1) := by decide +kernel
theorem dX7_look_56 : decode cX7_look 56 = .ok (.aload_n 0, 1) := by decide +kernel
theorem dX7_look_57 : decode cX7_look 57 = .ok (.getfield 19, 3) := by decide +kernel
theorem dX7_look_60 : decode cX7_look 60 = .ok (.getfield 89, 3) := by decide +kernel
theorem dX7_look_63 : decode cX7_look 63 = .ok (.ireturn, 1) := by decide +kernel
theorem dX7_look_64 : decode cX7_look 64 = .ok (.aload_n 0, 1) := by decide +kernel
theorem dX7_look_65 : decode cX7_look 65 = .ok (.iload_n 1, 1) := by decide +kernel
theorem dX7_look_66 : decode cX7_look 66 = .ok (.invokevirtual 113, 3) := by decide +kernel
theorem dX7_look_69 : decode cX7_look 69 = .ok (.ireturn, 1) := by decide +kernel
theorem dX7_lookInRows_0 : decode cX7_lookInRows 0 = .ok (.iload_n 1, 1) := by decide +kernel
theorem dX7_lookInRows_1 : decode cX7_lookInRows 1 = .ok (.bipush 10, 2) := by decide +kernel
theorem dX7_lookInRows_3 : decode cX7_lookInRows 3 = .ok (.if_icmp .lt 30, 3) := by decide +kernel
theorem dX7_lookInRows_6 : decode cX7_lookInRows 6 = .ok (.iload_n 1, 1) := by decide +kernel
theorem dX7_lookInRows_7 : decode cX7_lookInRows 7 = .ok (.bipush 10, 2) := by decide +kernel
theorem dX7_lookInRows_9 : decode cX7_lookInRows 9 = .ok (.aload_n 0, 1) := by decide +kernel
theorem dX7_lookInRows_10 : decode cX7_lookInRows 10 = .ok (.getfield 12, 3) := by decide +kernel
theorem dX7_lookInRows_13 : decode cX7_lookInRows 13 = .ok (.getfield 69, 3) := by decide +kernel
theorem dX7_lookInRows_16 : decode cX7_lookInRows 16 = .ok (.iadd, 1) := by decide +kernel
theorem dX7_lookInRows_17 : decode cX7_lookInRows 17 = .ok (.if_icmp .ge 16, 3) := by decide +kernel
theorem dX7_lookInRows_20 : decode cX7_lookInRows 20 = .ok (.aload_n 0, 1) := by decide +kernel
theorem dX7_lookInRows_21 : decode cX7_lookInRows 21 = .ok (.getfield 12, 3) := by decide +kernel
theorem dX7_lookInRows_24 : decode cX7_lookInRows 24 = .ok (.getfield 82, 3) := by decide +kernel
theorem dX7_lookInRows_27 : decode cX7_lookInRows 27 = .ok (.iload_n 1, 1) := by decide +kernel
theorem dX7_lookInRows_28 : decode cX7_lookInRows 28 = .ok (.bipush 10, 2) := by decide +kernel
theorem dX7_lookInRows_30 : decode cX7_lookInRows 30 = .ok (.isub, 1) := by decide +kernel
theorem dX7_lookInRows_31 : decode cX7_lookInRows 31 = .ok (.iaload, 1) := by decide +kernel
theorem dX7_lookInRows_32 : decode cX7_lookInRows 32 = .ok (.ireturn, 1) := by decide +kernel
theorem dX7_lookInRows_33 : decode cX7_lookInRows 33 = .ok (.iload_n 1, 1) := by decide +kernel
theorem dX7_lookInRows_34 : decode cX7_lookInRows 34 = .ok (.bipush 30, 2) := by decide +kernel
theorem dX7_lookInRows_36 : decode cX7_lookInRows 36 = .ok (.if_icmp .lt 30, 3) := by decide +kernel
theorem dX7_lookInRows_39 : decode cX7_lookInRows 39 = .ok (.iload_n 1, 1) := by decide +kernel
theorem dX7_lookInRows_40 : decode cX7_lookInRows 40 = .ok (.bipush 30, 2) := by decide +kernel
theorem dX7_lookInRows_42 : decode cX7_lookInRows 42 = .ok (.aload_n 0, 1) := by decide +kernel
theorem dX7_lookInRows_43 : decode cX7_lookInRows 43 = .ok (.getfield 12, 3) := by decide +kernel
theorem dX7_lookInRows_46 : decode cX7_lookInRows 46 = .ok (.getfield 69, 3) := by decide +kernel
theorem dX7_lookInRows_49 : decode cX7_lookInRows 49 = .ok (.iadd, 1) := by decide +kernel
theorem dX7_lookInRows_50 : decode cX7_lookInRows 50 = .ok (.if_icmp .ge 16, 3) := by decide +kernel
theorem dX7_lookInRows_53 : decode cX7_lookInRows 53 = .ok (.aload_n 0, 1) := by decide +kernel
theorem dX7_lookInRows_54 : decode cX7_lookInRows 54 = .ok (.getfield 12, 3) := by decide +kernel
theorem dX7_lookInRows_57 : decode cX7_lookInRows 57 = .ok (.getfield 110, 3) := by decide +kernel
theorem dX7_lookInRows_60 : decode cX7_lookInRows 60 = .ok (.iload_n 1, 1) := by decide +kernel
theorem dX7_lookInRows_61 : decode cX7_lookInRows 61 = .ok (.bipush 30, 2) := by decide +kernel
theorem dX7_lookInRows_63 : decode cX7_lookInRows 63 = .ok (.isub, 1) := by decide +kernel
theorem dX7_lookInRows_64 : decode cX7_lookInRows 64 = .ok (.iaload, 1) := by decide +kernel
theorem dX7_lookInRows_65 : decode cX7_lookInRows 65 = .ok (.ireturn, 1) := by decide +kernel
theorem dX7_lookInRows_66 : decode cX7_lookInRows 66 = .ok (.iload_n 1, 1) := by decide +kernel
theorem dX7_lookInRows_67 : decode cX7_lookInRows 67 = .ok (.bipush 50, 2) := by decide +kernel
theorem dX7_lookInRows_69 : decode cX7_lookInRows 69 = .ok (.if_icmp .lt 22, 3) := by decide +kernel
theorem dX7_lookInRows_72 : decode cX7_lookInRows 72 = .ok (.iload_n 1, 1) := by decide +kernel
theorem dX7_lookInRows_73 : decode cX7_lookInRows 73 = .ok (.bipush 58, 2) := by decide +kernel
theorem dX7_lookInRows_75 : decode cX7_lookInRows 75 = .ok (.if_icmp .ge 16, 3) := by decide +kernel
theorem dX7_lookInRows_78 : decode cX7_lookInRows 78 = .ok (.aload_n 0, 1) := by decide +kernel
theorem dX7_lookInRows_79 : decode cX7_lookInRows 79 = .ok (.getfield 12, 3) := by decide +kernel
theorem dX7_lookInRows_82 : decode cX7_lookInRows 82 = .ok (.getfield 92, 3) := by decide +kernel
theorem dX7_lookInRows_85 : decode cX7_lookInRows 85 = .ok (.iload_n 1, 1) := by decide +kernel
theorem dX7_lookInRows_86 : decode cX7_lookInRows 86 = .ok (.bipush 50, 2) := by decide +kernel
theorem dX7_lookInRows_88 : decode cX7_lookInRows 88 = .ok (.isub, 1) := by decide +kernel
theorem dX7_lookInRows_89 : decode cX7_lookInRows 89 = .ok (.iaload, 1) := by decide +kernel
theorem dX7_lookInRows_90 : decode cX7_lookInRows 90 = .ok (.ireturn, 1) := by decide +kernel
theorem dX7_lookInRows_91 : decode cX7_lookInRows 91 = .ok (.sipush (-1001), 3) := by decide +kernel
theorem dX7_lookInRows_94 : decode cX7_lookInRows 94 = .ok (.ireturn, 1) := by decide +kernel
theorem dX7_run_0 : decode cX7_run 0 = .ok (.iload_n 1, 1) := by decide +kernel
theorem dX7_run_1 : decode cX7_run 1 = .ok (.invokestatic 116, 3) := by decide +kernel
theorem dX7_run_4 : decode cX7_run 4 = .ok (.ifCond .eq 19, 3) := by decide +kernel
theorem dX7_run_7 : decode cX7_run 7 = .ok (.iload_n 2, 1) := by decide +kernel
theorem dX7_run_8 : decode cX7_run 8 = .ok (.invokestatic 116, 3) := by decide +kernel
theorem dX7_run_11 : decode cX7_run 11 = .ok (.ifCond .eq 12, 3) := by decide +kernel
theorem dX7_run_14 : decode cX7_run 14 = .ok (.iload_n 3, 1) := by decide +kernel
theorem dX7_run_15 : decode cX7_run 15 = .ok (.ifCond .lt 8, 3) := by decide +kernel
theorem dX7_run_18 : decode cX7_run 18 = .ok (.iload_n 3, 1) := by decide +kernel
theorem dX7_run_19 : decode cX7_run 19 = .ok (.iconst 4, 1) := by decide +kernel
theorem dX7_run_20 : decode cX7_run 20 = .ok (.if_icmp .le 7, 3) := by decide +kernel
theorem dX7_run_23 : decode cX7_run 23 = .ok (.sipush (-1001), 3) := by decide +kernel
theorem dX7_run_26 : decode cX7_run 26 = .ok (.ireturn, 1) := by decide +kernel
theorem dX7_run_27 : decode cX7_run 27 = .ok (.aload_n 0, 1) := by decide +kernel
theorem dX7_run_28 : decode cX7_run 28 = .ok (.aload_n 0, 1) := by decide +kernel
theorem dX7_run_29 : decode cX7_run 29 = .ok (.getfield 40, 3) := by decide +kernel
theorem dX7_run_32 : decode cX7_run 32 = .ok (.iload_n 1, 1) := by decide +kernel
theorem dX7_run_33 : decode cX7_run 33 = .ok (.iload_n 2, 1) := by decide +kernel
theorem dX7_run_34 : decode cX7_run 34 = .ok (.invokevirtual 119, 3) := by decide +kernel
theorem dX7_run_37 : decode cX7_run 37 = .ok (.iload_n 3, 1) := by decide +kernel
theorem dX7_run_38 : decode cX7_run 38 = .ok (.tableswitch 77 0 3 #[30, 38, 53, 61], 30) := by decide +kernel
theorem dX7_run_68 : decode cX7_run 68 = .ok (.aload_n 0, 1) := by decide +kernel
theorem dX7_run_69 : decode cX7_run 69 = .ok (.getfield 33, 3) := by decide +kernel
theorem dX7_run_72 : decode cX7_run 72 = .ok (.getfield 123, 3) := by decide +kernel
theorem dX7_run_75 : decode cX7_run 75 = .ok (.ireturn, 1) := by decide +kernel
theorem dX7_run_76 : decode cX7_run 76 = .ok (.aload_n 0, 1) := by decide +kernel
theorem dX7_run_77 : decode cX7_run 77 = .ok (.getfield 33, 3) := by decide +kernel
theorem dX7_run_80 : decode cX7_run 80 = .ok (.aload_n 0, 1) := by decide +kernel
theorem dX7_run_81 : decode cX7_run 81 = .ok (.getfield 19, 3) := by decide +kernel
theorem dX7_run_84 : decode cX7_run 84 = .ok (.getfield 89, 3) := by decide +kernel
theorem dX7_run_87 : decode cX7_run 87 = .ok (.invokevirtual 126, 3) := by decide +kernel
theorem dX7_run_90 : decode cX7_run 90 = .ok (.ireturn, 1) := by decide +kernel
theorem dX7_run_91 : decode cX7_run 91 = .ok (.aload_n 0, 1) := by decide +kernel
theorem dX7_run_92 : decode cX7_run 92 = .ok (.getfield 33, 3) := by decide +kernel
theorem dX7_run_95 : decode cX7_run 95 = .ok (.getfield 129, 3) := by decide +kernel
theorem dX7_run_98 : decode cX7_run 98 = .ok (.ireturn, 1) := by decide +kernel
theorem dX7_run_99 : decode cX7_run 99 = .ok (.aload_n 0, 1) := by decide +kernel
theorem dX7_run_100 : decode cX7_run 100 = .ok (.getfield 33, 3) := by decide +kernel
theorem dX7_run_103 : decode cX7_run 103 = .ok (.getfield 132, 3) := by decide +kernel
theorem dX7_run_106 : decode cX7_run 106 = .ok (.ifCond .eq 7, 3) := by decide +kernel
theorem dX7_run_109 : decode cX7_run 109 = .ok (.iconst 1, 1) := by decide +kernel
theorem dX7_run_110 : decode cX7_run 110 = .ok (.goto 4, 3) := by decide +kernel
theorem dX7_run_113 : decode cX7_run 113 = .ok (.iconst 0, 1) := by decide +kernel
theorem dX7_run_114 : decode cX7_run 114 = .ok (.ireturn, 1) := by decide +kernel
theorem dX7_run_115 : decode cX7_run 115 = .ok (.aload_n 0, 1) := by decide +kernel
theorem dX7_run_116 : decode cX7_run 116 = .ok (.getfield 40, 3) := by decide +kernel
theorem dX7_run_119 : decode cX7_run 119 = .ok (.getfield 136, 3) := by decide +kernel
theorem dX7_run_122 : decode cX7_run 122 = .ok (.ireturn, 1) := by decide +kernel
theorem dX7_seen_0 : decode cX7_seen 0 = .ok (.iload_n 1, 1) := by decide +kernel
theorem dX7_seen_1 : decode cX7_seen 1 = .ok (.invokestatic 116, 3) := by decide +kernel
theorem dX7_seen_4 : decode cX7_seen 4 = .ok (.ifCond .eq 21, 3) := by decide +kernel
theorem dX7_seen_7 : decode cX7_seen 7 = .ok (.iload_n 2, 1) := by decide +kernel
theorem dX7_seen_8 : decode cX7_seen 8 = .ok (.invokestatic 116, 3) := by decide +kernel
theorem dX7_seen_11 : decode cX7_seen 11 = .ok (.ifCond .eq 14, 3) := by decide +kernel
theorem dX7_seen_14 : decode cX7_seen 14 = .ok (.iload 4, 2) := by decide +kernel
theorem dX7_seen_16 : decode cX7_seen 16 = .ok (.ifCond .lt 9, 3) := by decide +kernel
theorem dX7_seen_19 : decode cX7_seen 19 = .ok (.iload 4, 2) := by decide +kernel
theorem dX7_seen_21 : decode cX7_seen 21 = .ok (.iconst 2, 1) := by decide +kernel
theorem dX7_seen_22 : decode cX7_seen 22 = .ok (.if_icmp .le 7, 3) := by decide +kernel
theorem dX7_seen_25 : decode cX7_seen 25 = .ok (.sipush (-1001), 3) := by decide +kernel
theorem dX7_seen_28 : decode cX7_seen 28 = .ok (.ireturn, 1) := by decide +kernel
theorem dX7_seen_29 : decode cX7_seen 29 = .ok (.aload_n 0, 1) := by decide +kernel
theorem dX7_seen_30 : decode cX7_seen 30 = .ok (.aload_n 0, 1) := by decide +kernel
theorem dX7_seen_31 : decode cX7_seen 31 = .ok (.getfield 40, 3) := by decide +kernel
theorem dX7_seen_34 : decode cX7_seen 34 = .ok (.iload_n 1, 1) := by decide +kernel
theorem dX7_seen_35 : decode cX7_seen 35 = .ok (.iload_n 2, 1) := by decide +kernel
theorem dX7_seen_36 : decode cX7_seen 36 = .ok (.invokevirtual 119, 3) := by decide +kernel
theorem dX7_seen_39 : decode cX7_seen 39 = .ok (.aload_n 0, 1) := by decide +kernel
theorem dX7_seen_40 : decode cX7_seen 40 = .ok (.getfield 40, 3) := by decide +kernel
theorem dX7_seen_43 : decode cX7_seen 43 = .ok (.iload_n 3, 1) := by decide +kernel
theorem dX7_seen_44 : decode cX7_seen 44 = .ok (.invokevirtual 139, 3) := by decide +kernel
theorem dX7_seen_47 : decode cX7_seen 47 = .ok (.ifCond .ne 7, 3) := by decide +kernel
theorem dX7_seen_50 : decode cX7_seen 50 = .ok (.sipush (-1001), 3) := by decide +kernel
theorem dX7_seen_53 : decode cX7_seen 53 = .ok (.ireturn, 1) := by decide +kernel
theorem dX7_seen_54 : decode cX7_seen 54 = .ok (.iload 4, 2) := by decide +kernel
theorem dX7_seen_56 : decode cX7_seen 56 = .ok (.lookupswitch 48 #[(0, 28), (1, 38)], 28) := by decide +kernel
theorem dX7_seen_84 : decode cX7_seen 84 = .ok (.aload_n 0, 1) := by decide +kernel
theorem dX7_seen_85 : decode cX7_seen 85 = .ok (.getfield 40, 3) := by decide +kernel
theorem dX7_seen_88 : decode cX7_seen 88 = .ok (.getfield 140, 3) := by decide +kernel
theorem dX7_seen_91 : decode cX7_seen 91 = .ok (.iload_n 3, 1) := by decide +kernel
theorem dX7_seen_92 : decode cX7_seen 92 = .ok (.iaload, 1) := by decide +kernel
theorem dX7_seen_93 : decode cX7_seen 93 = .ok (.ireturn, 1) := by decide +kernel
theorem dX7_seen_94 : decode cX7_seen 94 = .ok (.aload_n 0, 1) := by decide +kernel
theorem dX7_seen_95 : decode cX7_seen 95 = .ok (.getfield 40, 3) := by decide +kernel
theorem dX7_seen_98 : decode cX7_seen 98 = .ok (.getfield 143, 3) := by decide +kernel
theorem dX7_seen_101 : decode cX7_seen 101 = .ok (.iload_n 3, 1) := by decide +kernel
theorem dX7_seen_102 : decode cX7_seen 102 = .ok (.iaload, 1) := by decide +kernel
theorem dX7_seen_103 : decode cX7_seen 103 = .ok (.ireturn, 1) := by decide +kernel
theorem dX7_seen_104 : decode cX7_seen 104 = .ok (.aload_n 0, 1) := by decide +kernel
theorem dX7_seen_105 : decode cX7_seen 105 = .ok (.getfield 40, 3) := by decide +kernel
theorem dX7_seen_108 : decode cX7_seen 108 = .ok (.getfield 146, 3) := by decide +kernel
theorem dX7_seen_111 : decode cX7_seen 111 = .ok (.iload_n 3, 1) := by decide +kernel
theorem dX7_seen_112 : decode cX7_seen 112 = .ok (.iaload, 1) := by decide +kernel
theorem dX7_seen_113 : decode cX7_seen 113 = .ok (.ireturn, 1) := by decide +kernel
theorem dX7_classes_0 : decode cX7_classes 0 = .ok (.iload_n 1, 1) := by decide +kernel
theorem dX7_classes_1 : decode cX7_classes 1 = .ok (.invokestatic 116, 3) := by decide +kernel
theorem dX7_classes_4 : decode cX7_classes 4 = .ok (.ifCond .ne 5, 3) := by decide +kernel
theorem dX7_classes_7 : decode cX7_classes 7 = .ok (.iconst (-1), 1) := by decide +kernel
theorem dX7_classes_8 : decode cX7_classes 8 = .ok (.ireturn, 1) := by decide +kernel
theorem dX7_classes_9 : decode cX7_classes 9 = .ok (.aload_n 0, 1) := by decide +kernel
theorem dX7_classes_10 : decode cX7_classes 10 = .ok (.getfield 50, 3) := by decide +kernel
theorem dX7_classes_13 : decode cX7_classes 13 = .ok (.aload_n 0, 1) := by decide +kernel
theorem dX7_classes_14 : decode cX7_classes 14 = .ok (.getfield 26, 3) := by decide +kernel
theorem dX7_classes_17 : decode cX7_classes 17 = .ok (.aload_n 0, 1) := by decide +kernel
theorem dX7_classes_18 : decode cX7_classes 18 = .ok (.getfield 12, 3) := by decide +kernel
theorem dX7_classes_21 : decode cX7_classes 21 = .ok (.aload_n 0, 1) := by decide +kernel
theorem dX7_classes_22 : decode cX7_classes 22 = .ok (.getfield 19, 3) := by decide +kernel
theorem dX7_classes_25 : decode cX7_classes 25 = .ok (.iload_n 1, 1) := by decide +kernel
theorem dX7_classes_26 : decode cX7_classes 26 = .ok (.invokevirtual 149, 3) := by decide +kernel
theorem dX7_classes_29 : decode cX7_classes 29 = .ok (.aload_n 0, 1) := by decide +kernel
theorem dX7_classes_30 : decode cX7_classes 30 = .ok (.getfield 50, 3) := by decide +kernel
theorem dX7_classes_33 : decode cX7_classes 33 = .ok (.getfield 153, 3) := by decide +kernel
theorem dX7_classes_36 : decode cX7_classes 36 = .ok (.iload_n 1, 1) := by decide +kernel
theorem dX7_classes_37 : decode cX7_classes 37 = .ok (.iaload, 1) := by decide +kernel
theorem dX7_classes_38 : decode cX7_classes 38 = .ok (.ireturn, 1) := by decide +kernel
theorem dX7_classOf_0 : decode cX7_classOf 0 = .ok (.iload_n 1, 1) := by decide +kernel
theorem dX7_classOf_1 : decode cX7_classOf 1 = .ok (.invokestatic 116, 3) := by decide +kernel
theorem dX7_classOf_4 : decode cX7_classOf 4 = .ok (.ifCond .eq 10, 3) := by decide +kernel
theorem dX7_classOf_7 : decode cX7_classOf 7 = .ok (.iload_n 2, 1) := by decide +kernel
theorem dX7_classOf_8 : decode cX7_classOf 8 = .ok (.invokestatic 116, 3) := by decide +kernel
theorem dX7_classOf_11 : decode cX7_classOf 11 = .ok (.ifCond .ne 5, 3) := by decide +kernel
theorem dX7_classOf_14 : decode cX7_classOf 14 = .ok (.iconst (-1), 1) := by decide +kernel
theorem dX7_classOf_15 : decode cX7_classOf 15 = .ok (.ireturn, 1) := by decide +kernel
theorem dX7_classOf_16 : decode cX7_classOf 16 = .ok (.aload_n 0, 1) := by decide +kernel
theorem dX7_classOf_17 : decode cX7_classOf 17 = .ok (.getfield 50, 3) := by decide +kernel
theorem dX7_classOf_20 : decode cX7_classOf 20 = .ok (.aload_n 0, 1) := by decide +kernel
theorem dX7_classOf_21 : decode cX7_classOf 21 = .ok (.getfield 26, 3) := by decide +kernel
theorem dX7_classOf_24 : decode cX7_classOf 24 = .ok (.aload_n 0, 1) := by decide +kernel
theorem dX7_classOf_25 : decode cX7_classOf 25 = .ok (.getfield 12, 3) := by decide +kernel
theorem dX7_classOf_28 : decode cX7_classOf 28 = .ok (.aload_n 0, 1) := by decide +kernel
theorem dX7_classOf_29 : decode cX7_classOf 29 = .ok (.getfield 19, 3) := by decide +kernel
theorem dX7_classOf_32 : decode cX7_classOf 32 = .ok (.iload_n 1, 1) := by decide +kernel
theorem dX7_classOf_33 : decode cX7_classOf 33 = .ok (.invokevirtual 149, 3) := by decide +kernel
theorem dX7_classOf_36 : decode cX7_classOf 36 = .ok (.aload_n 0, 1) := by decide +kernel
theorem dX7_classOf_37 : decode cX7_classOf 37 = .ok (.getfield 50, 3) := by decide +kernel
theorem dX7_classOf_40 : decode cX7_classOf 40 = .ok (.getfield 156, 3) := by decide +kernel
theorem dX7_classOf_43 : decode cX7_classOf 43 = .ok (.iload_n 1, 1) := by decide +kernel
theorem dX7_classOf_44 : decode cX7_classOf 44 = .ok (.aaload, 1) := by decide +kernel
theorem dX7_classOf_45 : decode cX7_classOf 45 = .ok (.iload_n 2, 1) := by decide +kernel
theorem dX7_classOf_46 : decode cX7_classOf 46 = .ok (.iaload, 1) := by decide +kernel
theorem dX7_classOf_47 : decode cX7_classOf 47 = .ok (.ireturn, 1) := by decide +kernel
theorem dX7_most_0 : decode cX7_most 0 = .ok (.iconst 0, 1) := by decide +kernel
theorem dX7_most_1 : decode cX7_most 1 = .ok (.istore_n 1, 1) := by decide +kernel
theorem dX7_most_2 : decode cX7_most 2 = .ok (.iconst 0, 1) := by decide +kernel
theorem dX7_most_3 : decode cX7_most 3 = .ok (.istore_n 2, 1) := by decide +kernel
theorem dX7_most_4 : decode cX7_most 4 = .ok (.iload_n 2, 1) := by decide +kernel
theorem dX7_most_5 : decode cX7_most 5 = .ok (.bipush 16, 2) := by decide +kernel
theorem dX7_most_7 : decode cX7_most 7 = .ok (.if_icmp .ge 43, 3) := by decide +kernel
theorem dX7_most_10 : decode cX7_most 10 = .ok (.aload_n 0, 1) := by decide +kernel
theorem dX7_most_11 : decode cX7_most 11 = .ok (.getfield 50, 3) := by decide +kernel
theorem dX7_most_14 : decode cX7_most 14 = .ok (.aload_n 0, 1) := by decide +kernel
theorem dX7_most_15 : decode cX7_most 15 = .ok (.getfield 26, 3) := by decide +kernel
theorem dX7_most_18 : decode cX7_most 18 = .ok (.aload_n 0, 1) := by decide +kernel
theorem dX7_most_19 : decode cX7_most 19 = .ok (.getfield 12, 3) := by decide +kernel
theorem dX7_most_22 : decode cX7_most 22 = .ok (.aload_n 0, 1) := by decide +kernel
theorem dX7_most_23 : decode cX7_most 23 = .ok (.getfield 19, 3) := by decide +kernel
theorem dX7_most_26 : decode cX7_most 26 = .ok (.iload_n 2, 1) := by decide +kernel
theorem dX7_most_27 : decode cX7_most 27 = .ok (.invokevirtual 149, 3) := by decide +kernel
theorem dX7_most_30 : decode cX7_most 30 = .ok (.iload_n 1, 1) := by decide +kernel
theorem dX7_most_31 : decode cX7_most 31 = .ok (.aload_n 0, 1) := by decide +kernel
theorem dX7_most_32 : decode cX7_most 32 = .ok (.getfield 50, 3) := by decide +kernel
theorem dX7_most_35 : decode cX7_most 35 = .ok (.getfield 153, 3) := by decide +kernel
theorem dX7_most_38 : decode cX7_most 38 = .ok (.iload_n 2, 1) := by decide +kernel
theorem dX7_most_39 : decode cX7_most 39 = .ok (.iaload, 1) := by decide +kernel
theorem dX7_most_40 : decode cX7_most 40 = .ok (.invokestatic 160, 3) := by decide +kernel
theorem dX7_most_43 : decode cX7_most 43 = .ok (.istore_n 1, 1) := by decide +kernel
theorem dX7_most_44 : decode cX7_most 44 = .ok (.iinc 2 1, 3) := by decide +kernel
theorem dX7_most_47 : decode cX7_most 47 = .ok (.goto (-43), 3) := by decide +kernel
theorem dX7_most_50 : decode cX7_most 50 = .ok (.iload_n 1, 1) := by decide +kernel
theorem dX7_most_51 : decode cX7_most 51 = .ok (.ireturn, 1) := by decide +kernel
theorem dX7_silent_0 : decode cX7_silent 0 = .ok (.aload_n 0, 1) := by decide +kernel
theorem dX7_silent_1 : decode cX7_silent 1 = .ok (.invokevirtual 166, 3) := by decide +kernel
theorem dX7_silent_4 : decode cX7_silent 4 = .ok (.iconst (-1), 1) := by decide +kernel
theorem dX7_silent_5 : decode cX7_silent 5 = .ok (.if_icmp .ne 7, 3) := by decide +kernel
theorem dX7_silent_8 : decode cX7_silent 8 = .ok (.iconst 1, 1) := by decide +kernel
theorem dX7_silent_9 : decode cX7_silent 9 = .ok (.goto 4, 3) := by decide +kernel
theorem dX7_silent_12 : decode cX7_silent 12 = .ok (.iconst 0, 1) := by decide +kernel
theorem dX7_silent_13 : decode cX7_silent 13 = .ok (.ireturn, 1) := by decide +kernel
theorem dX7_pair_0 : decode cX7_pair 0 = .ok (.iload_n 1, 1) := by decide +kernel
theorem dX7_pair_1 : decode cX7_pair 1 = .ok (.ifCond .lt 8, 3) := by decide +kernel
theorem dX7_pair_4 : decode cX7_pair 4 = .ok (.iload_n 1, 1) := by decide +kernel
theorem dX7_pair_5 : decode cX7_pair 5 = .ok (.iconst 4, 1) := by decide +kernel
theorem dX7_pair_6 : decode cX7_pair 6 = .ok (.if_icmp .le 7, 3) := by decide +kernel
theorem dX7_pair_9 : decode cX7_pair 9 = .ok (.sipush (-1001), 3) := by decide +kernel
theorem dX7_pair_12 : decode cX7_pair 12 = .ok (.ireturn, 1) := by decide +kernel
theorem dX7_pair_13 : decode cX7_pair 13 = .ok (.aload_n 0, 1) := by decide +kernel
theorem dX7_pair_14 : decode cX7_pair 14 = .ok (.invokevirtual 166, 3) := by decide +kernel
theorem dX7_pair_17 : decode cX7_pair 17 = .ok (.istore_n 2, 1) := by decide +kernel
theorem dX7_pair_18 : decode cX7_pair 18 = .ok (.iload_n 2, 1) := by decide +kernel
theorem dX7_pair_19 : decode cX7_pair 19 = .ok (.iconst (-1), 1) := by decide +kernel
theorem dX7_pair_20 : decode cX7_pair 20 = .ok (.if_icmp .ne 7, 3) := by decide +kernel
theorem dX7_pair_23 : decode cX7_pair 23 = .ok (.sipush (-1001), 3) := by decide +kernel
theorem dX7_pair_26 : decode cX7_pair 26 = .ok (.ireturn, 1) := by decide +kernel
theorem dX7_pair_27 : decode cX7_pair 27 = .ok (.aload_n 0, 1) := by decide +kernel
theorem dX7_pair_28 : decode cX7_pair 28 = .ok (.getfield 50, 3) := by decide +kernel
theorem dX7_pair_31 : decode cX7_pair 31 = .ok (.iload_n 2, 1) := by decide +kernel
theorem dX7_pair_32 : decode cX7_pair 32 = .ok (.invokevirtual 170, 3) := by decide +kernel
theorem dX7_pair_35 : decode cX7_pair 35 = .ok (.istore_n 3, 1) := by decide +kernel
theorem dX7_pair_36 : decode cX7_pair 36 = .ok (.iload_n 1, 1) := by decide +kernel
theorem dX7_pair_37 : decode cX7_pair 37 = .ok (.ifCond .ne 5, 3) := by decide +kernel
theorem dX7_pair_40 : decode cX7_pair 40 = .ok (.iload_n 2, 1) := by decide +kernel
theorem dX7_pair_41 : decode cX7_pair 41 = .ok (.ireturn, 1) := by decide +kernel
theorem dX7_pair_42 : decode cX7_pair 42 = .ok (.iload_n 1, 1) := by decide +kernel
theorem dX7_pair_43 : decode cX7_pair 43 = .ok (.iconst 1, 1) := by decide +kernel
theorem dX7_pair_44 : decode cX7_pair 44 = .ok (.if_icmp .ne 5, 3) := by decide +kernel
theorem dX7_pair_47 : decode cX7_pair 47 = .ok (.iload_n 3, 1) := by decide +kernel
theorem dX7_pair_48 : decode cX7_pair 48 = .ok (.ireturn, 1) := by decide +kernel
theorem dX7_pair_49 : decode cX7_pair 49 = .ok (.aload_n 0, 1) := by decide +kernel
theorem dX7_pair_50 : decode cX7_pair 50 = .ok (.iload_n 2, 1) := by decide +kernel
theorem dX7_pair_51 : decode cX7_pair 51 = .ok (.iload_n 3, 1) := by decide +kernel
theorem dX7_pair_52 : decode cX7_pair 52 = .ok (.iload_n 1, 1) := by decide +kernel
theorem dX7_pair_53 : decode cX7_pair 53 = .ok (.invokevirtual 173, 3) := by decide +kernel
theorem dX7_pair_56 : decode cX7_pair 56 = .ok (.ireturn, 1) := by decide +kernel
theorem dX7_cure_0 : decode cX7_cure 0 = .ok (.iload_n 1, 1) := by decide +kernel
theorem dX7_cure_1 : decode cX7_cure 1 = .ok (.ifCond .lt 8, 3) := by decide +kernel
theorem dX7_cure_4 : decode cX7_cure 4 = .ok (.iload_n 1, 1) := by decide +kernel
theorem dX7_cure_5 : decode cX7_cure 5 = .ok (.iconst 2, 1) := by decide +kernel
theorem dX7_cure_6 : decode cX7_cure 6 = .ok (.if_icmp .le 5, 3) := by decide +kernel
theorem dX7_cure_9 : decode cX7_cure 9 = .ok (.iconst (-1), 1) := by decide +kernel
theorem dX7_cure_10 : decode cX7_cure 10 = .ok (.ireturn, 1) := by decide +kernel
theorem dX7_cure_11 : decode cX7_cure 11 = .ok (.aload_n 0, 1) := by decide +kernel
theorem dX7_cure_12 : decode cX7_cure 12 = .ok (.getfield 57, 3) := by decide +kernel
theorem dX7_cure_15 : decode cX7_cure 15 = .ok (.aload_n 0, 1) := by decide +kernel
theorem dX7_cure_16 : decode cX7_cure 16 = .ok (.getfield 26, 3) := by decide +kernel
theorem dX7_cure_19 : decode cX7_cure 19 = .ok (.aload_n 0, 1) := by decide +kernel
theorem dX7_cure_20 : decode cX7_cure 20 = .ok (.getfield 12, 3) := by decide +kernel
theorem dX7_cure_23 : decode cX7_cure 23 = .ok (.aload_n 0, 1) := by decide +kernel
theorem dX7_cure_24 : decode cX7_cure 24 = .ok (.getfield 19, 3) := by decide +kernel
theorem dX7_cure_27 : decode cX7_cure 27 = .ok (.invokevirtual 177, 3) := by decide +kernel
theorem dX7_cure_30 : decode cX7_cure 30 = .ok (.aload_n 0, 1) := by decide +kernel
theorem dX7_cure_31 : decode cX7_cure 31 = .ok (.getfield 57, 3) := by decide +kernel
theorem dX7_cure_34 : decode cX7_cure 34 = .ok (.aload_n 0, 1) := by decide +kernel
theorem dX7_cure_35 : decode cX7_cure 35 = .ok (.getfield 12, 3) := by decide +kernel
theorem dX7_cure_38 : decode cX7_cure 38 = .ok (.invokevirtual 180, 3) := by decide +kernel
theorem dX7_cure_41 : decode cX7_cure 41 = .ok (.istore_n 2, 1) := by decide +kernel
theorem dX7_cure_42 : decode cX7_cure 42 = .ok (.iload_n 2, 1) := by decide +kernel
theorem dX7_cure_43 : decode cX7_cure 43 = .ok (.iconst (-1), 1) := by decide +kernel
theorem dX7_cure_44 : decode cX7_cure 44 = .ok (.if_icmp .ne 5, 3) := by decide +kernel
theorem dX7_cure_47 : decode cX7_cure 47 = .ok (.iconst (-1), 1) := by decide +kernel
theorem dX7_cure_48 : decode cX7_cure 48 = .ok (.ireturn, 1) := by decide +kernel
theorem dX7_cure_49 : decode cX7_cure 49 = .ok (.iload_n 1, 1) := by decide +kernel
theorem dX7_cure_50 : decode cX7_cure 50 = .ok (.lookupswitch 37 #[(0, 26), (1, 35)], 26) := by decide +kernel
theorem dX7_cure_76 : decode cX7_cure 76 = .ok (.aload_n 0, 1) := by decide +kernel
theorem dX7_cure_77 : decode cX7_cure 77 = .ok (.getfield 12, 3) := by decide +kernel
theorem dX7_cure_80 : decode cX7_cure 80 = .ok (.iload_n 2, 1) := by decide +kernel
theorem dX7_cure_81 : decode cX7_cure 81 = .ok (.invokevirtual 184, 3) := by decide +kernel
theorem dX7_cure_84 : decode cX7_cure 84 = .ok (.ireturn, 1) := by decide +kernel
theorem dX7_cure_85 : decode cX7_cure 85 = .ok (.iload_n 2, 1) := by decide +kernel
theorem dX7_cure_86 : decode cX7_cure 86 = .ok (.ireturn, 1) := by decide +kernel
theorem dX7_cure_87 : decode cX7_cure 87 = .ok (.aload_n 0, 1) := by decide +kernel
theorem dX7_cure_88 : decode cX7_cure 88 = .ok (.getfield 57, 3) := by decide +kernel
theorem dX7_cure_91 : decode cX7_cure 91 = .ok (.aload_n 0, 1) := by decide +kernel
theorem dX7_cure_92 : decode cX7_cure 92 = .ok (.getfield 12, 3) := by decide +kernel
theorem dX7_cure_95 : decode cX7_cure 95 = .ok (.invokevirtual 187, 3) := by decide +kernel
theorem dX7_cure_98 : decode cX7_cure 98 = .ok (.ireturn, 1) := by decide +kernel
theorem dX7_reached_0 : decode cX7_reached 0 = .ok (.aload_n 0, 1) := by decide +kernel
theorem dX7_reached_1 : decode cX7_reached 1 = .ok (.getfield 61, 3) := by decide +kernel
theorem dX7_reached_4 : decode cX7_reached 4 = .ok (.iconst (-1), 1) := by decide +kernel
theorem dX7_reached_5 : decode cX7_reached 5 = .ok (.if_icmp .ne 11, 3) := by decide +kernel
theorem dX7_reached_8 : decode cX7_reached 8 = .ok (.aload_n 0, 1) := by decide +kernel
theorem dX7_reached_9 : decode cX7_reached 9 = .ok (.aload_n 0, 1) := by decide +kernel
theorem dX7_reached_10 : decode cX7_reached 10 = .ok (.invokevirtual 190, 3) := by decide +kernel
theorem dX7_reached_13 : decode cX7_reached 13 = .ok (.putfield 61, 3) := by decide +kernel
theorem dX7_reached_16 : decode cX7_reached 16 = .ok (.aload_n 0, 1) := by decide +kernel
theorem dX7_reached_17 : decode cX7_reached 17 = .ok (.getfield 61, 3) := by decide +kernel
theorem dX7_reached_20 : decode cX7_reached 20 = .ok (.ireturn, 1) := by decide +kernel
theorem dX7_tellers_0 : decode cX7_tellers 0 = .ok (.aload_n 0, 1) := by decide +kernel
theorem dX7_tellers_1 : decode cX7_tellers 1 = .ok (.getfield 57, 3) := by decide +kernel
theorem dX7_tellers_4 : decode cX7_tellers 4 = .ok (.aload_n 0, 1) := by decide +kernel
theorem dX7_tellers_5 : decode cX7_tellers 5 = .ok (.getfield 26, 3) := by decide +kernel
theorem dX7_tellers_8 : decode cX7_tellers 8 = .ok (.aload_n 0, 1) := by decide +kernel
theorem dX7_tellers_9 : decode cX7_tellers 9 = .ok (.getfield 12, 3) := by decide +kernel
theorem dX7_tellers_12 : decode cX7_tellers 12 = .ok (.aload_n 0, 1) := by decide +kernel
theorem dX7_tellers_13 : decode cX7_tellers 13 = .ok (.getfield 19, 3) := by decide +kernel
theorem dX7_tellers_16 : decode cX7_tellers 16 = .ok (.invokevirtual 177, 3) := by decide +kernel
theorem dX7_tellers_19 : decode cX7_tellers 19 = .ok (.aload_n 0, 1) := by decide +kernel
theorem dX7_tellers_20 : decode cX7_tellers 20 = .ok (.getfield 12, 3) := by decide +kernel
theorem dX7_tellers_23 : decode cX7_tellers 23 = .ok (.invokevirtual 193, 3) := by decide +kernel
theorem dX7_tellers_26 : decode cX7_tellers 26 = .ok (.istore_n 1, 1) := by decide +kernel
theorem dX7_tellers_27 : decode cX7_tellers 27 = .ok (.iconst 0, 1) := by decide +kernel
theorem dX7_tellers_28 : decode cX7_tellers 28 = .ok (.istore_n 2, 1) := by decide +kernel
theorem dX7_tellers_29 : decode cX7_tellers 29 = .ok (.iconst 0, 1) := by decide +kernel
theorem dX7_tellers_30 : decode cX7_tellers 30 = .ok (.istore_n 3, 1) := by decide +kernel
theorem dX7_tellers_31 : decode cX7_tellers 31 = .ok (.iload_n 3, 1) := by decide +kernel
theorem dX7_tellers_32 : decode cX7_tellers 32 = .ok (.aload_n 0, 1) := by decide +kernel
theorem dX7_tellers_33 : decode cX7_tellers 33 = .ok (.getfield 12, 3) := by decide +kernel
theorem dX7_tellers_36 : decode cX7_tellers 36 = .ok (.getfield 69, 3) := by decide +kernel
theorem dX7_tellers_39 : decode cX7_tellers 39 = .ok (.if_icmp .ge 33, 3) := by decide +kernel
theorem dX7_tellers_42 : decode cX7_tellers 42 = .ok (.aload_n 0, 1) := by decide +kernel
theorem dX7_tellers_43 : decode cX7_tellers 43 = .ok (.getfield 57, 3) := by decide +kernel
theorem dX7_tellers_46 : decode cX7_tellers 46 = .ok (.getfield 196, 3) := by decide +kernel
theorem dX7_tellers_49 : decode cX7_tellers 49 = .ok (.iload_n 1, 1) := by decide +kernel
theorem dX7_tellers_50 : decode cX7_tellers 50 = .ok (.iconst 1, 1) := by decide +kernel
theorem dX7_tellers_51 : decode cX7_tellers 51 = .ok (.iload_n 3, 1) := by decide +kernel
theorem dX7_tellers_52 : decode cX7_tellers 52 = .ok (.ishl, 1) := by decide +kernel
theorem dX7_tellers_53 : decode cX7_tellers 53 = .ok (.iconst (-1), 1) := by decide +kernel
theorem dX7_tellers_54 : decode cX7_tellers 54 = .ok (.ixor, 1) := by decide +kernel
theorem dX7_tellers_55 : decode cX7_tellers 55 = .ok (.iand, 1) := by decide +kernel
theorem dX7_tellers_56 : decode cX7_tellers 56 = .ok (.baload, 1) := by decide +kernel
theorem dX7_tellers_57 : decode cX7_tellers 57 = .ok (.ifCond .ne 9, 3) := by decide +kernel
theorem dX7_tellers_60 : decode cX7_tellers 60 = .ok (.iload_n 2, 1) := by decide +kernel
theorem dX7_tellers_61 : decode cX7_tellers 61 = .ok (.iconst 1, 1) := by decide +kernel
theorem dX7_tellers_62 : decode cX7_tellers 62 = .ok (.iload_n 3, 1) := by decide +kernel
theorem dX7_tellers_63 : decode cX7_tellers 63 = .ok (.ishl, 1) := by decide +kernel
theorem dX7_tellers_64 : decode cX7_tellers 64 = .ok (.ior, 1) := by decide +kernel
theorem dX7_tellers_65 : decode cX7_tellers 65 = .ok (.istore_n 2, 1) := by decide +kernel
theorem dX7_tellers_66 : decode cX7_tellers 66 = .ok (.iinc 3 1, 3) := by decide +kernel
theorem dX7_tellers_69 : decode cX7_tellers 69 = .ok (.goto (-38), 3) := by decide +kernel
theorem dX7_tellers_72 : decode cX7_tellers 72 = .ok (.iload_n 2, 1) := by decide +kernel
theorem dX7_tellers_73 : decode cX7_tellers 73 = .ok (.ireturn, 1) := by decide +kernel
theorem dX7_isOrder_0 : decode cX7_isOrder 0 = .ok (.iload_n 0, 1) := by decide +kernel
theorem dX7_isOrder_1 : decode cX7_isOrder 1 = .ok (.ifCond .lt 13, 3) := by decide +kernel
theorem dX7_isOrder_4 : decode cX7_isOrder 4 = .ok (.iload_n 0, 1) := by decide +kernel
theorem dX7_isOrder_5 : decode cX7_isOrder 5 = .ok (.ldc 200, 2) := by decide +kernel
theorem dX7_isOrder_7 : decode cX7_isOrder 7 = .ok (.if_icmp .ge 7, 3) := by decide +kernel
theorem dX7_isOrder_10 : decode cX7_isOrder 10 = .ok (.iconst 1, 1) := by decide +kernel
theorem dX7_isOrder_11 : decode cX7_isOrder 11 = .ok (.goto 4, 3) := by decide +kernel
theorem dX7_isOrder_14 : decode cX7_isOrder 14 = .ok (.iconst 0, 1) := by decide +kernel
theorem dX7_isOrder_15 : decode cX7_isOrder 15 = .ok (.ireturn, 1) := by decide +kernel
theorem dX7_isInput_0 : decode cX7_isInput 0 = .ok (.iload_n 0, 1) := by decide +kernel
theorem dX7_isInput_1 : decode cX7_isInput 1 = .ok (.ifCond .lt 13, 3) := by decide +kernel
theorem dX7_isInput_4 : decode cX7_isInput 4 = .ok (.iload_n 0, 1) := by decide +kernel
theorem dX7_isInput_5 : decode cX7_isInput 5 = .ok (.bipush 16, 2) := by decide +kernel
theorem dX7_isInput_7 : decode cX7_isInput 7 = .ok (.if_icmp .ge 7, 3) := by decide +kernel
theorem dX7_isInput_10 : decode cX7_isInput 10 = .ok (.iconst 1, 1) := by decide +kernel
theorem dX7_isInput_11 : decode cX7_isInput 11 = .ok (.goto 4, 3) := by decide +kernel
theorem dX7_isInput_14 : decode cX7_isInput 14 = .ok (.iconst 0, 1) := by decide +kernel
theorem dX7_isInput_15 : decode cX7_isInput 15 = .ok (.ireturn, 1) := by decide +kernel
theorem dX7_isWidth_0 : decode cX7_isWidth 0 = .ok (.iload_n 0, 1) := by decide +kernel
theorem dX7_isWidth_1 : decode cX7_isWidth 1 = .ok (.iconst 1, 1) := by decide +kernel
theorem dX7_isWidth_2 : decode cX7_isWidth 2 = .ok (.if_icmp .eq 19, 3) := by decide +kernel
theorem dX7_isWidth_5 : decode cX7_isWidth 5 = .ok (.iload_n 0, 1) := by decide +kernel
theorem dX7_isWidth_6 : decode cX7_isWidth 6 = .ok (.iconst 2, 1) := by decide +kernel
theorem dX7_isWidth_7 : decode cX7_isWidth 7 = .ok (.if_icmp .eq 14, 3) := by decide +kernel
theorem dX7_isWidth_10 : decode cX7_isWidth 10 = .ok (.iload_n 0, 1) := by decide +kernel
theorem dX7_isWidth_11 : decode cX7_isWidth 11 = .ok (.iconst 4, 1) := by decide +kernel
theorem dX7_isWidth_12 : decode cX7_isWidth 12 = .ok (.if_icmp .eq 9, 3) := by decide +kernel
theorem dX7_isWidth_15 : decode cX7_isWidth 15 = .ok (.iload_n 0, 1) := by decide +kernel
theorem dX7_isWidth_16 : decode cX7_isWidth 16 = .ok (.bipush 8, 2) := by decide +kernel
theorem dX7_isWidth_18 : decode cX7_isWidth 18 = .ok (.if_icmp .ne 7, 3) := by decide +kernel
theorem dX7_isWidth_21 : decode cX7_isWidth 21 = .ok (.iconst 1, 1) := by decide +kernel
theorem dX7_isWidth_22 : decode cX7_isWidth 22 = .ok (.goto 4, 3) := by decide +kernel
theorem dX7_isWidth_25 : decode cX7_isWidth 25 = .ok (.iconst 0, 1) := by decide +kernel
theorem dX7_isWidth_26 : decode cX7_isWidth 26 = .ok (.ireturn, 1) := by decide +kernel
theorem dX7_forgetRuns_0 : decode cX7_forgetRuns 0 = .ok (.aload_n 0, 1) := by decide +kernel
theorem dX7_forgetRuns_1 : decode cX7_forgetRuns 1 = .ok (.iconst (-1), 1) := by decide +kernel
theorem dX7_forgetRuns_2 : decode cX7_forgetRuns 2 = .ok (.putfield 61, 3) := by decide +kernel
theorem dX7_forgetRuns_5 : decode cX7_forgetRuns 5 = .ok (.aload_n 0, 1) := by decide +kernel
theorem dX7_forgetRuns_6 : decode cX7_forgetRuns 6 = .ok (.getfield 50, 3) := by decide +kernel
theorem dX7_forgetRuns_9 : decode cX7_forgetRuns 9 = .ok (.invokevirtual 107, 3) := by decide +kernel
theorem dX7_forgetRuns_12 : decode cX7_forgetRuns 12 = .ok (.aload_n 0, 1) := by decide +kernel
theorem dX7_forgetRuns_13 : decode cX7_forgetRuns 13 = .ok (.getfield 57, 3) := by decide +kernel
theorem dX7_forgetRuns_16 : decode cX7_forgetRuns 16 = .ok (.invokevirtual 201, 3) := by decide +kernel
theorem dX7_forgetRuns_19 : decode cX7_forgetRuns 19 = .ok (.return_, 1) := by decide +kernel
theorem dX7_fillRow_0 : decode cX7_fillRow 0 = .ok (.aload_n 0, 1) := by decide +kernel
theorem dX7_fillRow_1 : decode cX7_fillRow 1 = .ok (.getfield 26, 3) := by decide +kernel
theorem dX7_fillRow_4 : decode cX7_fillRow 4 = .ok (.aload_n 0, 1) := by decide +kernel
theorem dX7_fillRow_5 : decode cX7_fillRow 5 = .ok (.getfield 12, 3) := by decide +kernel
theorem dX7_fillRow_8 : decode cX7_fillRow 8 = .ok (.aload_n 0, 1) := by decide +kernel
theorem dX7_fillRow_9 : decode cX7_fillRow 9 = .ok (.getfield 19, 3) := by decide +kernel
theorem dX7_fillRow_12 : decode cX7_fillRow 12 = .ok (.iload_n 2, 1) := by decide +kernel
theorem dX7_fillRow_13 : decode cX7_fillRow 13 = .ok (.iload_n 3, 1) := by decide +kernel
theorem dX7_fillRow_14 : decode cX7_fillRow 14 = .ok (.aload_n 0, 1) := by decide +kernel
theorem dX7_fillRow_15 : decode cX7_fillRow 15 = .ok (.getfield 33, 3) := by decide +kernel
theorem dX7_fillRow_18 : decode cX7_fillRow 18 = .ok (.invokevirtual 202, 3) := by decide +kernel
theorem dX7_fillRow_21 : decode cX7_fillRow 21 = .ok (.aload_n 1, 1) := by decide +kernel
theorem dX7_fillRow_22 : decode cX7_fillRow 22 = .ok (.aload_n 0, 1) := by decide +kernel
theorem dX7_fillRow_23 : decode cX7_fillRow 23 = .ok (.getfield 33, 3) := by decide +kernel
theorem dX7_fillRow_26 : decode cX7_fillRow 26 = .ok (.aload_n 0, 1) := by decide +kernel
theorem dX7_fillRow_27 : decode cX7_fillRow 27 = .ok (.getfield 19, 3) := by decide +kernel
theorem dX7_fillRow_30 : decode cX7_fillRow 30 = .ok (.getfield 98, 3) := by decide +kernel
theorem dX7_fillRow_33 : decode cX7_fillRow 33 = .ok (.aload_n 0, 1) := by decide +kernel
theorem dX7_fillRow_34 : decode cX7_fillRow 34 = .ok (.getfield 19, 3) := by decide +kernel
theorem dX7_fillRow_37 : decode cX7_fillRow 37 = .ok (.getfield 89, 3) := by decide +kernel
theorem dX7_fillRow_40 : decode cX7_fillRow 40 = .ok (.invokevirtual 206, 3) := by decide +kernel
theorem dX7_fillRow_43 : decode cX7_fillRow 43 = .ok (.return_, 1) := by decide +kernel
theorem dX7_firstToldOpen_0 : decode cX7_firstToldOpen 0 = .ok (.iconst 0, 1) := by decide +kernel
theorem dX7_firstToldOpen_1 : decode cX7_firstToldOpen 1 = .ok (.istore_n 1, 1) := by decide +kernel
theorem dX7_firstToldOpen_2 : decode cX7_firstToldOpen 2 = .ok (.iload_n 1, 1) := by decide +kernel
theorem dX7_firstToldOpen_3 : decode cX7_firstToldOpen 3 = .ok (.bipush 16, 2) := by decide +kernel
theorem dX7_firstToldOpen_5 : decode cX7_firstToldOpen 5 = .ok (.if_icmp .ge 44, 3) := by decide +kernel
theorem dX7_firstToldOpen_8 : decode cX7_firstToldOpen 8 = .ok (.aload_n 0, 1) := by decide +kernel
theorem dX7_firstToldOpen_9 : decode cX7_firstToldOpen 9 = .ok (.getfield 50, 3) := by decide +kernel
theorem dX7_firstToldOpen_12 : decode cX7_firstToldOpen 12 = .ok (.aload_n 0, 1) := by decide +kernel
theorem dX7_firstToldOpen_13 : decode cX7_firstToldOpen 13 = .ok (.getfield 26, 3) := by decide +kernel
theorem dX7_firstToldOpen_16 : decode cX7_firstToldOpen 16 = .ok (.aload_n 0, 1) := by decide +kernel
theorem dX7_firstToldOpen_17 : decode cX7_firstToldOpen 17 = .ok (.getfield 12, 3) := by decide +kernel
theorem dX7_firstToldOpen_20 : decode cX7_firstToldOpen 20 = .ok (.aload_n 0, 1) := by decide +kernel
theorem dX7_firstToldOpen_21 : decode cX7_firstToldOpen 21 = .ok (.getfield 19, 3) := by decide +kernel
theorem dX7_firstToldOpen_24 : decode cX7_firstToldOpen 24 = .ok (.iload_n 1, 1) := by decide +kernel
theorem dX7_firstToldOpen_25 : decode cX7_firstToldOpen 25 = .ok (.invokevirtual 149, 3) := by decide +kernel
theorem dX7_firstToldOpen_28 : decode cX7_firstToldOpen 28 = .ok (.aload_n 0, 1) := by decide +kernel
theorem dX7_firstToldOpen_29 : decode cX7_firstToldOpen 29 = .ok (.getfield 50, 3) := by decide +kernel
theorem dX7_firstToldOpen_32 : decode cX7_firstToldOpen 32 = .ok (.getfield 153, 3) := by decide +kernel
theorem dX7_firstToldOpen_35 : decode cX7_firstToldOpen 35 = .ok (.iload_n 1, 1) := by decide +kernel
theorem dX7_firstToldOpen_36 : decode cX7_firstToldOpen 36 = .ok (.iaload, 1) := by decide +kernel
theorem dX7_firstToldOpen_37 : decode cX7_firstToldOpen 37 = .ok (.iconst 1, 1) := by decide +kernel
theorem dX7_firstToldOpen_38 : decode cX7_firstToldOpen 38 = .ok (.if_icmp .le 5, 3) := by decide +kernel
theorem dX7_firstToldOpen_41 : decode cX7_firstToldOpen 41 = .ok (.iload_n 1, 1) := by decide +kernel
theorem dX7_firstToldOpen_42 : decode cX7_firstToldOpen 42 = .ok (.ireturn, 1) := by decide +kernel
theorem dX7_firstToldOpen_43 : decode cX7_firstToldOpen 43 = .ok (.iinc 1 1, 3) := by decide +kernel
theorem dX7_firstToldOpen_46 : decode cX7_firstToldOpen 46 = .ok (.goto (-44), 3) := by decide +kernel
theorem dX7_firstToldOpen_49 : decode cX7_firstToldOpen 49 = .ok (.iconst (-1), 1) := by decide +kernel
theorem dX7_firstToldOpen_50 : decode cX7_firstToldOpen 50 = .ok (.ireturn, 1) := by decide +kernel
theorem dX7_firstTold_0 : decode cX7_firstTold 0 = .ok (.aload_n 0, 1) := by decide +kernel
theorem dX7_firstTold_1 : decode cX7_firstTold 1 = .ok (.aload_n 0, 1) := by decide +kernel
theorem dX7_firstTold_2 : decode cX7_firstTold 2 = .ok (.getfield 40, 3) := by decide +kernel
theorem dX7_firstTold_5 : decode cX7_firstTold 5 = .ok (.iload_n 1, 1) := by decide +kernel
theorem dX7_firstTold_6 : decode cX7_firstTold 6 = .ok (.iconst 0, 1) := by decide +kernel
theorem dX7_firstTold_7 : decode cX7_firstTold 7 = .ok (.invokevirtual 119, 3) := by decide +kernel
theorem dX7_firstTold_10 : decode cX7_firstTold 10 = .ok (.aload_n 0, 1) := by decide +kernel
theorem dX7_firstTold_11 : decode cX7_firstTold 11 = .ok (.aload_n 0, 1) := by decide +kernel
theorem dX7_firstTold_12 : decode cX7_firstTold 12 = .ok (.getfield 44, 3) := by decide +kernel
theorem dX7_firstTold_15 : decode cX7_firstTold 15 = .ok (.iload_n 1, 1) := by decide +kernel
theorem dX7_firstTold_16 : decode cX7_firstTold 16 = .ok (.iload_n 2, 1) := by decide +kernel
theorem dX7_firstTold_17 : decode cX7_firstTold 17 = .ok (.invokevirtual 119, 3) := by decide +kernel
theorem dX7_firstTold_20 : decode cX7_firstTold 20 = .ok (.aload_n 0, 1) := by decide +kernel
theorem dX7_firstTold_21 : decode cX7_firstTold 21 = .ok (.getfield 40, 3) := by decide +kernel
theorem dX7_firstTold_24 : decode cX7_firstTold 24 = .ok (.aload_n 0, 1) := by decide +kernel
theorem dX7_firstTold_25 : decode cX7_firstTold 25 = .ok (.getfield 44, 3) := by decide +kernel
theorem dX7_firstTold_28 : decode cX7_firstTold 28 = .ok (.invokevirtual 210, 3) := by decide +kernel
theorem dX7_firstTold_31 : decode cX7_firstTold 31 = .ok (.istore 4, 2) := by decide +kernel
theorem dX7_firstTold_33 : decode cX7_firstTold 33 = .ok (.aload_n 0, 1) := by decide +kernel
theorem dX7_firstTold_34 : decode cX7_firstTold 34 = .ok (.getfield 40, 3) := by decide +kernel
theorem dX7_firstTold_37 : decode cX7_firstTold 37 = .ok (.iload 4, 2) := by decide +kernel
theorem dX7_firstTold_39 : decode cX7_firstTold 39 = .ok (.invokevirtual 139, 3) := by decide +kernel
theorem dX7_firstTold_42 : decode cX7_firstTold 42 = .ok (.ifCond .eq 10, 3) := by decide +kernel
theorem dX7_firstTold_45 : decode cX7_firstTold 45 = .ok (.aload_n 0, 1) := by decide +kernel
theorem dX7_firstTold_46 : decode cX7_firstTold 46 = .ok (.getfield 40, 3) := by decide +kernel
theorem dX7_firstTold_49 : decode cX7_firstTold 49 = .ok (.goto 7, 3) := by decide +kernel
theorem dX7_firstTold_52 : decode cX7_firstTold 52 = .ok (.aload_n 0, 1) := by decide +kernel
theorem dX7_firstTold_53 : decode cX7_firstTold 53 = .ok (.getfield 44, 3) := by decide +kernel
theorem dX7_firstTold_56 : decode cX7_firstTold 56 = .ok (.astore 5, 2) := by decide +kernel
theorem dX7_firstTold_58 : decode cX7_firstTold 58 = .ok (.aload 5, 2) := by decide +kernel
theorem dX7_firstTold_60 : decode cX7_firstTold 60 = .ok (.iload 4, 2) := by decide +kernel
theorem dX7_firstTold_62 : decode cX7_firstTold 62 = .ok (.invokevirtual 139, 3) := by decide +kernel
theorem dX7_firstTold_65 : decode cX7_firstTold 65 = .ok (.ifCond .ne 7, 3) := by decide +kernel
theorem dX7_firstTold_68 : decode cX7_firstTold 68 = .ok (.sipush (-1001), 3) := by decide +kernel
theorem dX7_firstTold_71 : decode cX7_firstTold 71 = .ok (.ireturn, 1) := by decide +kernel
theorem dX7_firstTold_72 : decode cX7_firstTold 72 = .ok (.iload_n 3, 1) := by decide +kernel
theorem dX7_firstTold_73 : decode cX7_firstTold 73 = .ok (.lookupswitch 39 #[(2, 27), (3, 30)], 27) := by decide +kernel
theorem dX7_firstTold_100 : decode cX7_firstTold 100 = .ok (.iload 4, 2) := by decide +kernel
theorem dX7_firstTold_102 : decode cX7_firstTold 102 = .ok (.ireturn, 1) := by decide +kernel
theorem dX7_firstTold_103 : decode cX7_firstTold 103 = .ok (.aload 5, 2) := by decide +kernel
theorem dX7_firstTold_105 : decode cX7_firstTold 105 = .ok (.getfield 140, 3) := by decide +kernel
theorem dX7_firstTold_108 : decode cX7_firstTold 108 = .ok (.iload 4, 2) := by decide +kernel
theorem dX7_firstTold_110 : decode cX7_firstTold 110 = .ok (.iaload, 1) := by decide +kernel
theorem dX7_firstTold_111 : decode cX7_firstTold 111 = .ok (.ireturn, 1) := by decide +kernel
theorem dX7_firstTold_112 : decode cX7_firstTold 112 = .ok (.aload 5, 2) := by decide +kernel
theorem dX7_firstTold_114 : decode cX7_firstTold 114 = .ok (.getfield 143, 3) := by decide +kernel
theorem dX7_firstTold_117 : decode cX7_firstTold 117 = .ok (.iload 4, 2) := by decide +kernel
theorem dX7_firstTold_119 : decode cX7_firstTold 119 = .ok (.iaload, 1) := by decide +kernel
theorem dX7_firstTold_120 : decode cX7_firstTold 120 = .ok (.ireturn, 1) := by decide +kernel
theorem dX7_visitedByAll_0 : decode cX7_visitedByAll 0 = .ok (.iconst 0, 1) := by decide +kernel
theorem dX7_visitedByAll_1 : decode cX7_visitedByAll 1 = .ok (.istore_n 1, 1) := by decide +kernel
theorem dX7_visitedByAll_2 : decode cX7_visitedByAll 2 = .ok (.iconst 0, 1) := by decide +kernel
theorem dX7_visitedByAll_3 : decode cX7_visitedByAll 3 = .ok (.istore_n 2, 1) := by decide +kernel
theorem dX7_visitedByAll_4 : decode cX7_visitedByAll 4 = .ok (.iload_n 2, 1) := by decide +kernel
theorem dX7_visitedByAll_5 : decode cX7_visitedByAll 5 = .ok (.bipush 16, 2) := by decide +kernel
theorem dX7_visitedByAll_7 : decode cX7_visitedByAll 7 = .ok (.if_icmp .ge 54, 3) := by decide +kernel
theorem dX7_visitedByAll_10 : decode cX7_visitedByAll 10 = .ok (.iconst 0, 1) := by decide +kernel
theorem dX7_visitedByAll_11 : decode cX7_visitedByAll 11 = .ok (.istore_n 3, 1) := by decide +kernel
theorem dX7_visitedByAll_12 : decode cX7_visitedByAll 12 = .ok (.iload_n 3, 1) := by decide +kernel
theorem dX7_visitedByAll_13 : decode cX7_visitedByAll 13 = .ok (.bipush 16, 2) := by decide +kernel
theorem dX7_visitedByAll_15 : decode cX7_visitedByAll 15 = .ok (.if_icmp .ge 40, 3) := by decide +kernel
theorem dX7_visitedByAll_18 : decode cX7_visitedByAll 18 = .ok (.aload_n 0, 1) := by decide +kernel
theorem dX7_visitedByAll_19 : decode cX7_visitedByAll 19 = .ok (.getfield 26, 3) := by decide +kernel
theorem dX7_visitedByAll_22 : decode cX7_visitedByAll 22 = .ok (.aload_n 0, 1) := by decide +kernel
theorem dX7_visitedByAll_23 : decode cX7_visitedByAll 23 = .ok (.getfield 12, 3) := by decide +kernel
theorem dX7_visitedByAll_26 : decode cX7_visitedByAll 26 = .ok (.aload_n 0, 1) := by decide +kernel
theorem dX7_visitedByAll_27 : decode cX7_visitedByAll 27 = .ok (.getfield 19, 3) := by decide +kernel
theorem dX7_visitedByAll_30 : decode cX7_visitedByAll 30 = .ok (.iload_n 2, 1) := by decide +kernel
theorem dX7_visitedByAll_31 : decode cX7_visitedByAll 31 = .ok (.iload_n 3, 1) := by decide +kernel
theorem dX7_visitedByAll_32 : decode cX7_visitedByAll 32 = .ok (.aload_n 0, 1) := by decide +kernel
theorem dX7_visitedByAll_33 : decode cX7_visitedByAll 33 = .ok (.getfield 33, 3) := by decide +kernel
theorem dX7_visitedByAll_36 : decode cX7_visitedByAll 36 = .ok (.invokevirtual 202, 3) := by decide +kernel
theorem dX7_visitedByAll_39 : decode cX7_visitedByAll 39 = .ok (.iload_n 1, 1) := by decide +kernel
theorem dX7_visitedByAll_40 : decode cX7_visitedByAll 40 = .ok (.aload_n 0, 1) := by decide +kernel
theorem dX7_visitedByAll_41 : decode cX7_visitedByAll 41 = .ok (.getfield 33, 3) := by decide +kernel
theorem dX7_visitedByAll_44 : decode cX7_visitedByAll 44 = .ok (.getfield 214, 3) := by decide +kernel
theorem dX7_visitedByAll_47 : decode cX7_visitedByAll 47 = .ok (.ior, 1) := by decide +kernel
theorem dX7_visitedByAll_48 : decode cX7_visitedByAll 48 = .ok (.istore_n 1, 1) := by decide +kernel
theorem dX7_visitedByAll_49 : decode cX7_visitedByAll 49 = .ok (.iinc 3 1, 3) := by decide +kernel
theorem dX7_visitedByAll_52 : decode cX7_visitedByAll 52 = .ok (.goto (-40), 3) := by decide +kernel
theorem dX7_visitedByAll_55 : decode cX7_visitedByAll 55 = .ok (.iinc 2 1, 3) := by decide +kernel
theorem dX7_visitedByAll_58 : decode cX7_visitedByAll 58 = .ok (.goto (-54), 3) := by decide +kernel
theorem dX7_visitedByAll_61 : decode cX7_visitedByAll 61 = .ok (.iload_n 1, 1) := by decide +kernel
theorem dX7_visitedByAll_62 : decode cX7_visitedByAll 62 = .ok (.ireturn, 1) := by decide +kernel
theorem dX8_init_0 : decode cX8_init 0 = .ok (.aload_n 0, 1) := by decide +kernel
theorem dX8_init_1 : decode cX8_init 1 = .ok (.invokespecial 1, 3) := by decide +kernel
theorem dX8_init_4 : decode cX8_init 4 = .ok (.aload_n 0, 1) := by decide +kernel
theorem dX8_init_5 : decode cX8_init 5 = .ok (.bipush 10, 2) := by decide +kernel
theorem dX8_init_7 : decode cX8_init 7 = .ok (.newarray .int, 2) := by decide +kernel
theorem dX8_init_9 : decode cX8_init 9 = .ok (.putfield 7, 3) := by decide +kernel
theorem dX8_init_12 : decode cX8_init 12 = .ok (.aload_n 0, 1) := by decide +kernel
theorem dX8_init_13 : decode cX8_init 13 = .ok (.bipush 10, 2) := by decide +kernel
theorem dX8_init_15 : decode cX8_init 15 = .ok (.newarray .int, 2) := by decide +kernel
end
section
theorem dX8_init_17 : decode cX8_init 17 = .ok (.dup, 1) := by decide +kernel
theorem dX8_init_18 : decode cX8_init 18 = .ok (.iconst 0, 1) := by decide +kernel
theorem dX8_init_19 : decode cX8_init 19 = .ok (.iconst 1, 1) := by decide +kernel
theorem dX8_init_20 : decode cX8_init 20 = .ok (.iastore, 1) := by decide +kernel
theorem dX8_init_21 : decode cX8_init 21 = .ok (.dup, 1) := by decide +kernel
theorem dX8_init_22 : decode cX8_init 22 = .ok (.iconst 1, 1) := by decide +kernel
theorem dX8_init_23 : decode cX8_init 23 = .ok (.iconst 1, 1) := by decide +kernel
theorem dX8_init_24 : decode cX8_init 24 = .ok (.iastore, 1) := by decide +kernel
theorem dX8_init_25 : decode cX8_init 25 = .ok (.dup, 1) := by decide +kernel
theorem dX8_init_26 : decode cX8_init 26 = .ok (.iconst 2, 1) := by decide +kernel
theorem dX8_init_27 : decode cX8_init 27 = .ok (.iconst 1, 1) := by decide +kernel
theorem dX8_init_28 : decode cX8_init 28 = .ok (.iastore, 1) := by decide +kernel
theorem dX8_init_29 : decode cX8_init 29 = .ok (.dup, 1) := by decide +kernel
theorem dX8_init_30 : decode cX8_init 30 = .ok (.iconst 3, 1) := by decide +kernel
theorem dX8_init_31 : decode cX8_init 31 = .ok (.iconst 1, 1) := by decide +kernel
theorem dX8_init_32 : decode cX8_init 32 = .ok (.iastore, 1) := by decide +kernel
theorem dX8_init_33 : decode cX8_init 33 = .ok (.dup, 1) := by decide +kernel
theorem dX8_init_34 : decode cX8_init 34 = .ok (.iconst 4, 1) := by decide +kernel
theorem dX8_init_35 : decode cX8_init 35 = .ok (.iconst 1, 1) := by decide +kernel
theorem dX8_init_36 : decode cX8_init 36 = .ok (.iastore, 1) := by decide +kernel
theorem dX8_init_37 : decode cX8_init 37 = .ok (.dup, 1) := by decide +kernel
theorem dX8_init_38 : decode cX8_init 38 = .ok (.iconst 5, 1) := by decide +kernel
theorem dX8_init_39 : decode cX8_init 39 = .ok (.iconst 1, 1) := by decide +kernel
theorem dX8_init_40 : decode cX8_init 40 = .ok (.iastore, 1) := by decide +kernel
theorem dX8_init_41 : decode cX8_init 41 = .ok (.dup, 1) := by decide +kernel
theorem dX8_init_42 : decode cX8_init 42 = .ok (.bipush 6, 2) := by decide +kernel
theorem dX8_init_44 : decode cX8_init 44 = .ok (.iconst 1, 1) := by decide +kernel
theorem dX8_init_45 : decode cX8_init 45 = .ok (.iastore, 1) := by decide +kernel
theorem dX8_init_46 : decode cX8_init 46 = .ok (.dup, 1) := by decide +kernel
theorem dX8_init_47 : decode cX8_init 47 = .ok (.bipush 7, 2) := by decide +kernel
theorem dX8_init_49 : decode cX8_init 49 = .ok (.iconst 1, 1) := by decide +kernel
theorem dX8_init_50 : decode cX8_init 50 = .ok (.iastore, 1) := by decide +kernel
theorem dX8_init_51 : decode cX8_init 51 = .ok (.dup, 1) := by decide +kernel
theorem dX8_init_52 : decode cX8_init 52 = .ok (.bipush 8, 2) := by decide +kernel
theorem dX8_init_54 : decode cX8_init 54 = .ok (.iconst 1, 1) := by decide +kernel
theorem dX8_init_55 : decode cX8_init 55 = .ok (.iastore, 1) := by decide +kernel
theorem dX8_init_56 : decode cX8_init 56 = .ok (.dup, 1) := by decide +kernel
theorem dX8_init_57 : decode cX8_init 57 = .ok (.bipush 9, 2) := by decide +kernel
theorem dX8_init_59 : decode cX8_init 59 = .ok (.iconst 1, 1) := by decide +kernel
theorem dX8_init_60 : decode cX8_init 60 = .ok (.iastore, 1) := by decide +kernel
theorem dX8_init_61 : decode cX8_init 61 = .ok (.putfield 13, 3) := by decide +kernel
theorem dX8_init_64 : decode cX8_init 64 = .ok (.aload_n 0, 1) := by decide +kernel
theorem dX8_init_65 : decode cX8_init 65 = .ok (.bipush 8, 2) := by decide +kernel
theorem dX8_init_67 : decode cX8_init 67 = .ok (.newarray .int, 2) := by decide +kernel
theorem dX8_init_69 : decode cX8_init 69 = .ok (.putfield 16, 3) := by decide +kernel
theorem dX8_init_72 : decode cX8_init 72 = .ok (.aload_n 0, 1) := by decide +kernel
theorem dX8_init_73 : decode cX8_init 73 = .ok (.bipush 15, 2) := by decide +kernel
theorem dX8_init_75 : decode cX8_init 75 = .ok (.putfield 19, 3) := by decide +kernel
theorem dX8_init_78 : decode cX8_init 78 = .ok (.aload_n 0, 1) := by decide +kernel
theorem dX8_init_79 : decode cX8_init 79 = .ok (.iconst 1, 1) := by decide +kernel
theorem dX8_init_80 : decode cX8_init 80 = .ok (.putfield 23, 3) := by decide +kernel
theorem dX8_init_83 : decode cX8_init 83 = .ok (.aload_n 0, 1) := by decide +kernel
theorem dX8_init_84 : decode cX8_init 84 = .ok (.iconst 4, 1) := by decide +kernel
theorem dX8_init_85 : decode cX8_init 85 = .ok (.newarray .int, 2) := by decide +kernel
theorem dX8_init_87 : decode cX8_init 87 = .ok (.putfield 26, 3) := by decide +kernel
theorem dX8_init_90 : decode cX8_init 90 = .ok (.aload_n 0, 1) := by decide +kernel
theorem dX8_init_91 : decode cX8_init 91 = .ok (.bipush 8, 2) := by decide +kernel
theorem dX8_init_93 : decode cX8_init 93 = .ok (.newarray .int, 2) := by decide +kernel
theorem dX8_init_95 : decode cX8_init 95 = .ok (.putfield 29, 3) := by decide +kernel
theorem dX8_init_98 : decode cX8_init 98 = .ok (.aload_n 0, 1) := by decide +kernel
theorem dX8_init_99 : decode cX8_init 99 = .ok (.sipush 256, 3) := by decide +kernel
theorem dX8_init_102 : decode cX8_init 102 = .ok (.newarray .int, 2) := by decide +kernel
theorem dX8_init_104 : decode cX8_init 104 = .ok (.putfield 32, 3) := by decide +kernel
theorem dX8_init_107 : decode cX8_init 107 = .ok (.aload_n 0, 1) := by decide +kernel
theorem dX8_init_108 : decode cX8_init 108 = .ok (.sipush 256, 3) := by decide +kernel
theorem dX8_init_111 : decode cX8_init 111 = .ok (.newarray .int, 2) := by decide +kernel
theorem dX8_init_113 : decode cX8_init 113 = .ok (.putfield 35, 3) := by decide +kernel
theorem dX8_init_116 : decode cX8_init 116 = .ok (.aload_n 0, 1) := by decide +kernel
theorem dX8_init_117 : decode cX8_init 117 = .ok (.sipush 256, 3) := by decide +kernel
theorem dX8_init_120 : decode cX8_init 120 = .ok (.newarray .boolean, 2) := by decide +kernel
theorem dX8_init_122 : decode cX8_init 122 = .ok (.putfield 38, 3) := by decide +kernel
theorem dX8_init_125 : decode cX8_init 125 = .ok (.aload_n 0, 1) := by decide +kernel
theorem dX8_init_126 : decode cX8_init 126 = .ok (.sipush 10240, 3) := by decide +kernel
theorem dX8_init_129 : decode cX8_init 129 = .ok (.newarray .int, 2) := by decide +kernel
theorem dX8_init_131 : decode cX8_init 131 = .ok (.putfield 42, 3) := by decide +kernel
theorem dX8_init_134 : decode cX8_init 134 = .ok (.aload_n 0, 1) := by decide +kernel
theorem dX8_init_135 : decode cX8_init 135 = .ok (.sipush 10240, 3) := by decide +kernel
theorem dX8_init_138 : decode cX8_init 138 = .ok (.newarray .int, 2) := by decide +kernel
theorem dX8_init_140 : decode cX8_init 140 = .ok (.putfield 45, 3) := by decide +kernel
theorem dX8_init_143 : decode cX8_init 143 = .ok (.aload_n 0, 1) := by decide +kernel
theorem dX8_init_144 : decode cX8_init 144 = .ok (.sipush 10240, 3) := by decide +kernel
theorem dX8_init_147 : decode cX8_init 147 = .ok (.newarray .int, 2) := by decide +kernel
theorem dX8_init_149 : decode cX8_init 149 = .ok (.putfield 48, 3) := by decide +kernel
theorem dX8_init_152 : decode cX8_init 152 = .ok (.aload_n 0, 1) := by decide +kernel
theorem dX8_init_153 : decode cX8_init 153 = .ok (.iconst 2, 1) := by decide +kernel
theorem dX8_init_154 : decode cX8_init 154 = .ok (.newarray .int, 2) := by decide +kernel
theorem dX8_init_156 : decode cX8_init 156 = .ok (.putfield 51, 3) := by decide +kernel
theorem dX8_init_159 : decode cX8_init 159 = .ok (.aload_n 0, 1) := by decide +kernel
theorem dX8_init_160 : decode cX8_init 160 = .ok (.bipush 84, 2) := by decide +kernel
theorem dX8_init_162 : decode cX8_init 162 = .ok (.newarray .int, 2) := by decide +kernel
theorem dX8_init_164 : decode cX8_init 164 = .ok (.putfield 54, 3) := by decide +kernel
theorem dX8_init_167 : decode cX8_init 167 = .ok (.aload_n 0, 1) := by decide +kernel
theorem dX8_init_168 : decode cX8_init 168 = .ok (.bipush 84, 2) := by decide +kernel
theorem dX8_init_170 : decode cX8_init 170 = .ok (.newarray .int, 2) := by decide +kernel
theorem dX8_init_172 : decode cX8_init 172 = .ok (.putfield 57, 3) := by decide +kernel
theorem dX8_init_175 : decode cX8_init 175 = .ok (.aload_n 0, 1) := by decide +kernel
theorem dX8_init_176 : decode cX8_init 176 = .ok (.bipush 84, 2) := by decide +kernel
theorem dX8_init_178 : decode cX8_init 178 = .ok (.newarray .int, 2) := by decide +kernel
theorem dX8_init_180 : decode cX8_init 180 = .ok (.putfield 60, 3) := by decide +kernel
theorem dX8_init_183 : decode cX8_init 183 = .ok (.aload_n 0, 1) := by decide +kernel
theorem dX8_init_184 : decode cX8_init 184 = .ok (.bipush 16, 2) := by decide +kernel
theorem dX8_init_186 : decode cX8_init 186 = .ok (.newarray .int, 2) := by decide +kernel
theorem dX8_init_188 : decode cX8_init 188 = .ok (.putfield 63, 3) := by decide +kernel
theorem dX8_init_191 : decode cX8_init 191 = .ok (.return_, 1) := by decide +kernel
theorem dX8_isOrder_0 : decode cX8_isOrder 0 = .ok (.iload_n 1, 1) := by decide +kernel
theorem dX8_isOrder_1 : decode cX8_isOrder 1 = .ok (.ifCond .lt 13, 3) := by decide +kernel
theorem dX8_isOrder_4 : decode cX8_isOrder 4 = .ok (.iload_n 1, 1) := by decide +kernel
theorem dX8_isOrder_5 : decode cX8_isOrder 5 = .ok (.ldc 69, 2) := by decide +kernel
theorem dX8_isOrder_7 : decode cX8_isOrder 7 = .ok (.if_icmp .ge 7, 3) := by decide +kernel
theorem dX8_isOrder_10 : decode cX8_isOrder 10 = .ok (.iconst 1, 1) := by decide +kernel
theorem dX8_isOrder_11 : decode cX8_isOrder 11 = .ok (.goto 4, 3) := by decide +kernel
theorem dX8_isOrder_14 : decode cX8_isOrder 14 = .ok (.iconst 0, 1) := by decide +kernel
theorem dX8_isOrder_15 : decode cX8_isOrder 15 = .ok (.ireturn, 1) := by decide +kernel
theorem dX8_isPlace_0 : decode cX8_isPlace 0 = .ok (.iload_n 1, 1) := by decide +kernel
theorem dX8_isPlace_1 : decode cX8_isPlace 1 = .ok (.ifCond .lt 15, 3) := by decide +kernel
theorem dX8_isPlace_4 : decode cX8_isPlace 4 = .ok (.iload_n 1, 1) := by decide +kernel
theorem dX8_isPlace_5 : decode cX8_isPlace 5 = .ok (.aload_n 0, 1) := by decide +kernel
theorem dX8_isPlace_6 : decode cX8_isPlace 6 = .ok (.getfield 70, 3) := by decide +kernel
theorem dX8_isPlace_9 : decode cX8_isPlace 9 = .ok (.if_icmp .ge 7, 3) := by decide +kernel
theorem dX8_isPlace_12 : decode cX8_isPlace 12 = .ok (.iconst 1, 1) := by decide +kernel
theorem dX8_isPlace_13 : decode cX8_isPlace 13 = .ok (.goto 4, 3) := by decide +kernel
theorem dX8_isPlace_16 : decode cX8_isPlace 16 = .ok (.iconst 0, 1) := by decide +kernel
theorem dX8_isPlace_17 : decode cX8_isPlace 17 = .ok (.ireturn, 1) := by decide +kernel
theorem dX8_order_0 : decode cX8_order 0 = .ok (.aload_n 0, 1) := by decide +kernel
theorem dX8_order_1 : decode cX8_order 1 = .ok (.iconst 0, 1) := by decide +kernel
theorem dX8_order_2 : decode cX8_order 2 = .ok (.putfield 66, 3) := by decide +kernel
theorem dX8_order_5 : decode cX8_order 5 = .ok (.aload_n 0, 1) := by decide +kernel
theorem dX8_order_6 : decode cX8_order 6 = .ok (.iload_n 1, 1) := by decide +kernel
theorem dX8_order_7 : decode cX8_order 7 = .ok (.invokevirtual 73, 3) := by decide +kernel
theorem dX8_order_10 : decode cX8_order 10 = .ok (.ifCond .eq 12, 3) := by decide +kernel
theorem dX8_order_13 : decode cX8_order 13 = .ok (.aload_n 0, 1) := by decide +kernel
theorem dX8_order_14 : decode cX8_order 14 = .ok (.getfield 70, 3) := by decide +kernel
theorem dX8_order_17 : decode cX8_order 17 = .ok (.bipush 8, 2) := by decide +kernel
theorem dX8_order_19 : decode cX8_order 19 = .ok (.if_icmp .ne 5, 3) := by decide +kernel
theorem dX8_order_22 : decode cX8_order 22 = .ok (.iconst (-1), 1) := by decide +kernel
theorem dX8_order_23 : decode cX8_order 23 = .ok (.ireturn, 1) := by decide +kernel
theorem dX8_order_24 : decode cX8_order 24 = .ok (.aload_n 0, 1) := by decide +kernel
theorem dX8_order_25 : decode cX8_order 25 = .ok (.getfield 7, 3) := by decide +kernel
theorem dX8_order_28 : decode cX8_order 28 = .ok (.aload_n 0, 1) := by decide +kernel
theorem dX8_order_29 : decode cX8_order 29 = .ok (.getfield 70, 3) := by decide +kernel
theorem dX8_order_32 : decode cX8_order 32 = .ok (.iload_n 1, 1) := by decide +kernel
theorem dX8_order_33 : decode cX8_order 33 = .ok (.iastore, 1) := by decide +kernel
theorem dX8_order_34 : decode cX8_order 34 = .ok (.aload_n 0, 1) := by decide +kernel
theorem dX8_order_35 : decode cX8_order 35 = .ok (.aload_n 0, 1) := by decide +kernel
theorem dX8_order_36 : decode cX8_order 36 = .ok (.getfield 70, 3) := by decide +kernel
theorem dX8_order_39 : decode cX8_order 39 = .ok (.iconst 1, 1) := by decide +kernel
theorem dX8_order_40 : decode cX8_order 40 = .ok (.iadd, 1) := by decide +kernel
theorem dX8_order_41 : decode cX8_order 41 = .ok (.putfield 70, 3) := by decide +kernel
theorem dX8_order_44 : decode cX8_order 44 = .ok (.aload_n 0, 1) := by decide +kernel
theorem dX8_order_45 : decode cX8_order 45 = .ok (.getfield 70, 3) := by decide +kernel
theorem dX8_order_48 : decode cX8_order 48 = .ok (.iconst 1, 1) := by decide +kernel
theorem dX8_order_49 : decode cX8_order 49 = .ok (.isub, 1) := by decide +kernel
theorem dX8_order_50 : decode cX8_order 50 = .ok (.ireturn, 1) := by decide +kernel
theorem dX8_change_0 : decode cX8_change 0 = .ok (.aload_n 0, 1) := by decide +kernel
theorem dX8_change_1 : decode cX8_change 1 = .ok (.iconst 0, 1) := by decide +kernel
theorem dX8_change_2 : decode cX8_change 2 = .ok (.putfield 66, 3) := by decide +kernel
theorem dX8_change_5 : decode cX8_change 5 = .ok (.aload_n 0, 1) := by decide +kernel
theorem dX8_change_6 : decode cX8_change 6 = .ok (.iload_n 1, 1) := by decide +kernel
theorem dX8_change_7 : decode cX8_change 7 = .ok (.invokevirtual 77, 3) := by decide +kernel
theorem dX8_change_10 : decode cX8_change 10 = .ok (.ifCond .eq 11, 3) := by decide +kernel
theorem dX8_change_13 : decode cX8_change 13 = .ok (.aload_n 0, 1) := by decide +kernel
theorem dX8_change_14 : decode cX8_change 14 = .ok (.iload_n 2, 1) := by decide +kernel
theorem dX8_change_15 : decode cX8_change 15 = .ok (.invokevirtual 73, 3) := by decide +kernel
theorem dX8_change_18 : decode cX8_change 18 = .ok (.ifCond .ne 5, 3) := by decide +kernel
theorem dX8_change_21 : decode cX8_change 21 = .ok (.iconst 0, 1) := by decide +kernel
theorem dX8_change_22 : decode cX8_change 22 = .ok (.ireturn, 1) := by decide +kernel
theorem dX8_change_23 : decode cX8_change 23 = .ok (.aload_n 0, 1) := by decide +kernel
theorem dX8_change_24 : decode cX8_change 24 = .ok (.getfield 7, 3) := by decide +kernel
theorem dX8_change_27 : decode cX8_change 27 = .ok (.iload_n 1, 1) := by decide +kernel
theorem dX8_change_28 : decode cX8_change 28 = .ok (.iload_n 2, 1) := by decide +kernel
theorem dX8_change_29 : decode cX8_change 29 = .ok (.iastore, 1) := by decide +kernel
theorem dX8_change_30 : decode cX8_change 30 = .ok (.iconst 1, 1) := by decide +kernel
theorem dX8_change_31 : decode cX8_change 31 = .ok (.ireturn, 1) := by decide +kernel
theorem dX8_clear_0 : decode cX8_clear 0 = .ok (.aload_n 0, 1) := by decide +kernel
theorem dX8_clear_1 : decode cX8_clear 1 = .ok (.iconst 0, 1) := by decide +kernel
theorem dX8_clear_2 : decode cX8_clear 2 = .ok (.putfield 66, 3) := by decide +kernel
theorem dX8_clear_5 : decode cX8_clear 5 = .ok (.aload_n 0, 1) := by decide +kernel
theorem dX8_clear_6 : decode cX8_clear 6 = .ok (.iconst 0, 1) := by decide +kernel
theorem dX8_clear_7 : decode cX8_clear 7 = .ok (.putfield 70, 3) := by decide +kernel
theorem dX8_clear_10 : decode cX8_clear 10 = .ok (.aload_n 0, 1) := by decide +kernel
theorem dX8_clear_11 : decode cX8_clear 11 = .ok (.iconst 0, 1) := by decide +kernel
theorem dX8_clear_12 : decode cX8_clear 12 = .ok (.putfield 80, 3) := by decide +kernel
theorem dX8_clear_15 : decode cX8_clear 15 = .ok (.iconst 0, 1) := by decide +kernel
theorem dX8_clear_16 : decode cX8_clear 16 = .ok (.istore_n 1, 1) := by decide +kernel
theorem dX8_clear_17 : decode cX8_clear 17 = .ok (.iload_n 1, 1) := by decide +kernel
theorem dX8_clear_18 : decode cX8_clear 18 = .ok (.bipush 10, 2) := by decide +kernel
theorem dX8_clear_20 : decode cX8_clear 20 = .ok (.if_icmp .ge 16, 3) := by decide +kernel
theorem dX8_clear_23 : decode cX8_clear 23 = .ok (.aload_n 0, 1) := by decide +kernel
theorem dX8_clear_24 : decode cX8_clear 24 = .ok (.getfield 13, 3) := by decide +kernel
theorem dX8_clear_27 : decode cX8_clear 27 = .ok (.iload_n 1, 1) := by decide +kernel
theorem dX8_clear_28 : decode cX8_clear 28 = .ok (.iconst 1, 1) := by decide +kernel
theorem dX8_clear_29 : decode cX8_clear 29 = .ok (.iastore, 1) := by decide +kernel
theorem dX8_clear_30 : decode cX8_clear 30 = .ok (.iinc 1 1, 3) := by decide +kernel
theorem dX8_clear_33 : decode cX8_clear 33 = .ok (.goto (-16), 3) := by decide +kernel
theorem dX8_clear_36 : decode cX8_clear 36 = .ok (.return_, 1) := by decide +kernel
theorem dX8_word_0 : decode cX8_word 0 = .ok (.aload_n 0, 1) := by decide +kernel
theorem dX8_word_1 : decode cX8_word 1 = .ok (.iconst 0, 1) := by decide +kernel
theorem dX8_word_2 : decode cX8_word 2 = .ok (.putfield 66, 3) := by decide +kernel
theorem dX8_word_5 : decode cX8_word 5 = .ok (.iload_n 1, 1) := by decide +kernel
theorem dX8_word_6 : decode cX8_word 6 = .ok (.ifCond .lt 9, 3) := by decide +kernel
theorem dX8_word_9 : decode cX8_word 9 = .ok (.iload_n 1, 1) := by decide +kernel
theorem dX8_word_10 : decode cX8_word 10 = .ok (.bipush 7, 2) := by decide +kernel
theorem dX8_word_12 : decode cX8_word 12 = .ok (.if_icmp .le 5, 3) := by decide +kernel
theorem dX8_word_15 : decode cX8_word 15 = .ok (.iconst 0, 1) := by decide +kernel
theorem dX8_word_16 : decode cX8_word 16 = .ok (.ireturn, 1) := by decide +kernel
theorem dX8_word_17 : decode cX8_word 17 = .ok (.aload_n 0, 1) := by decide +kernel
theorem dX8_word_18 : decode cX8_word 18 = .ok (.getfield 16, 3) := by decide +kernel
theorem dX8_word_21 : decode cX8_word 21 = .ok (.iload_n 1, 1) := by decide +kernel
theorem dX8_word_22 : decode cX8_word 22 = .ok (.iload_n 2, 1) := by decide +kernel
theorem dX8_word_23 : decode cX8_word 23 = .ok (.iastore, 1) := by decide +kernel
theorem dX8_word_24 : decode cX8_word 24 = .ok (.iconst 1, 1) := by decide +kernel
theorem dX8_word_25 : decode cX8_word 25 = .ok (.ireturn, 1) := by decide +kernel
theorem dX8_watch_0 : decode cX8_watch 0 = .ok (.aload_n 0, 1) := by decide +kernel
theorem dX8_watch_1 : decode cX8_watch 1 = .ok (.iconst 0, 1) := by decide +kernel
theorem dX8_watch_2 : decode cX8_watch 2 = .ok (.putfield 66, 3) := by decide +kernel
theorem dX8_watch_5 : decode cX8_watch 5 = .ok (.iload_n 1, 1) := by decide +kernel
theorem dX8_watch_6 : decode cX8_watch 6 = .ok (.ifCond .lt 30, 3) := by decide +kernel
theorem dX8_watch_9 : decode cX8_watch 9 = .ok (.iload_n 1, 1) := by decide +kernel
theorem dX8_watch_10 : decode cX8_watch 10 = .ok (.bipush 15, 2) := by decide +kernel
theorem dX8_watch_12 : decode cX8_watch 12 = .ok (.if_icmp .gt 24, 3) := by decide +kernel
theorem dX8_watch_15 : decode cX8_watch 15 = .ok (.iload_n 2, 1) := by decide +kernel
theorem dX8_watch_16 : decode cX8_watch 16 = .ok (.iconst 1, 1) := by decide +kernel
theorem dX8_watch_17 : decode cX8_watch 17 = .ok (.if_icmp .eq 21, 3) := by decide +kernel
theorem dX8_watch_20 : decode cX8_watch 20 = .ok (.iload_n 2, 1) := by decide +kernel
theorem dX8_watch_21 : decode cX8_watch 21 = .ok (.iconst 2, 1) := by decide +kernel
theorem dX8_watch_22 : decode cX8_watch 22 = .ok (.if_icmp .eq 16, 3) := by decide +kernel
theorem dX8_watch_25 : decode cX8_watch 25 = .ok (.iload_n 2, 1) := by decide +kernel
theorem dX8_watch_26 : decode cX8_watch 26 = .ok (.iconst 4, 1) := by decide +kernel
theorem dX8_watch_27 : decode cX8_watch 27 = .ok (.if_icmp .eq 11, 3) := by decide +kernel
theorem dX8_watch_30 : decode cX8_watch 30 = .ok (.iload_n 2, 1) := by decide +kernel
theorem dX8_watch_31 : decode cX8_watch 31 = .ok (.bipush 8, 2) := by decide +kernel
theorem dX8_watch_33 : decode cX8_watch 33 = .ok (.if_icmp .eq 5, 3) := by decide +kernel
theorem dX8_watch_36 : decode cX8_watch 36 = .ok (.iconst 0, 1) := by decide +kernel
theorem dX8_watch_37 : decode cX8_watch 37 = .ok (.ireturn, 1) := by decide +kernel
theorem dX8_watch_38 : decode cX8_watch 38 = .ok (.aload_n 0, 1) := by decide +kernel
theorem dX8_watch_39 : decode cX8_watch 39 = .ok (.iload_n 1, 1) := by decide +kernel
theorem dX8_watch_40 : decode cX8_watch 40 = .ok (.putfield 19, 3) := by decide +kernel
theorem dX8_watch_43 : decode cX8_watch 43 = .ok (.aload_n 0, 1) := by decide +kernel
theorem dX8_watch_44 : decode cX8_watch 44 = .ok (.iload_n 2, 1) := by decide +kernel
theorem dX8_watch_45 : decode cX8_watch 45 = .ok (.putfield 23, 3) := by decide +kernel
theorem dX8_watch_48 : decode cX8_watch 48 = .ok (.iconst 1, 1) := by decide +kernel
theorem dX8_watch_49 : decode cX8_watch 49 = .ok (.ireturn, 1) := by decide +kernel
theorem dX8_even_0 : decode cX8_even 0 = .ok (.aload_n 0, 1) := by decide +kernel
theorem dX8_even_1 : decode cX8_even 1 = .ok (.iconst 0, 1) := by decide +kernel
theorem dX8_even_2 : decode cX8_even 2 = .ok (.putfield 66, 3) := by decide +kernel
theorem dX8_even_5 : decode cX8_even 5 = .ok (.aload_n 0, 1) := by decide +kernel
theorem dX8_even_6 : decode cX8_even 6 = .ok (.iload_n 1, 1) := by decide +kernel
theorem dX8_even_7 : decode cX8_even 7 = .ok (.invokevirtual 77, 3) := by decide +kernel
theorem dX8_even_10 : decode cX8_even 10 = .ok (.ifCond .eq 24, 3) := by decide +kernel
theorem dX8_even_13 : decode cX8_even 13 = .ok (.aload_n 0, 1) := by decide +kernel
theorem dX8_even_14 : decode cX8_even 14 = .ok (.getfield 80, 3) := by decide +kernel
theorem dX8_even_17 : decode cX8_even 17 = .ok (.iload_n 1, 1) := by decide +kernel
theorem dX8_even_18 : decode cX8_even 18 = .ok (.ishr, 1) := by decide +kernel
theorem dX8_even_19 : decode cX8_even 19 = .ok (.iconst 1, 1) := by decide +kernel
theorem dX8_even_20 : decode cX8_even 20 = .ok (.iand, 1) := by decide +kernel
theorem dX8_even_21 : decode cX8_even 21 = .ok (.iconst 1, 1) := by decide +kernel
theorem dX8_even_22 : decode cX8_even 22 = .ok (.if_icmp .ne 7, 3) := by decide +kernel
theorem dX8_even_25 : decode cX8_even 25 = .ok (.iconst 1, 1) := by decide +kernel
theorem dX8_even_26 : decode cX8_even 26 = .ok (.goto 4, 3) := by decide +kernel
theorem dX8_even_29 : decode cX8_even 29 = .ok (.iconst 0, 1) := by decide +kernel
theorem dX8_even_30 : decode cX8_even 30 = .ok (.iload_n 2, 1) := by decide +kernel
theorem dX8_even_31 : decode cX8_even 31 = .ok (.if_icmp .ne 5, 3) := by decide +kernel
theorem dX8_even_34 : decode cX8_even 34 = .ok (.iconst 0, 1) := by decide +kernel
theorem dX8_even_35 : decode cX8_even 35 = .ok (.ireturn, 1) := by decide +kernel
theorem dX8_even_36 : decode cX8_even 36 = .ok (.aload_n 0, 1) := by decide +kernel
theorem dX8_even_37 : decode cX8_even 37 = .ok (.aload_n 0, 1) := by decide +kernel
theorem dX8_even_38 : decode cX8_even 38 = .ok (.getfield 80, 3) := by decide +kernel
theorem dX8_even_41 : decode cX8_even 41 = .ok (.iconst 1, 1) := by decide +kernel
theorem dX8_even_42 : decode cX8_even 42 = .ok (.iload_n 1, 1) := by decide +kernel
theorem dX8_even_43 : decode cX8_even 43 = .ok (.ishl, 1) := by decide +kernel
theorem dX8_even_44 : decode cX8_even 44 = .ok (.ixor, 1) := by decide +kernel
theorem dX8_even_45 : decode cX8_even 45 = .ok (.putfield 80, 3) := by decide +kernel
theorem dX8_even_48 : decode cX8_even 48 = .ok (.iconst 1, 1) := by decide +kernel
theorem dX8_even_49 : decode cX8_even 49 = .ok (.ireturn, 1) := by decide +kernel
theorem dX8_price_0 : decode cX8_price 0 = .ok (.aload_n 0, 1) := by decide +kernel
theorem dX8_price_1 : decode cX8_price 1 = .ok (.iconst 0, 1) := by decide +kernel
theorem dX8_price_2 : decode cX8_price 2 = .ok (.putfield 66, 3) := by decide +kernel
theorem dX8_price_5 : decode cX8_price 5 = .ok (.aload_n 0, 1) := by decide +kernel
theorem dX8_price_6 : decode cX8_price 6 = .ok (.iload_n 1, 1) := by decide +kernel
theorem dX8_price_7 : decode cX8_price 7 = .ok (.invokevirtual 77, 3) := by decide +kernel
theorem dX8_price_10 : decode cX8_price 10 = .ok (.ifCond .eq 13, 3) := by decide +kernel
theorem dX8_price_13 : decode cX8_price 13 = .ok (.iload_n 2, 1) := by decide +kernel
theorem dX8_price_14 : decode cX8_price 14 = .ok (.ifCond .lt 9, 3) := by decide +kernel
theorem dX8_price_17 : decode cX8_price 17 = .ok (.iload_n 2, 1) := by decide +kernel
theorem dX8_price_18 : decode cX8_price 18 = .ok (.bipush 99, 2) := by decide +kernel
theorem dX8_price_20 : decode cX8_price 20 = .ok (.if_icmp .le 5, 3) := by decide +kernel
theorem dX8_price_23 : decode cX8_price 23 = .ok (.iconst 0, 1) := by decide +kernel
theorem dX8_price_24 : decode cX8_price 24 = .ok (.ireturn, 1) := by decide +kernel
theorem dX8_price_25 : decode cX8_price 25 = .ok (.aload_n 0, 1) := by decide +kernel
theorem dX8_price_26 : decode cX8_price 26 = .ok (.getfield 13, 3) := by decide +kernel
theorem dX8_price_29 : decode cX8_price 29 = .ok (.iload_n 1, 1) := by decide +kernel
theorem dX8_price_30 : decode cX8_price 30 = .ok (.iload_n 2, 1) := by decide +kernel
theorem dX8_price_31 : decode cX8_price 31 = .ok (.iastore, 1) := by decide +kernel
theorem dX8_price_32 : decode cX8_price 32 = .ok (.iconst 1, 1) := by decide +kernel
theorem dX8_price_33 : decode cX8_price 33 = .ok (.ireturn, 1) := by decide +kernel
theorem dX8_look_0 : decode cX8_look 0 = .ok (.aload_n 0, 1) := by decide +kernel
theorem dX8_look_1 : decode cX8_look 1 = .ok (.iconst 0, 1) := by decide +kernel
theorem dX8_look_2 : decode cX8_look 2 = .ok (.putfield 66, 3) := by decide +kernel
theorem dX8_look_5 : decode cX8_look 5 = .ok (.iload_n 1, 1) := by decide +kernel
theorem dX8_look_6 : decode cX8_look 6 = .ok (.ifCond .ne 8, 3) := by decide +kernel
theorem dX8_look_9 : decode cX8_look 9 = .ok (.aload_n 0, 1) := by decide +kernel
theorem dX8_look_10 : decode cX8_look 10 = .ok (.getfield 70, 3) := by decide +kernel
theorem dX8_look_13 : decode cX8_look 13 = .ok (.ireturn, 1) := by decide +kernel
theorem dX8_look_14 : decode cX8_look 14 = .ok (.iload_n 1, 1) := by decide +kernel
theorem dX8_look_15 : decode cX8_look 15 = .ok (.iconst 1, 1) := by decide +kernel
theorem dX8_look_16 : decode cX8_look 16 = .ok (.if_icmp .ne 8, 3) := by decide +kernel
theorem dX8_look_19 : decode cX8_look 19 = .ok (.aload_n 0, 1) := by decide +kernel
theorem dX8_look_20 : decode cX8_look 20 = .ok (.getfield 19, 3) := by decide +kernel
theorem dX8_look_23 : decode cX8_look 23 = .ok (.ireturn, 1) := by decide +kernel
theorem dX8_look_24 : decode cX8_look 24 = .ok (.iload_n 1, 1) := by decide +kernel
theorem dX8_look_25 : decode cX8_look 25 = .ok (.iconst 2, 1) := by decide +kernel
theorem dX8_look_26 : decode cX8_look 26 = .ok (.if_icmp .ne 8, 3) := by decide +kernel
theorem dX8_look_29 : decode cX8_look 29 = .ok (.aload_n 0, 1) := by decide +kernel
theorem dX8_look_30 : decode cX8_look 30 = .ok (.getfield 23, 3) := by decide +kernel
theorem dX8_look_33 : decode cX8_look 33 = .ok (.ireturn, 1) := by decide +kernel
theorem dX8_look_34 : decode cX8_look 34 = .ok (.iload_n 1, 1) := by decide +kernel
theorem dX8_look_35 : decode cX8_look 35 = .ok (.iconst 3, 1) := by decide +kernel
theorem dX8_look_36 : decode cX8_look 36 = .ok (.if_icmp .ne 8, 3) := by decide +kernel
theorem dX8_look_39 : decode cX8_look 39 = .ok (.aload_n 0, 1) := by decide +kernel
theorem dX8_look_40 : decode cX8_look 40 = .ok (.getfield 80, 3) := by decide +kernel
theorem dX8_look_43 : decode cX8_look 43 = .ok (.ireturn, 1) := by decide +kernel
theorem dX8_look_44 : decode cX8_look 44 = .ok (.iload_n 1, 1) := by decide +kernel
theorem dX8_look_45 : decode cX8_look 45 = .ok (.bipush 10, 2) := by decide +kernel
theorem dX8_look_47 : decode cX8_look 47 = .ok (.if_icmp .lt 24, 3) := by decide +kernel
theorem dX8_look_50 : decode cX8_look 50 = .ok (.aload_n 0, 1) := by decide +kernel
theorem dX8_look_51 : decode cX8_look 51 = .ok (.iload_n 1, 1) := by decide +kernel
theorem dX8_look_52 : decode cX8_look 52 = .ok (.bipush 10, 2) := by decide +kernel
theorem dX8_look_54 : decode cX8_look 54 = .ok (.isub, 1) := by decide +kernel
theorem dX8_look_55 : decode cX8_look 55 = .ok (.invokevirtual 77, 3) := by decide +kernel
theorem dX8_look_58 : decode cX8_look 58 = .ok (.ifCond .eq 13, 3) := by decide +kernel
theorem dX8_look_61 : decode cX8_look 61 = .ok (.aload_n 0, 1) := by decide +kernel
theorem dX8_look_62 : decode cX8_look 62 = .ok (.getfield 7, 3) := by decide +kernel
theorem dX8_look_65 : decode cX8_look 65 = .ok (.iload_n 1, 1) := by decide +kernel
theorem dX8_look_66 : decode cX8_look 66 = .ok (.bipush 10, 2) := by decide +kernel
theorem dX8_look_68 : decode cX8_look 68 = .ok (.isub, 1) := by decide +kernel
theorem dX8_look_69 : decode cX8_look 69 = .ok (.iaload, 1) := by decide +kernel
theorem dX8_look_70 : decode cX8_look 70 = .ok (.ireturn, 1) := by decide +kernel
theorem dX8_look_71 : decode cX8_look 71 = .ok (.iload_n 1, 1) := by decide +kernel
theorem dX8_look_72 : decode cX8_look 72 = .ok (.bipush 30, 2) := by decide +kernel
theorem dX8_look_74 : decode cX8_look 74 = .ok (.if_icmp .lt 24, 3) := by decide +kernel
theorem dX8_look_77 : decode cX8_look 77 = .ok (.aload_n 0, 1) := by decide +kernel
theorem dX8_look_78 : decode cX8_look 78 = .ok (.iload_n 1, 1) := by decide +kernel
theorem dX8_look_79 : decode cX8_look 79 = .ok (.bipush 30, 2) := by decide +kernel
theorem dX8_look_81 : decode cX8_look 81 = .ok (.isub, 1) := by decide +kernel
theorem dX8_look_82 : decode cX8_look 82 = .ok (.invokevirtual 77, 3) := by decide +kernel
theorem dX8_look_85 : decode cX8_look 85 = .ok (.ifCond .eq 13, 3) := by decide +kernel
theorem dX8_look_88 : decode cX8_look 88 = .ok (.aload_n 0, 1) := by decide +kernel
theorem dX8_look_89 : decode cX8_look 89 = .ok (.getfield 13, 3) := by decide +kernel
theorem dX8_look_92 : decode cX8_look 92 = .ok (.iload_n 1, 1) := by decide +kernel
theorem dX8_look_93 : decode cX8_look 93 = .ok (.bipush 30, 2) := by decide +kernel
theorem dX8_look_95 : decode cX8_look 95 = .ok (.isub, 1) := by decide +kernel
theorem dX8_look_96 : decode cX8_look 96 = .ok (.iaload, 1) := by decide +kernel
theorem dX8_look_97 : decode cX8_look 97 = .ok (.ireturn, 1) := by decide +kernel
theorem dX8_look_98 : decode cX8_look 98 = .ok (.iload_n 1, 1) := by decide +kernel
theorem dX8_look_99 : decode cX8_look 99 = .ok (.bipush 50, 2) := by decide +kernel
theorem dX8_look_101 : decode cX8_look 101 = .ok (.if_icmp .lt 21, 3) := by decide +kernel
theorem dX8_look_104 : decode cX8_look 104 = .ok (.iload_n 1, 1) := by decide +kernel
theorem dX8_look_105 : decode cX8_look 105 = .ok (.bipush 58, 2) := by decide +kernel
theorem dX8_look_107 : decode cX8_look 107 = .ok (.if_icmp .ge 15, 3) := by decide +kernel
theorem dX8_look_110 : decode cX8_look 110 = .ok (.aload_n 0, 1) := by decide +kernel
theorem dX8_look_111 : decode cX8_look 111 = .ok (.getfield 16, 3) := by decide +kernel
theorem dX8_look_114 : decode cX8_look 114 = .ok (.iload_n 1, 1) := by decide +kernel
theorem dX8_look_115 : decode cX8_look 115 = .ok (.bipush 50, 2) := by decide +kernel
theorem dX8_look_117 : decode cX8_look 117 = .ok (.isub, 1) := by decide +kernel
theorem dX8_look_118 : decode cX8_look 118 = .ok (.iaload, 1) := by decide +kernel
theorem dX8_look_119 : decode cX8_look 119 = .ok (.goto 6, 3) := by decide +kernel
theorem dX8_look_122 : decode cX8_look 122 = .ok (.sipush (-1001), 3) := by decide +kernel
theorem dX8_look_125 : decode cX8_look 125 = .ok (.ireturn, 1) := by decide +kernel
theorem dX8_bits_0 : decode cX8_bits 0 = .ok (.iconst 0, 1) := by decide +kernel
theorem dX8_bits_1 : decode cX8_bits 1 = .ok (.istore_n 2, 1) := by decide +kernel
theorem dX8_bits_2 : decode cX8_bits 2 = .ok (.iload_n 1, 1) := by decide +kernel
theorem dX8_bits_3 : decode cX8_bits 3 = .ok (.istore_n 3, 1) := by decide +kernel
theorem dX8_bits_4 : decode cX8_bits 4 = .ok (.iload_n 3, 1) := by decide +kernel
theorem dX8_bits_5 : decode cX8_bits 5 = .ok (.ifCond .eq 14, 3) := by decide +kernel
theorem dX8_bits_8 : decode cX8_bits 8 = .ok (.iload_n 2, 1) := by decide +kernel
theorem dX8_bits_9 : decode cX8_bits 9 = .ok (.iconst 1, 1) := by decide +kernel
theorem dX8_bits_10 : decode cX8_bits 10 = .ok (.iadd, 1) := by decide +kernel
theorem dX8_bits_11 : decode cX8_bits 11 = .ok (.istore_n 2, 1) := by decide +kernel
theorem dX8_bits_12 : decode cX8_bits 12 = .ok (.iload_n 3, 1) := by decide +kernel
theorem dX8_bits_13 : decode cX8_bits 13 = .ok (.iconst 1, 1) := by decide +kernel
theorem dX8_bits_14 : decode cX8_bits 14 = .ok (.iushr, 1) := by decide +kernel
theorem dX8_bits_15 : decode cX8_bits 15 = .ok (.istore_n 3, 1) := by decide +kernel
theorem dX8_bits_16 : decode cX8_bits 16 = .ok (.goto (-12), 3) := by decide +kernel
theorem dX8_bits_19 : decode cX8_bits 19 = .ok (.iload_n 2, 1) := by decide +kernel
theorem dX8_bits_20 : decode cX8_bits 20 = .ok (.ireturn, 1) := by decide +kernel
theorem dX8_goes_0 : decode cX8_goes 0 = .ok (.aload_n 0, 1) := by decide +kernel
theorem dX8_goes_1 : decode cX8_goes 1 = .ok (.getfield 26, 3) := by decide +kernel
theorem dX8_goes_4 : decode cX8_goes 4 = .ok (.iconst 0, 1) := by decide +kernel
theorem dX8_goes_5 : decode cX8_goes 5 = .ok (.iload_n 1, 1) := by decide +kernel
theorem dX8_goes_6 : decode cX8_goes 6 = .ok (.bipush 16, 2) := by decide +kernel
theorem dX8_goes_8 : decode cX8_goes 8 = .ok (.idiv, 1) := by decide +kernel
theorem dX8_goes_9 : decode cX8_goes 9 = .ok (.iconst 4, 1) := by decide +kernel
theorem dX8_goes_10 : decode cX8_goes 10 = .ok (.irem, 1) := by decide +kernel
theorem dX8_goes_11 : decode cX8_goes 11 = .ok (.iastore, 1) := by decide +kernel
theorem dX8_goes_12 : decode cX8_goes 12 = .ok (.aload_n 0, 1) := by decide +kernel
theorem dX8_goes_13 : decode cX8_goes 13 = .ok (.getfield 26, 3) := by decide +kernel
theorem dX8_goes_16 : decode cX8_goes 16 = .ok (.iconst 1, 1) := by decide +kernel
theorem dX8_goes_17 : decode cX8_goes 17 = .ok (.iload_n 1, 1) := by decide +kernel
theorem dX8_goes_18 : decode cX8_goes 18 = .ok (.bipush 64, 2) := by decide +kernel
theorem dX8_goes_20 : decode cX8_goes 20 = .ok (.idiv, 1) := by decide +kernel
theorem dX8_goes_21 : decode cX8_goes 21 = .ok (.iastore, 1) := by decide +kernel
theorem dX8_goes_22 : decode cX8_goes 22 = .ok (.aload_n 0, 1) := by decide +kernel
theorem dX8_goes_23 : decode cX8_goes 23 = .ok (.getfield 26, 3) := by decide +kernel
theorem dX8_goes_26 : decode cX8_goes 26 = .ok (.iconst 2, 1) := by decide +kernel
theorem dX8_goes_27 : decode cX8_goes 27 = .ok (.iload_n 1, 1) := by decide +kernel
theorem dX8_goes_28 : decode cX8_goes 28 = .ok (.iconst 4, 1) := by decide +kernel
theorem dX8_goes_29 : decode cX8_goes 29 = .ok (.irem, 1) := by decide +kernel
theorem dX8_goes_30 : decode cX8_goes 30 = .ok (.iastore, 1) := by decide +kernel
theorem dX8_goes_31 : decode cX8_goes 31 = .ok (.aload_n 0, 1) := by decide +kernel
theorem dX8_goes_32 : decode cX8_goes 32 = .ok (.getfield 26, 3) := by decide +kernel
theorem dX8_goes_35 : decode cX8_goes 35 = .ok (.iconst 3, 1) := by decide +kernel
theorem dX8_goes_36 : decode cX8_goes 36 = .ok (.iload_n 1, 1) := by decide +kernel
theorem dX8_goes_37 : decode cX8_goes 37 = .ok (.iconst 4, 1) := by decide +kernel
theorem dX8_goes_38 : decode cX8_goes 38 = .ok (.idiv, 1) := by decide +kernel
theorem dX8_goes_39 : decode cX8_goes 39 = .ok (.iconst 4, 1) := by decide +kernel
theorem dX8_goes_40 : decode cX8_goes 40 = .ok (.irem, 1) := by decide +kernel
theorem dX8_goes_41 : decode cX8_goes 41 = .ok (.iastore, 1) := by decide +kernel
theorem dX8_goes_42 : decode cX8_goes 42 = .ok (.iconst 0, 1) := by decide +kernel
theorem dX8_goes_43 : decode cX8_goes 43 = .ok (.istore_n 2, 1) := by decide +kernel
theorem dX8_goes_44 : decode cX8_goes 44 = .ok (.iload_n 2, 1) := by decide +kernel
theorem dX8_goes_45 : decode cX8_goes 45 = .ok (.bipush 8, 2) := by decide +kernel
theorem dX8_goes_47 : decode cX8_goes 47 = .ok (.if_icmp .ge 21, 3) := by decide +kernel
theorem dX8_goes_50 : decode cX8_goes 50 = .ok (.aload_n 0, 1) := by decide +kernel
theorem dX8_goes_51 : decode cX8_goes 51 = .ok (.getfield 29, 3) := by decide +kernel
theorem dX8_goes_54 : decode cX8_goes 54 = .ok (.iload_n 2, 1) := by decide +kernel
theorem dX8_goes_55 : decode cX8_goes 55 = .ok (.aload_n 0, 1) := by decide +kernel
theorem dX8_goes_56 : decode cX8_goes 56 = .ok (.getfield 16, 3) := by decide +kernel
theorem dX8_goes_59 : decode cX8_goes 59 = .ok (.iload_n 2, 1) := by decide +kernel
theorem dX8_goes_60 : decode cX8_goes 60 = .ok (.iaload, 1) := by decide +kernel
theorem dX8_goes_61 : decode cX8_goes 61 = .ok (.iastore, 1) := by decide +kernel
theorem dX8_goes_62 : decode cX8_goes 62 = .ok (.iinc 2 1, 3) := by decide +kernel
theorem dX8_goes_65 : decode cX8_goes 65 = .ok (.goto (-21), 3) := by decide +kernel
theorem dX8_goes_68 : decode cX8_goes 68 = .ok (.aload_n 0, 1) := by decide +kernel
theorem dX8_goes_69 : decode cX8_goes 69 = .ok (.getfield 32, 3) := by decide +kernel
theorem dX8_goes_72 : decode cX8_goes 72 = .ok (.iload_n 1, 1) := by decide +kernel
theorem dX8_goes_73 : decode cX8_goes 73 = .ok (.iconst 0, 1) := by decide +kernel
theorem dX8_goes_74 : decode cX8_goes 74 = .ok (.iastore, 1) := by decide +kernel
theorem dX8_goes_75 : decode cX8_goes 75 = .ok (.aload_n 0, 1) := by decide +kernel
theorem dX8_goes_76 : decode cX8_goes 76 = .ok (.getfield 38, 3) := by decide +kernel
theorem dX8_goes_79 : decode cX8_goes 79 = .ok (.iload_n 1, 1) := by decide +kernel
theorem dX8_goes_80 : decode cX8_goes 80 = .ok (.iconst 0, 1) := by decide +kernel
theorem dX8_goes_81 : decode cX8_goes 81 = .ok (.bastore, 1) := by decide +kernel
theorem dX8_goes_82 : decode cX8_goes 82 = .ok (.iconst 0, 1) := by decide +kernel
theorem dX8_goes_83 : decode cX8_goes 83 = .ok (.istore_n 2, 1) := by decide +kernel
theorem dX8_goes_84 : decode cX8_goes 84 = .ok (.iconst 1, 1) := by decide +kernel
theorem dX8_goes_85 : decode cX8_goes 85 = .ok (.istore_n 3, 1) := by decide +kernel
theorem dX8_goes_86 : decode cX8_goes 86 = .ok (.iload_n 3, 1) := by decide +kernel
theorem dX8_goes_87 : decode cX8_goes 87 = .ok (.ifCond .eq 96, 3) := by decide +kernel
theorem dX8_goes_90 : decode cX8_goes 90 = .ok (.aload_n 0, 1) := by decide +kernel
theorem dX8_goes_91 : decode cX8_goes 91 = .ok (.iload_n 2, 1) := by decide +kernel
theorem dX8_goes_92 : decode cX8_goes 92 = .ok (.invokevirtual 77, 3) := by decide +kernel
theorem dX8_goes_95 : decode cX8_goes 95 = .ok (.ifCond .ne 8, 3) := by decide +kernel
theorem dX8_goes_98 : decode cX8_goes 98 = .ok (.iconst 0, 1) := by decide +kernel
theorem dX8_goes_99 : decode cX8_goes 99 = .ok (.istore_n 3, 1) := by decide +kernel
theorem dX8_goes_100 : decode cX8_goes 100 = .ok (.goto (-14), 3) := by decide +kernel
theorem dX8_goes_103 : decode cX8_goes 103 = .ok (.aload_n 0, 1) := by decide +kernel
theorem dX8_goes_104 : decode cX8_goes 104 = .ok (.getfield 32, 3) := by decide +kernel
theorem dX8_goes_107 : decode cX8_goes 107 = .ok (.iload_n 1, 1) := by decide +kernel
theorem dX8_goes_108 : decode cX8_goes 108 = .ok (.iaload, 1) := by decide +kernel
theorem dX8_goes_109 : decode cX8_goes 109 = .ok (.bipush 40, 2) := by decide +kernel
theorem dX8_goes_111 : decode cX8_goes 111 = .ok (.if_icmp .ne 15, 3) := by decide +kernel
theorem dX8_goes_114 : decode cX8_goes 114 = .ok (.aload_n 0, 1) := by decide +kernel
theorem dX8_goes_115 : decode cX8_goes 115 = .ok (.getfield 38, 3) := by decide +kernel
theorem dX8_goes_118 : decode cX8_goes 118 = .ok (.iload_n 1, 1) := by decide +kernel
theorem dX8_goes_119 : decode cX8_goes 119 = .ok (.iconst 1, 1) := by decide +kernel
theorem dX8_goes_120 : decode cX8_goes 120 = .ok (.bastore, 1) := by decide +kernel
theorem dX8_goes_121 : decode cX8_goes 121 = .ok (.iconst 0, 1) := by decide +kernel
theorem dX8_goes_122 : decode cX8_goes 122 = .ok (.istore_n 3, 1) := by decide +kernel
theorem dX8_goes_123 : decode cX8_goes 123 = .ok (.goto (-37), 3) := by decide +kernel
theorem dX8_goes_126 : decode cX8_goes 126 = .ok (.bipush 40, 2) := by decide +kernel
theorem dX8_goes_128 : decode cX8_goes 128 = .ok (.iload_n 1, 1) := by decide +kernel
theorem dX8_goes_129 : decode cX8_goes 129 = .ok (.imul, 1) := by decide +kernel
theorem dX8_goes_130 : decode cX8_goes 130 = .ok (.aload_n 0, 1) := by decide +kernel
theorem dX8_goes_131 : decode cX8_goes 131 = .ok (.getfield 32, 3) := by decide +kernel
theorem dX8_goes_134 : decode cX8_goes 134 = .ok (.iload_n 1, 1) := by decide +kernel
theorem dX8_goes_135 : decode cX8_goes 135 = .ok (.iaload, 1) := by decide +kernel
theorem dX8_goes_136 : decode cX8_goes 136 = .ok (.iadd, 1) := by decide +kernel
theorem dX8_goes_137 : decode cX8_goes 137 = .ok (.istore 4, 2) := by decide +kernel
theorem dX8_goes_139 : decode cX8_goes 139 = .ok (.aload_n 0, 1) := by decide +kernel
theorem dX8_goes_140 : decode cX8_goes 140 = .ok (.getfield 32, 3) := by decide +kernel
theorem dX8_goes_143 : decode cX8_goes 143 = .ok (.iload_n 1, 1) := by decide +kernel
theorem dX8_goes_144 : decode cX8_goes 144 = .ok (.aload_n 0, 1) := by decide +kernel
theorem dX8_goes_145 : decode cX8_goes 145 = .ok (.getfield 32, 3) := by decide +kernel
theorem dX8_goes_148 : decode cX8_goes 148 = .ok (.iload_n 1, 1) := by decide +kernel
theorem dX8_goes_149 : decode cX8_goes 149 = .ok (.iaload, 1) := by decide +kernel
theorem dX8_goes_150 : decode cX8_goes 150 = .ok (.iconst 1, 1) := by decide +kernel
theorem dX8_goes_151 : decode cX8_goes 151 = .ok (.iadd, 1) := by decide +kernel
theorem dX8_goes_152 : decode cX8_goes 152 = .ok (.iastore, 1) := by decide +kernel
theorem dX8_goes_153 : decode cX8_goes 153 = .ok (.aload_n 0, 1) := by decide +kernel
theorem dX8_goes_154 : decode cX8_goes 154 = .ok (.getfield 42, 3) := by decide +kernel
theorem dX8_goes_157 : decode cX8_goes 157 = .ok (.iload 4, 2) := by decide +kernel
theorem dX8_goes_159 : decode cX8_goes 159 = .ok (.iload_n 2, 1) := by decide +kernel
theorem dX8_goes_160 : decode cX8_goes 160 = .ok (.iastore, 1) := by decide +kernel
theorem dX8_goes_161 : decode cX8_goes 161 = .ok (.aload_n 0, 1) := by decide +kernel
theorem dX8_goes_162 : decode cX8_goes 162 = .ok (.iload 4, 2) := by decide +kernel
theorem dX8_goes_164 : decode cX8_goes 164 = .ok (.iload_n 2, 1) := by decide +kernel
theorem dX8_goes_165 : decode cX8_goes 165 = .ok (.invokevirtual 83, 3) := by decide +kernel
theorem dX8_goes_168 : decode cX8_goes 168 = .ok (.istore_n 2, 1) := by decide +kernel
theorem dX8_goes_169 : decode cX8_goes 169 = .ok (.iload_n 2, 1) := by decide +kernel
theorem dX8_goes_170 : decode cX8_goes 170 = .ok (.iconst (-1), 1) := by decide +kernel
theorem dX8_goes_171 : decode cX8_goes 171 = .ok (.if_icmp .eq 7, 3) := by decide +kernel
theorem dX8_goes_174 : decode cX8_goes 174 = .ok (.iconst 1, 1) := by decide +kernel
theorem dX8_goes_175 : decode cX8_goes 175 = .ok (.goto 4, 3) := by decide +kernel
theorem dX8_goes_178 : decode cX8_goes 178 = .ok (.iconst 0, 1) := by decide +kernel
theorem dX8_goes_179 : decode cX8_goes 179 = .ok (.istore_n 3, 1) := by decide +kernel
theorem dX8_goes_180 : decode cX8_goes 180 = .ok (.goto (-94), 3) := by decide +kernel
theorem dX8_goes_183 : decode cX8_goes 183 = .ok (.aload_n 0, 1) := by decide +kernel
theorem dX8_goes_184 : decode cX8_goes 184 = .ok (.getfield 35, 3) := by decide +kernel
theorem dX8_goes_187 : decode cX8_goes 187 = .ok (.iload_n 1, 1) := by decide +kernel
theorem dX8_goes_188 : decode cX8_goes 188 = .ok (.aload_n 0, 1) := by decide +kernel
theorem dX8_goes_189 : decode cX8_goes 189 = .ok (.getfield 26, 3) := by decide +kernel
theorem dX8_goes_192 : decode cX8_goes 192 = .ok (.iconst 0, 1) := by decide +kernel
theorem dX8_goes_193 : decode cX8_goes 193 = .ok (.iaload, 1) := by decide +kernel
theorem dX8_goes_194 : decode cX8_goes 194 = .ok (.iastore, 1) := by decide +kernel
theorem dX8_goes_195 : decode cX8_goes 195 = .ok (.return_, 1) := by decide +kernel
theorem dX8_step_0 : decode cX8_step 0 = .ok (.aload_n 0, 1) := by decide +kernel
theorem dX8_step_1 : decode cX8_step 1 = .ok (.getfield 7, 3) := by decide +kernel
theorem dX8_step_4 : decode cX8_step 4 = .ok (.iload_n 2, 1) := by decide +kernel
theorem dX8_step_5 : decode cX8_step 5 = .ok (.iaload, 1) := by decide +kernel
theorem dX8_step_6 : decode cX8_step 6 = .ok (.sipush 4096, 3) := by decide +kernel
theorem dX8_step_9 : decode cX8_step 9 = .ok (.idiv, 1) := by decide +kernel
theorem dX8_step_10 : decode cX8_step 10 = .ok (.istore_n 3, 1) := by decide +kernel
theorem dX8_step_11 : decode cX8_step 11 = .ok (.aload_n 0, 1) := by decide +kernel
theorem dX8_step_12 : decode cX8_step 12 = .ok (.getfield 7, 3) := by decide +kernel
theorem dX8_step_15 : decode cX8_step 15 = .ok (.iload_n 2, 1) := by decide +kernel
theorem dX8_step_16 : decode cX8_step 16 = .ok (.iaload, 1) := by decide +kernel
theorem dX8_step_17 : decode cX8_step 17 = .ok (.sipush 256, 3) := by decide +kernel
theorem dX8_step_20 : decode cX8_step 20 = .ok (.idiv, 1) := by decide +kernel
theorem dX8_step_21 : decode cX8_step 21 = .ok (.iconst 4, 1) := by decide +kernel
theorem dX8_step_22 : decode cX8_step 22 = .ok (.irem, 1) := by decide +kernel
theorem dX8_step_23 : decode cX8_step 23 = .ok (.istore 4, 2) := by decide +kernel
theorem dX8_step_25 : decode cX8_step 25 = .ok (.aload_n 0, 1) := by decide +kernel
theorem dX8_step_26 : decode cX8_step 26 = .ok (.getfield 7, 3) := by decide +kernel
theorem dX8_step_29 : decode cX8_step 29 = .ok (.iload_n 2, 1) := by decide +kernel
theorem dX8_step_30 : decode cX8_step 30 = .ok (.iaload, 1) := by decide +kernel
theorem dX8_step_31 : decode cX8_step 31 = .ok (.bipush 16, 2) := by decide +kernel
theorem dX8_step_33 : decode cX8_step 33 = .ok (.idiv, 1) := by decide +kernel
theorem dX8_step_34 : decode cX8_step 34 = .ok (.iconst 4, 1) := by decide +kernel
theorem dX8_step_35 : decode cX8_step 35 = .ok (.irem, 1) := by decide +kernel
theorem dX8_step_36 : decode cX8_step 36 = .ok (.istore 5, 2) := by decide +kernel
theorem dX8_step_38 : decode cX8_step 38 = .ok (.aload_n 0, 1) := by decide +kernel
theorem dX8_step_39 : decode cX8_step 39 = .ok (.getfield 7, 3) := by decide +kernel
theorem dX8_step_42 : decode cX8_step 42 = .ok (.iload_n 2, 1) := by decide +kernel
theorem dX8_step_43 : decode cX8_step 43 = .ok (.iaload, 1) := by decide +kernel
theorem dX8_step_44 : decode cX8_step 44 = .ok (.bipush 16, 2) := by decide +kernel
theorem dX8_step_46 : decode cX8_step 46 = .ok (.irem, 1) := by decide +kernel
theorem dX8_step_47 : decode cX8_step 47 = .ok (.istore 6, 2) := by decide +kernel
theorem dX8_step_49 : decode cX8_step 49 = .ok (.aload_n 0, 1) := by decide +kernel
theorem dX8_step_50 : decode cX8_step 50 = .ok (.getfield 26, 3) := by decide +kernel
theorem dX8_step_53 : decode cX8_step 53 = .ok (.iload 5, 2) := by decide +kernel
theorem dX8_step_55 : decode cX8_step 55 = .ok (.iaload, 1) := by decide +kernel
theorem dX8_step_56 : decode cX8_step 56 = .ok (.istore 7, 2) := by decide +kernel
theorem dX8_step_58 : decode cX8_step 58 = .ok (.aload_n 0, 1) := by decide +kernel
theorem dX8_step_59 : decode cX8_step 59 = .ok (.getfield 48, 3) := by decide +kernel
theorem dX8_step_62 : decode cX8_step 62 = .ok (.iload_n 1, 1) := by decide +kernel
theorem dX8_step_63 : decode cX8_step 63 = .ok (.iload_n 3, 1) := by decide +kernel
theorem dX8_step_64 : decode cX8_step 64 = .ok (.iconst 4, 1) := by decide +kernel
theorem dX8_step_65 : decode cX8_step 65 = .ok (.if_icmp .ne 14, 3) := by decide +kernel
theorem dX8_step_68 : decode cX8_step 68 = .ok (.iconst 1, 1) := by decide +kernel
theorem dX8_step_69 : decode cX8_step 69 = .ok (.aload_n 0, 1) := by decide +kernel
theorem dX8_step_70 : decode cX8_step 70 = .ok (.iload 7, 2) := by decide +kernel
theorem dX8_step_72 : decode cX8_step 72 = .ok (.invokevirtual 87, 3) := by decide +kernel
theorem dX8_step_75 : decode cX8_step 75 = .ok (.iadd, 1) := by decide +kernel
theorem dX8_step_76 : decode cX8_step 76 = .ok (.goto 4, 3) := by decide +kernel
theorem dX8_step_79 : decode cX8_step 79 = .ok (.iconst 1, 1) := by decide +kernel
theorem dX8_step_80 : decode cX8_step 80 = .ok (.iastore, 1) := by decide +kernel
theorem dX8_step_81 : decode cX8_step 81 = .ok (.aload_n 0, 1) := by decide +kernel
theorem dX8_step_82 : decode cX8_step 82 = .ok (.getfield 45, 3) := by decide +kernel
theorem dX8_step_85 : decode cX8_step 85 = .ok (.iload_n 1, 1) := by decide +kernel
theorem dX8_step_86 : decode cX8_step 86 = .ok (.iconst 0, 1) := by decide +kernel
theorem dX8_step_87 : decode cX8_step 87 = .ok (.iastore, 1) := by decide +kernel
theorem dX8_step_88 : decode cX8_step 88 = .ok (.iload_n 3, 1) := by decide +kernel
theorem dX8_step_89 : decode cX8_step 89 = .ok (.ifCond .ne 5, 3) := by decide +kernel
theorem dX8_step_92 : decode cX8_step 92 = .ok (.iconst (-1), 1) := by decide +kernel
theorem dX8_step_93 : decode cX8_step 93 = .ok (.ireturn, 1) := by decide +kernel
theorem dX8_step_94 : decode cX8_step 94 = .ok (.iload_n 3, 1) := by decide +kernel
theorem dX8_step_95 : decode cX8_step 95 = .ok (.iconst 1, 1) := by decide +kernel
theorem dX8_step_96 : decode cX8_step 96 = .ok (.if_icmp .ne 12, 3) := by decide +kernel
theorem dX8_step_99 : decode cX8_step 99 = .ok (.aload_n 0, 1) := by decide +kernel
theorem dX8_step_100 : decode cX8_step 100 = .ok (.getfield 26, 3) := by decide +kernel
theorem dX8_step_103 : decode cX8_step 103 = .ok (.iload 4, 2) := by decide +kernel
theorem dX8_step_105 : decode cX8_step 105 = .ok (.iload 6, 2) := by decide +kernel
theorem dX8_step_107 : decode cX8_step 107 = .ok (.iastore, 1) := by decide +kernel
theorem dX8_step_108 : decode cX8_step 108 = .ok (.iload_n 3, 1) := by decide +kernel
theorem dX8_step_109 : decode cX8_step 109 = .ok (.iconst 2, 1) := by decide +kernel
theorem dX8_step_110 : decode cX8_step 110 = .ok (.if_icmp .ne 20, 3) := by decide +kernel
theorem dX8_step_113 : decode cX8_step 113 = .ok (.aload_n 0, 1) := by decide +kernel
theorem dX8_step_114 : decode cX8_step 114 = .ok (.getfield 26, 3) := by decide +kernel
theorem dX8_step_117 : decode cX8_step 117 = .ok (.iload 4, 2) := by decide +kernel
theorem dX8_step_119 : decode cX8_step 119 = .ok (.aload_n 0, 1) := by decide +kernel
theorem dX8_step_120 : decode cX8_step 120 = .ok (.getfield 26, 3) := by decide +kernel
theorem dX8_step_123 : decode cX8_step 123 = .ok (.iload 4, 2) := by decide +kernel
theorem dX8_step_125 : decode cX8_step 125 = .ok (.iaload, 1) := by decide +kernel
theorem dX8_step_126 : decode cX8_step 126 = .ok (.iload 7, 2) := by decide +kernel
theorem dX8_step_128 : decode cX8_step 128 = .ok (.iadd, 1) := by decide +kernel
theorem dX8_step_129 : decode cX8_step 129 = .ok (.iastore, 1) := by decide +kernel
theorem dX8_step_130 : decode cX8_step 130 = .ok (.iload_n 3, 1) := by decide +kernel
theorem dX8_step_131 : decode cX8_step 131 = .ok (.iconst 3, 1) := by decide +kernel
theorem dX8_step_132 : decode cX8_step 132 = .ok (.if_icmp .ne 20, 3) := by decide +kernel
theorem dX8_step_135 : decode cX8_step 135 = .ok (.aload_n 0, 1) := by decide +kernel
theorem dX8_step_136 : decode cX8_step 136 = .ok (.getfield 26, 3) := by decide +kernel
theorem dX8_step_139 : decode cX8_step 139 = .ok (.iload 4, 2) := by decide +kernel
theorem dX8_step_141 : decode cX8_step 141 = .ok (.aload_n 0, 1) := by decide +kernel
theorem dX8_step_142 : decode cX8_step 142 = .ok (.getfield 26, 3) := by decide +kernel
theorem dX8_step_145 : decode cX8_step 145 = .ok (.iload 4, 2) := by decide +kernel
theorem dX8_step_147 : decode cX8_step 147 = .ok (.iaload, 1) := by decide +kernel
theorem dX8_step_148 : decode cX8_step 148 = .ok (.iload 7, 2) := by decide +kernel
theorem dX8_step_150 : decode cX8_step 150 = .ok (.ixor, 1) := by decide +kernel
theorem dX8_step_151 : decode cX8_step 151 = .ok (.iastore, 1) := by decide +kernel
theorem dX8_step_152 : decode cX8_step 152 = .ok (.iload_n 3, 1) := by decide +kernel
theorem dX8_step_153 : decode cX8_step 153 = .ok (.iconst 4, 1) := by decide +kernel
theorem dX8_step_154 : decode cX8_step 154 = .ok (.if_icmp .ne 20, 3) := by decide +kernel
theorem dX8_step_157 : decode cX8_step 157 = .ok (.aload_n 0, 1) := by decide +kernel
theorem dX8_step_158 : decode cX8_step 158 = .ok (.getfield 26, 3) := by decide +kernel
theorem dX8_step_161 : decode cX8_step 161 = .ok (.iload 4, 2) := by decide +kernel
theorem dX8_step_163 : decode cX8_step 163 = .ok (.aload_n 0, 1) := by decide +kernel
theorem dX8_step_164 : decode cX8_step 164 = .ok (.getfield 26, 3) := by decide +kernel
theorem dX8_step_167 : decode cX8_step 167 = .ok (.iload 4, 2) := by decide +kernel
theorem dX8_step_169 : decode cX8_step 169 = .ok (.iaload, 1) := by decide +kernel
theorem dX8_step_170 : decode cX8_step 170 = .ok (.iload 7, 2) := by decide +kernel
theorem dX8_step_172 : decode cX8_step 172 = .ok (.imul, 1) := by decide +kernel
theorem dX8_step_173 : decode cX8_step 173 = .ok (.iastore, 1) := by decide +kernel
theorem dX8_step_174 : decode cX8_step 174 = .ok (.iload_n 3, 1) := by decide +kernel
theorem dX8_step_175 : decode cX8_step 175 = .ok (.iconst 5, 1) := by decide +kernel
theorem dX8_step_176 : decode cX8_step 176 = .ok (.if_icmp .ne 20, 3) := by decide +kernel
theorem dX8_step_179 : decode cX8_step 179 = .ok (.aload_n 0, 1) := by decide +kernel
theorem dX8_step_180 : decode cX8_step 180 = .ok (.getfield 26, 3) := by decide +kernel
theorem dX8_step_183 : decode cX8_step 183 = .ok (.iload 4, 2) := by decide +kernel
theorem dX8_step_185 : decode cX8_step 185 = .ok (.aload_n 0, 1) := by decide +kernel
theorem dX8_step_186 : decode cX8_step 186 = .ok (.getfield 29, 3) := by decide +kernel
theorem dX8_step_189 : decode cX8_step 189 = .ok (.iload 7, 2) := by decide +kernel
theorem dX8_step_191 : decode cX8_step 191 = .ok (.bipush 7, 2) := by decide +kernel
theorem dX8_step_193 : decode cX8_step 193 = .ok (.iand, 1) := by decide +kernel
theorem dX8_step_194 : decode cX8_step 194 = .ok (.iaload, 1) := by decide +kernel
theorem dX8_step_195 : decode cX8_step 195 = .ok (.iastore, 1) := by decide +kernel
theorem dX8_step_196 : decode cX8_step 196 = .ok (.iload_n 3, 1) := by decide +kernel
theorem dX8_step_197 : decode cX8_step 197 = .ok (.bipush 6, 2) := by decide +kernel
theorem dX8_step_199 : decode cX8_step 199 = .ok (.if_icmp .ne 20, 3) := by decide +kernel
theorem dX8_step_202 : decode cX8_step 202 = .ok (.aload_n 0, 1) := by decide +kernel
theorem dX8_step_203 : decode cX8_step 203 = .ok (.getfield 29, 3) := by decide +kernel
theorem dX8_step_206 : decode cX8_step 206 = .ok (.iload 7, 2) := by decide +kernel
theorem dX8_step_208 : decode cX8_step 208 = .ok (.bipush 7, 2) := by decide +kernel
theorem dX8_step_210 : decode cX8_step 210 = .ok (.iand, 1) := by decide +kernel
theorem dX8_step_211 : decode cX8_step 211 = .ok (.aload_n 0, 1) := by decide +kernel
theorem dX8_step_212 : decode cX8_step 212 = .ok (.getfield 26, 3) := by decide +kernel
theorem dX8_step_215 : decode cX8_step 215 = .ok (.iload 4, 2) := by decide +kernel
theorem dX8_step_217 : decode cX8_step 217 = .ok (.iaload, 1) := by decide +kernel
theorem dX8_step_218 : decode cX8_step 218 = .ok (.iastore, 1) := by decide +kernel
theorem dX8_step_219 : decode cX8_step 219 = .ok (.iload_n 3, 1) := by decide +kernel
theorem dX8_step_220 : decode cX8_step 220 = .ok (.iconst 5, 1) := by decide +kernel
theorem dX8_step_221 : decode cX8_step 221 = .ok (.if_icmp .eq 9, 3) := by decide +kernel
theorem dX8_step_224 : decode cX8_step 224 = .ok (.iload_n 3, 1) := by decide +kernel
theorem dX8_step_225 : decode cX8_step 225 = .ok (.bipush 6, 2) := by decide +kernel
theorem dX8_step_227 : decode cX8_step 227 = .ok (.if_icmp .ne 14, 3) := by decide +kernel
theorem dX8_step_230 : decode cX8_step 230 = .ok (.aload_n 0, 1) := by decide +kernel
theorem dX8_step_231 : decode cX8_step 231 = .ok (.getfield 45, 3) := by decide +kernel
theorem dX8_step_234 : decode cX8_step 234 = .ok (.iload_n 1, 1) := by decide +kernel
theorem dX8_step_235 : decode cX8_step 235 = .ok (.iload 7, 2) := by decide +kernel
theorem dX8_step_237 : decode cX8_step 237 = .ok (.bipush 7, 2) := by decide +kernel
theorem dX8_step_239 : decode cX8_step 239 = .ok (.iand, 1) := by decide +kernel
theorem dX8_step_240 : decode cX8_step 240 = .ok (.iastore, 1) := by decide +kernel
theorem dX8_step_241 : decode cX8_step 241 = .ok (.iload_n 3, 1) := by decide +kernel
theorem dX8_step_242 : decode cX8_step 242 = .ok (.bipush 7, 2) := by decide +kernel
theorem dX8_step_244 : decode cX8_step 244 = .ok (.if_icmp .ne 20, 3) := by decide +kernel
theorem dX8_step_247 : decode cX8_step 247 = .ok (.aload_n 0, 1) := by decide +kernel
theorem dX8_step_248 : decode cX8_step 248 = .ok (.getfield 26, 3) := by decide +kernel
theorem dX8_step_251 : decode cX8_step 251 = .ok (.iload 4, 2) := by decide +kernel
theorem dX8_step_253 : decode cX8_step 253 = .ok (.iaload, 1) := by decide +kernel
theorem dX8_step_254 : decode cX8_step 254 = .ok (.ifCond .ne 10, 3) := by decide +kernel
theorem dX8_step_257 : decode cX8_step 257 = .ok (.aload_n 0, 1) := by decide +kernel
theorem dX8_step_258 : decode cX8_step 258 = .ok (.getfield 45, 3) := by decide +kernel
theorem dX8_step_261 : decode cX8_step 261 = .ok (.iload_n 1, 1) := by decide +kernel
theorem dX8_step_262 : decode cX8_step 262 = .ok (.iconst 1, 1) := by decide +kernel
theorem dX8_step_263 : decode cX8_step 263 = .ok (.iastore, 1) := by decide +kernel
theorem dX8_step_264 : decode cX8_step 264 = .ok (.iload_n 3, 1) := by decide +kernel
theorem dX8_step_265 : decode cX8_step 265 = .ok (.bipush 9, 2) := by decide +kernel
theorem dX8_step_267 : decode cX8_step 267 = .ok (.if_icmp .ne 25, 3) := by decide +kernel
theorem dX8_step_270 : decode cX8_step 270 = .ok (.iload 7, 2) := by decide +kernel
theorem dX8_step_272 : decode cX8_step 272 = .ok (.ifCond .eq 20, 3) := by decide +kernel
theorem dX8_step_275 : decode cX8_step 275 = .ok (.aload_n 0, 1) := by decide +kernel
theorem dX8_step_276 : decode cX8_step 276 = .ok (.getfield 26, 3) := by decide +kernel
theorem dX8_step_279 : decode cX8_step 279 = .ok (.iload 4, 2) := by decide +kernel
theorem dX8_step_281 : decode cX8_step 281 = .ok (.aload_n 0, 1) := by decide +kernel
theorem dX8_step_282 : decode cX8_step 282 = .ok (.getfield 26, 3) := by decide +kernel
theorem dX8_step_285 : decode cX8_step 285 = .ok (.iload 4, 2) := by decide +kernel
theorem dX8_step_287 : decode cX8_step 287 = .ok (.iaload, 1) := by decide +kernel
theorem dX8_step_288 : decode cX8_step 288 = .ok (.iload 6, 2) := by decide +kernel
theorem dX8_step_290 : decode cX8_step 290 = .ok (.iadd, 1) := by decide +kernel
theorem dX8_step_291 : decode cX8_step 291 = .ok (.iastore, 1) := by decide +kernel
theorem dX8_step_292 : decode cX8_step 292 = .ok (.iload_n 3, 1) := by decide +kernel
theorem dX8_step_293 : decode cX8_step 293 = .ok (.bipush 8, 2) := by decide +kernel
theorem dX8_step_295 : decode cX8_step 295 = .ok (.if_icmp .eq 19, 3) := by decide +kernel
theorem dX8_step_298 : decode cX8_step 298 = .ok (.iload_n 3, 1) := by decide +kernel
theorem dX8_step_299 : decode cX8_step 299 = .ok (.bipush 7, 2) := by decide +kernel
theorem dX8_step_301 : decode cX8_step 301 = .ok (.if_icmp .ne 18, 3) := by decide +kernel
theorem dX8_step_304 : decode cX8_step 304 = .ok (.aload_n 0, 1) := by decide +kernel
theorem dX8_step_305 : decode cX8_step 305 = .ok (.getfield 45, 3) := by decide +kernel
theorem dX8_step_308 : decode cX8_step 308 = .ok (.iload_n 1, 1) := by decide +kernel
theorem dX8_step_309 : decode cX8_step 309 = .ok (.iaload, 1) := by decide +kernel
theorem dX8_step_310 : decode cX8_step 310 = .ok (.iconst 1, 1) := by decide +kernel
end
section
theorem dX8_step_311 : decode cX8_step 311 = .ok (.if_icmp .ne 8, 3) := by decide +kernel
theorem dX8_step_314 : decode cX8_step 314 = .ok (.iload 6, 2) := by decide +kernel
theorem dX8_step_316 : decode cX8_step 316 = .ok (.goto 6, 3) := by decide +kernel
theorem dX8_step_319 : decode cX8_step 319 = .ok (.iload_n 2, 1) := by decide +kernel
theorem dX8_step_320 : decode cX8_step 320 = .ok (.iconst 1, 1) := by decide +kernel
theorem dX8_step_321 : decode cX8_step 321 = .ok (.iadd, 1) := by decide +kernel
theorem dX8_step_322 : decode cX8_step 322 = .ok (.ireturn, 1) := by decide +kernel
theorem dX8_goAll_0 : decode cX8_goAll 0 = .ok (.iconst 0, 1) := by decide +kernel
theorem dX8_goAll_1 : decode cX8_goAll 1 = .ok (.istore_n 1, 1) := by decide +kernel
theorem dX8_goAll_2 : decode cX8_goAll 2 = .ok (.iload_n 1, 1) := by decide +kernel
theorem dX8_goAll_3 : decode cX8_goAll 3 = .ok (.sipush 256, 3) := by decide +kernel
theorem dX8_goAll_6 : decode cX8_goAll 6 = .ok (.if_icmp .ge 14, 3) := by decide +kernel
theorem dX8_goAll_9 : decode cX8_goAll 9 = .ok (.aload_n 0, 1) := by decide +kernel
theorem dX8_goAll_10 : decode cX8_goAll 10 = .ok (.iload_n 1, 1) := by decide +kernel
theorem dX8_goAll_11 : decode cX8_goAll 11 = .ok (.invokevirtual 91, 3) := by decide +kernel
theorem dX8_goAll_14 : decode cX8_goAll 14 = .ok (.iinc 1 1, 3) := by decide +kernel
theorem dX8_goAll_17 : decode cX8_goAll 17 = .ok (.goto (-15), 3) := by decide +kernel
theorem dX8_goAll_20 : decode cX8_goAll 20 = .ok (.return_, 1) := by decide +kernel
theorem dX8_isInput_0 : decode cX8_isInput 0 = .ok (.iload_n 1, 1) := by decide +kernel
theorem dX8_isInput_1 : decode cX8_isInput 1 = .ok (.ifCond .lt 13, 3) := by decide +kernel
theorem dX8_isInput_4 : decode cX8_isInput 4 = .ok (.iload_n 1, 1) := by decide +kernel
theorem dX8_isInput_5 : decode cX8_isInput 5 = .ok (.bipush 16, 2) := by decide +kernel
theorem dX8_isInput_7 : decode cX8_isInput 7 = .ok (.if_icmp .ge 7, 3) := by decide +kernel
theorem dX8_isInput_10 : decode cX8_isInput 10 = .ok (.iconst 1, 1) := by decide +kernel
theorem dX8_isInput_11 : decode cX8_isInput 11 = .ok (.goto 4, 3) := by decide +kernel
theorem dX8_isInput_14 : decode cX8_isInput 14 = .ok (.iconst 0, 1) := by decide +kernel
theorem dX8_isInput_15 : decode cX8_isInput 15 = .ok (.ireturn, 1) := by decide +kernel
theorem dX8_sees_0 : decode cX8_sees 0 = .ok (.bipush 42, 2) := by decide +kernel
theorem dX8_sees_2 : decode cX8_sees 2 = .ok (.iload_n 1, 1) := by decide +kernel
theorem dX8_sees_3 : decode cX8_sees 3 = .ok (.imul, 1) := by decide +kernel
theorem dX8_sees_4 : decode cX8_sees 4 = .ok (.aload_n 0, 1) := by decide +kernel
theorem dX8_sees_5 : decode cX8_sees 5 = .ok (.getfield 51, 3) := by decide +kernel
theorem dX8_sees_8 : decode cX8_sees 8 = .ok (.iload_n 1, 1) := by decide +kernel
theorem dX8_sees_9 : decode cX8_sees 9 = .ok (.iaload, 1) := by decide +kernel
theorem dX8_sees_10 : decode cX8_sees 10 = .ok (.iadd, 1) := by decide +kernel
theorem dX8_sees_11 : decode cX8_sees 11 = .ok (.istore 5, 2) := by decide +kernel
theorem dX8_sees_13 : decode cX8_sees 13 = .ok (.aload_n 0, 1) := by decide +kernel
theorem dX8_sees_14 : decode cX8_sees 14 = .ok (.getfield 54, 3) := by decide +kernel
theorem dX8_sees_17 : decode cX8_sees 17 = .ok (.iload 5, 2) := by decide +kernel
theorem dX8_sees_19 : decode cX8_sees 19 = .ok (.iload_n 2, 1) := by decide +kernel
theorem dX8_sees_20 : decode cX8_sees 20 = .ok (.iastore, 1) := by decide +kernel
theorem dX8_sees_21 : decode cX8_sees 21 = .ok (.aload_n 0, 1) := by decide +kernel
theorem dX8_sees_22 : decode cX8_sees 22 = .ok (.getfield 57, 3) := by decide +kernel
theorem dX8_sees_25 : decode cX8_sees 25 = .ok (.iload 5, 2) := by decide +kernel
theorem dX8_sees_27 : decode cX8_sees 27 = .ok (.iload_n 3, 1) := by decide +kernel
theorem dX8_sees_28 : decode cX8_sees 28 = .ok (.iastore, 1) := by decide +kernel
theorem dX8_sees_29 : decode cX8_sees 29 = .ok (.aload_n 0, 1) := by decide +kernel
theorem dX8_sees_30 : decode cX8_sees 30 = .ok (.getfield 60, 3) := by decide +kernel
theorem dX8_sees_33 : decode cX8_sees 33 = .ok (.iload 5, 2) := by decide +kernel
theorem dX8_sees_35 : decode cX8_sees 35 = .ok (.iload 4, 2) := by decide +kernel
theorem dX8_sees_37 : decode cX8_sees 37 = .ok (.iastore, 1) := by decide +kernel
theorem dX8_sees_38 : decode cX8_sees 38 = .ok (.aload_n 0, 1) := by decide +kernel
theorem dX8_sees_39 : decode cX8_sees 39 = .ok (.getfield 51, 3) := by decide +kernel
theorem dX8_sees_42 : decode cX8_sees 42 = .ok (.iload_n 1, 1) := by decide +kernel
theorem dX8_sees_43 : decode cX8_sees 43 = .ok (.aload_n 0, 1) := by decide +kernel
theorem dX8_sees_44 : decode cX8_sees 44 = .ok (.getfield 51, 3) := by decide +kernel
theorem dX8_sees_47 : decode cX8_sees 47 = .ok (.iload_n 1, 1) := by decide +kernel
theorem dX8_sees_48 : decode cX8_sees 48 = .ok (.iaload, 1) := by decide +kernel
theorem dX8_sees_49 : decode cX8_sees 49 = .ok (.iconst 1, 1) := by decide +kernel
theorem dX8_sees_50 : decode cX8_sees 50 = .ok (.iadd, 1) := by decide +kernel
theorem dX8_sees_51 : decode cX8_sees 51 = .ok (.iastore, 1) := by decide +kernel
theorem dX8_sees_52 : decode cX8_sees 52 = .ok (.return_, 1) := by decide +kernel
theorem dX8_kindAt_0 : decode cX8_kindAt 0 = .ok (.aload_n 0, 1) := by decide +kernel
theorem dX8_kindAt_1 : decode cX8_kindAt 1 = .ok (.getfield 7, 3) := by decide +kernel
theorem dX8_kindAt_4 : decode cX8_kindAt 4 = .ok (.aload_n 0, 1) := by decide +kernel
theorem dX8_kindAt_5 : decode cX8_kindAt 5 = .ok (.getfield 42, 3) := by decide +kernel
theorem dX8_kindAt_8 : decode cX8_kindAt 8 = .ok (.iload_n 1, 1) := by decide +kernel
theorem dX8_kindAt_9 : decode cX8_kindAt 9 = .ok (.iaload, 1) := by decide +kernel
theorem dX8_kindAt_10 : decode cX8_kindAt 10 = .ok (.iaload, 1) := by decide +kernel
theorem dX8_kindAt_11 : decode cX8_kindAt 11 = .ok (.sipush 4096, 3) := by decide +kernel
theorem dX8_kindAt_14 : decode cX8_kindAt 14 = .ok (.idiv, 1) := by decide +kernel
theorem dX8_kindAt_15 : decode cX8_kindAt 15 = .ok (.ireturn, 1) := by decide +kernel
theorem dX8_cost_0 : decode cX8_cost 0 = .ok (.iconst 0, 1) := by decide +kernel
theorem dX8_cost_1 : decode cX8_cost 1 = .ok (.istore_n 3, 1) := by decide +kernel
theorem dX8_cost_2 : decode cX8_cost 2 = .ok (.bipush 40, 2) := by decide +kernel
theorem dX8_cost_4 : decode cX8_cost 4 = .ok (.iload_n 1, 1) := by decide +kernel
theorem dX8_cost_5 : decode cX8_cost 5 = .ok (.imul, 1) := by decide +kernel
theorem dX8_cost_6 : decode cX8_cost 6 = .ok (.istore 4, 2) := by decide +kernel
theorem dX8_cost_8 : decode cX8_cost 8 = .ok (.iload 4, 2) := by decide +kernel
theorem dX8_cost_10 : decode cX8_cost 10 = .ok (.bipush 40, 2) := by decide +kernel
theorem dX8_cost_12 : decode cX8_cost 12 = .ok (.iload_n 1, 1) := by decide +kernel
theorem dX8_cost_13 : decode cX8_cost 13 = .ok (.imul, 1) := by decide +kernel
theorem dX8_cost_14 : decode cX8_cost 14 = .ok (.aload_n 0, 1) := by decide +kernel
theorem dX8_cost_15 : decode cX8_cost 15 = .ok (.getfield 32, 3) := by decide +kernel
theorem dX8_cost_18 : decode cX8_cost 18 = .ok (.iload_n 1, 1) := by decide +kernel
theorem dX8_cost_19 : decode cX8_cost 19 = .ok (.iaload, 1) := by decide +kernel
theorem dX8_cost_20 : decode cX8_cost 20 = .ok (.iadd, 1) := by decide +kernel
theorem dX8_cost_21 : decode cX8_cost 21 = .ok (.if_icmp .ge 61, 3) := by decide +kernel
theorem dX8_cost_24 : decode cX8_cost 24 = .ok (.iload_n 2, 1) := by decide +kernel
theorem dX8_cost_25 : decode cX8_cost 25 = .ok (.aload_n 0, 1) := by decide +kernel
theorem dX8_cost_26 : decode cX8_cost 26 = .ok (.getfield 42, 3) := by decide +kernel
theorem dX8_cost_29 : decode cX8_cost 29 = .ok (.iload 4, 2) := by decide +kernel
theorem dX8_cost_31 : decode cX8_cost 31 = .ok (.iaload, 1) := by decide +kernel
theorem dX8_cost_32 : decode cX8_cost 32 = .ok (.ishr, 1) := by decide +kernel
theorem dX8_cost_33 : decode cX8_cost 33 = .ok (.iconst 1, 1) := by decide +kernel
theorem dX8_cost_34 : decode cX8_cost 34 = .ok (.iand, 1) := by decide +kernel
theorem dX8_cost_35 : decode cX8_cost 35 = .ok (.iconst 1, 1) := by decide +kernel
theorem dX8_cost_36 : decode cX8_cost 36 = .ok (.if_icmp .ne 7, 3) := by decide +kernel
theorem dX8_cost_39 : decode cX8_cost 39 = .ok (.iconst 1, 1) := by decide +kernel
theorem dX8_cost_40 : decode cX8_cost 40 = .ok (.goto 4, 3) := by decide +kernel
theorem dX8_cost_43 : decode cX8_cost 43 = .ok (.iconst 0, 1) := by decide +kernel
theorem dX8_cost_44 : decode cX8_cost 44 = .ok (.istore 5, 2) := by decide +kernel
theorem dX8_cost_46 : decode cX8_cost 46 = .ok (.iload_n 3, 1) := by decide +kernel
theorem dX8_cost_47 : decode cX8_cost 47 = .ok (.iload 5, 2) := by decide +kernel
theorem dX8_cost_49 : decode cX8_cost 49 = .ok (.ifCond .eq 18, 3) := by decide +kernel
theorem dX8_cost_52 : decode cX8_cost 52 = .ok (.aload_n 0, 1) := by decide +kernel
theorem dX8_cost_53 : decode cX8_cost 53 = .ok (.iload 4, 2) := by decide +kernel
theorem dX8_cost_55 : decode cX8_cost 55 = .ok (.invokevirtual 95, 3) := by decide +kernel
theorem dX8_cost_58 : decode cX8_cost 58 = .ok (.iconst 4, 1) := by decide +kernel
theorem dX8_cost_59 : decode cX8_cost 59 = .ok (.if_icmp .ne 8, 3) := by decide +kernel
theorem dX8_cost_62 : decode cX8_cost 62 = .ok (.bipush 33, 2) := by decide +kernel
theorem dX8_cost_64 : decode cX8_cost 64 = .ok (.goto 10, 3) := by decide +kernel
theorem dX8_cost_67 : decode cX8_cost 67 = .ok (.aload_n 0, 1) := by decide +kernel
theorem dX8_cost_68 : decode cX8_cost 68 = .ok (.getfield 48, 3) := by decide +kernel
theorem dX8_cost_71 : decode cX8_cost 71 = .ok (.iload 4, 2) := by decide +kernel
theorem dX8_cost_73 : decode cX8_cost 73 = .ok (.iaload, 1) := by decide +kernel
theorem dX8_cost_74 : decode cX8_cost 74 = .ok (.iadd, 1) := by decide +kernel
theorem dX8_cost_75 : decode cX8_cost 75 = .ok (.istore_n 3, 1) := by decide +kernel
theorem dX8_cost_76 : decode cX8_cost 76 = .ok (.iinc 4 1, 3) := by decide +kernel
theorem dX8_cost_79 : decode cX8_cost 79 = .ok (.goto (-71), 3) := by decide +kernel
theorem dX8_cost_82 : decode cX8_cost 82 = .ok (.iload_n 3, 1) := by decide +kernel
theorem dX8_cost_83 : decode cX8_cost 83 = .ok (.ireturn, 1) := by decide +kernel
theorem dX8_look__0 : decode cX8_look_ 0 = .ok (.aload_n 0, 1) := by decide +kernel
theorem dX8_look__1 : decode cX8_look_ 1 = .ok (.getfield 51, 3) := by decide +kernel
theorem dX8_look__4 : decode cX8_look_ 4 = .ok (.iload_n 1, 1) := by decide +kernel
theorem dX8_look__5 : decode cX8_look_ 5 = .ok (.iconst 0, 1) := by decide +kernel
theorem dX8_look__6 : decode cX8_look_ 6 = .ok (.iastore, 1) := by decide +kernel
theorem dX8_look__7 : decode cX8_look_ 7 = .ok (.bipush 40, 2) := by decide +kernel
theorem dX8_look__9 : decode cX8_look_ 9 = .ok (.iload_n 2, 1) := by decide +kernel
theorem dX8_look__10 : decode cX8_look_ 10 = .ok (.imul, 1) := by decide +kernel
theorem dX8_look__11 : decode cX8_look_ 11 = .ok (.istore 5, 2) := by decide +kernel
theorem dX8_look__13 : decode cX8_look_ 13 = .ok (.iload 5, 2) := by decide +kernel
theorem dX8_look__15 : decode cX8_look_ 15 = .ok (.bipush 40, 2) := by decide +kernel
theorem dX8_look__17 : decode cX8_look_ 17 = .ok (.iload_n 2, 1) := by decide +kernel
theorem dX8_look__18 : decode cX8_look_ 18 = .ok (.imul, 1) := by decide +kernel
theorem dX8_look__19 : decode cX8_look_ 19 = .ok (.aload_n 0, 1) := by decide +kernel
theorem dX8_look__20 : decode cX8_look_ 20 = .ok (.getfield 32, 3) := by decide +kernel
theorem dX8_look__23 : decode cX8_look_ 23 = .ok (.iload_n 2, 1) := by decide +kernel
theorem dX8_look__24 : decode cX8_look_ 24 = .ok (.iaload, 1) := by decide +kernel
theorem dX8_look__25 : decode cX8_look_ 25 = .ok (.iadd, 1) := by decide +kernel
theorem dX8_look__26 : decode cX8_look_ 26 = .ok (.if_icmp .ge 114, 3) := by decide +kernel
theorem dX8_look__29 : decode cX8_look_ 29 = .ok (.iload_n 3, 1) := by decide +kernel
theorem dX8_look__30 : decode cX8_look_ 30 = .ok (.aload_n 0, 1) := by decide +kernel
theorem dX8_look__31 : decode cX8_look_ 31 = .ok (.getfield 42, 3) := by decide +kernel
theorem dX8_look__34 : decode cX8_look_ 34 = .ok (.iload 5, 2) := by decide +kernel
theorem dX8_look__36 : decode cX8_look_ 36 = .ok (.iaload, 1) := by decide +kernel
theorem dX8_look__37 : decode cX8_look_ 37 = .ok (.ishr, 1) := by decide +kernel
theorem dX8_look__38 : decode cX8_look_ 38 = .ok (.iconst 1, 1) := by decide +kernel
theorem dX8_look__39 : decode cX8_look_ 39 = .ok (.iand, 1) := by decide +kernel
theorem dX8_look__40 : decode cX8_look_ 40 = .ok (.iconst 1, 1) := by decide +kernel
theorem dX8_look__41 : decode cX8_look_ 41 = .ok (.if_icmp .ne 6, 3) := by decide +kernel
theorem dX8_look__44 : decode cX8_look_ 44 = .ok (.goto 90, 3) := by decide +kernel
theorem dX8_look__47 : decode cX8_look_ 47 = .ok (.aload_n 0, 1) := by decide +kernel
theorem dX8_look__48 : decode cX8_look_ 48 = .ok (.iload 5, 2) := by decide +kernel
theorem dX8_look__50 : decode cX8_look_ 50 = .ok (.invokevirtual 95, 3) := by decide +kernel
theorem dX8_look__53 : decode cX8_look_ 53 = .ok (.istore 6, 2) := by decide +kernel
theorem dX8_look__55 : decode cX8_look_ 55 = .ok (.iload 6, 2) := by decide +kernel
theorem dX8_look__57 : decode cX8_look_ 57 = .ok (.iconst 5, 1) := by decide +kernel
theorem dX8_look__58 : decode cX8_look_ 58 = .ok (.if_icmp .eq 10, 3) := by decide +kernel
theorem dX8_look__61 : decode cX8_look_ 61 = .ok (.iload 6, 2) := by decide +kernel
theorem dX8_look__63 : decode cX8_look_ 63 = .ok (.bipush 6, 2) := by decide +kernel
theorem dX8_look__65 : decode cX8_look_ 65 = .ok (.if_icmp .ne 35, 3) := by decide +kernel
theorem dX8_look__68 : decode cX8_look_ 68 = .ok (.iload 4, 2) := by decide +kernel
theorem dX8_look__70 : decode cX8_look_ 70 = .ok (.iconst 2, 1) := by decide +kernel
theorem dX8_look__71 : decode cX8_look_ 71 = .ok (.iand, 1) := by decide +kernel
theorem dX8_look__72 : decode cX8_look_ 72 = .ok (.ifCond .eq 28, 3) := by decide +kernel
theorem dX8_look__75 : decode cX8_look_ 75 = .ok (.aload_n 0, 1) := by decide +kernel
theorem dX8_look__76 : decode cX8_look_ 76 = .ok (.iload_n 1, 1) := by decide +kernel
theorem dX8_look__77 : decode cX8_look_ 77 = .ok (.iconst 2, 1) := by decide +kernel
theorem dX8_look__78 : decode cX8_look_ 78 = .ok (.aload_n 0, 1) := by decide +kernel
theorem dX8_look__79 : decode cX8_look_ 79 = .ok (.getfield 45, 3) := by decide +kernel
theorem dX8_look__82 : decode cX8_look_ 82 = .ok (.iload 5, 2) := by decide +kernel
theorem dX8_look__84 : decode cX8_look_ 84 = .ok (.iaload, 1) := by decide +kernel
theorem dX8_look__85 : decode cX8_look_ 85 = .ok (.aload_n 0, 1) := by decide +kernel
theorem dX8_look__86 : decode cX8_look_ 86 = .ok (.getfield 23, 3) := by decide +kernel
theorem dX8_look__89 : decode cX8_look_ 89 = .ok (.idiv, 1) := by decide +kernel
theorem dX8_look__90 : decode cX8_look_ 90 = .ok (.aload_n 0, 1) := by decide +kernel
theorem dX8_look__91 : decode cX8_look_ 91 = .ok (.getfield 42, 3) := by decide +kernel
theorem dX8_look__94 : decode cX8_look_ 94 = .ok (.iload 5, 2) := by decide +kernel
theorem dX8_look__96 : decode cX8_look_ 96 = .ok (.iaload, 1) := by decide +kernel
theorem dX8_look__97 : decode cX8_look_ 97 = .ok (.invokevirtual 98, 3) := by decide +kernel
theorem dX8_look__100 : decode cX8_look_ 100 = .ok (.iload 6, 2) := by decide +kernel
theorem dX8_look__102 : decode cX8_look_ 102 = .ok (.bipush 7, 2) := by decide +kernel
theorem dX8_look__104 : decode cX8_look_ 104 = .ok (.if_icmp .ne 30, 3) := by decide +kernel
theorem dX8_look__107 : decode cX8_look_ 107 = .ok (.iload 4, 2) := by decide +kernel
theorem dX8_look__109 : decode cX8_look_ 109 = .ok (.iconst 4, 1) := by decide +kernel
theorem dX8_look__110 : decode cX8_look_ 110 = .ok (.iand, 1) := by decide +kernel
theorem dX8_look__111 : decode cX8_look_ 111 = .ok (.ifCond .eq 23, 3) := by decide +kernel
theorem dX8_look__114 : decode cX8_look_ 114 = .ok (.aload_n 0, 1) := by decide +kernel
theorem dX8_look__115 : decode cX8_look_ 115 = .ok (.iload_n 1, 1) := by decide +kernel
theorem dX8_look__116 : decode cX8_look_ 116 = .ok (.iconst 4, 1) := by decide +kernel
theorem dX8_look__117 : decode cX8_look_ 117 = .ok (.aload_n 0, 1) := by decide +kernel
theorem dX8_look__118 : decode cX8_look_ 118 = .ok (.getfield 45, 3) := by decide +kernel
theorem dX8_look__121 : decode cX8_look_ 121 = .ok (.iload 5, 2) := by decide +kernel
theorem dX8_look__123 : decode cX8_look_ 123 = .ok (.iaload, 1) := by decide +kernel
theorem dX8_look__124 : decode cX8_look_ 124 = .ok (.aload_n 0, 1) := by decide +kernel
theorem dX8_look__125 : decode cX8_look_ 125 = .ok (.getfield 42, 3) := by decide +kernel
theorem dX8_look__128 : decode cX8_look_ 128 = .ok (.iload 5, 2) := by decide +kernel
theorem dX8_look__130 : decode cX8_look_ 130 = .ok (.iaload, 1) := by decide +kernel
theorem dX8_look__131 : decode cX8_look_ 131 = .ok (.invokevirtual 98, 3) := by decide +kernel
theorem dX8_look__134 : decode cX8_look_ 134 = .ok (.iinc 5 1, 3) := by decide +kernel
theorem dX8_look__137 : decode cX8_look_ 137 = .ok (.goto (-124), 3) := by decide +kernel
theorem dX8_look__140 : decode cX8_look_ 140 = .ok (.iload 4, 2) := by decide +kernel
theorem dX8_look__142 : decode cX8_look_ 142 = .ok (.iconst 1, 1) := by decide +kernel
theorem dX8_look__143 : decode cX8_look_ 143 = .ok (.iand, 1) := by decide +kernel
theorem dX8_look__144 : decode cX8_look_ 144 = .ok (.ifCond .eq 33, 3) := by decide +kernel
theorem dX8_look__147 : decode cX8_look_ 147 = .ok (.aload_n 0, 1) := by decide +kernel
theorem dX8_look__148 : decode cX8_look_ 148 = .ok (.iload_n 1, 1) := by decide +kernel
theorem dX8_look__149 : decode cX8_look_ 149 = .ok (.iconst 1, 1) := by decide +kernel
theorem dX8_look__150 : decode cX8_look_ 150 = .ok (.iconst 2, 1) := by decide +kernel
theorem dX8_look__151 : decode cX8_look_ 151 = .ok (.aload_n 0, 1) := by decide +kernel
theorem dX8_look__152 : decode cX8_look_ 152 = .ok (.iload_n 2, 1) := by decide +kernel
theorem dX8_look__153 : decode cX8_look_ 153 = .ok (.iload_n 3, 1) := by decide +kernel
theorem dX8_look__154 : decode cX8_look_ 154 = .ok (.invokevirtual 102, 3) := by decide +kernel
theorem dX8_look__157 : decode cX8_look_ 157 = .ok (.imul, 1) := by decide +kernel
theorem dX8_look__158 : decode cX8_look_ 158 = .ok (.aload_n 0, 1) := by decide +kernel
theorem dX8_look__159 : decode cX8_look_ 159 = .ok (.getfield 38, 3) := by decide +kernel
theorem dX8_look__162 : decode cX8_look_ 162 = .ok (.iload_n 2, 1) := by decide +kernel
theorem dX8_look__163 : decode cX8_look_ 163 = .ok (.baload, 1) := by decide +kernel
theorem dX8_look__164 : decode cX8_look_ 164 = .ok (.ifCond .eq 7, 3) := by decide +kernel
theorem dX8_look__167 : decode cX8_look_ 167 = .ok (.iconst 1, 1) := by decide +kernel
theorem dX8_look__168 : decode cX8_look_ 168 = .ok (.goto 4, 3) := by decide +kernel
theorem dX8_look__171 : decode cX8_look_ 171 = .ok (.iconst 0, 1) := by decide +kernel
theorem dX8_look__172 : decode cX8_look_ 172 = .ok (.iadd, 1) := by decide +kernel
theorem dX8_look__173 : decode cX8_look_ 173 = .ok (.iconst (-1), 1) := by decide +kernel
theorem dX8_look__174 : decode cX8_look_ 174 = .ok (.invokevirtual 98, 3) := by decide +kernel
theorem dX8_look__177 : decode cX8_look_ 177 = .ok (.iload 4, 2) := by decide +kernel
theorem dX8_look__179 : decode cX8_look_ 179 = .ok (.bipush 8, 2) := by decide +kernel
theorem dX8_look__181 : decode cX8_look_ 181 = .ok (.iand, 1) := by decide +kernel
theorem dX8_look__182 : decode cX8_look_ 182 = .ok (.ifCond .eq 17, 3) := by decide +kernel
theorem dX8_look__185 : decode cX8_look_ 185 = .ok (.aload_n 0, 1) := by decide +kernel
theorem dX8_look__186 : decode cX8_look_ 186 = .ok (.iload_n 1, 1) := by decide +kernel
theorem dX8_look__187 : decode cX8_look_ 187 = .ok (.bipush 8, 2) := by decide +kernel
theorem dX8_look__189 : decode cX8_look_ 189 = .ok (.aload_n 0, 1) := by decide +kernel
theorem dX8_look__190 : decode cX8_look_ 190 = .ok (.getfield 35, 3) := by decide +kernel
theorem dX8_look__193 : decode cX8_look_ 193 = .ok (.iload_n 2, 1) := by decide +kernel
theorem dX8_look__194 : decode cX8_look_ 194 = .ok (.iaload, 1) := by decide +kernel
theorem dX8_look__195 : decode cX8_look_ 195 = .ok (.iconst (-1), 1) := by decide +kernel
theorem dX8_look__196 : decode cX8_look_ 196 = .ok (.invokevirtual 98, 3) := by decide +kernel
theorem dX8_look__199 : decode cX8_look_ 199 = .ok (.return_, 1) := by decide +kernel
theorem dX8_unlike_0 : decode cX8_unlike 0 = .ok (.aload_n 0, 1) := by decide +kernel
theorem dX8_unlike_1 : decode cX8_unlike 1 = .ok (.iconst 0, 1) := by decide +kernel
theorem dX8_unlike_2 : decode cX8_unlike 2 = .ok (.iload_n 1, 1) := by decide +kernel
theorem dX8_unlike_3 : decode cX8_unlike 3 = .ok (.iload_n 3, 1) := by decide +kernel
theorem dX8_unlike_4 : decode cX8_unlike 4 = .ok (.iload 4, 2) := by decide +kernel
theorem dX8_unlike_6 : decode cX8_unlike 6 = .ok (.invokevirtual 105, 3) := by decide +kernel
theorem dX8_unlike_9 : decode cX8_unlike 9 = .ok (.aload_n 0, 1) := by decide +kernel
theorem dX8_unlike_10 : decode cX8_unlike 10 = .ok (.iconst 1, 1) := by decide +kernel
theorem dX8_unlike_11 : decode cX8_unlike 11 = .ok (.iload_n 2, 1) := by decide +kernel
theorem dX8_unlike_12 : decode cX8_unlike 12 = .ok (.iload_n 3, 1) := by decide +kernel
theorem dX8_unlike_13 : decode cX8_unlike 13 = .ok (.iload 4, 2) := by decide +kernel
theorem dX8_unlike_15 : decode cX8_unlike 15 = .ok (.invokevirtual 105, 3) := by decide +kernel
theorem dX8_unlike_18 : decode cX8_unlike 18 = .ok (.iconst 0, 1) := by decide +kernel
theorem dX8_unlike_19 : decode cX8_unlike 19 = .ok (.istore 5, 2) := by decide +kernel
theorem dX8_unlike_21 : decode cX8_unlike 21 = .ok (.iload 5, 2) := by decide +kernel
theorem dX8_unlike_23 : decode cX8_unlike 23 = .ok (.aload_n 0, 1) := by decide +kernel
theorem dX8_unlike_24 : decode cX8_unlike 24 = .ok (.getfield 51, 3) := by decide +kernel
theorem dX8_unlike_27 : decode cX8_unlike 27 = .ok (.iconst 0, 1) := by decide +kernel
theorem dX8_unlike_28 : decode cX8_unlike 28 = .ok (.iaload, 1) := by decide +kernel
theorem dX8_unlike_29 : decode cX8_unlike 29 = .ok (.if_icmp .ge 63, 3) := by decide +kernel
theorem dX8_unlike_32 : decode cX8_unlike 32 = .ok (.iload 5, 2) := by decide +kernel
theorem dX8_unlike_34 : decode cX8_unlike 34 = .ok (.aload_n 0, 1) := by decide +kernel
theorem dX8_unlike_35 : decode cX8_unlike 35 = .ok (.getfield 51, 3) := by decide +kernel
theorem dX8_unlike_38 : decode cX8_unlike 38 = .ok (.iconst 1, 1) := by decide +kernel
theorem dX8_unlike_39 : decode cX8_unlike 39 = .ok (.iaload, 1) := by decide +kernel
theorem dX8_unlike_40 : decode cX8_unlike 40 = .ok (.if_icmp .ge 52, 3) := by decide +kernel
theorem dX8_unlike_43 : decode cX8_unlike 43 = .ok (.aload_n 0, 1) := by decide +kernel
theorem dX8_unlike_44 : decode cX8_unlike 44 = .ok (.getfield 54, 3) := by decide +kernel
theorem dX8_unlike_47 : decode cX8_unlike 47 = .ok (.iload 5, 2) := by decide +kernel
theorem dX8_unlike_49 : decode cX8_unlike 49 = .ok (.iaload, 1) := by decide +kernel
theorem dX8_unlike_50 : decode cX8_unlike 50 = .ok (.aload_n 0, 1) := by decide +kernel
theorem dX8_unlike_51 : decode cX8_unlike 51 = .ok (.getfield 54, 3) := by decide +kernel
theorem dX8_unlike_54 : decode cX8_unlike 54 = .ok (.bipush 42, 2) := by decide +kernel
theorem dX8_unlike_56 : decode cX8_unlike 56 = .ok (.iload 5, 2) := by decide +kernel
theorem dX8_unlike_58 : decode cX8_unlike 58 = .ok (.iadd, 1) := by decide +kernel
theorem dX8_unlike_59 : decode cX8_unlike 59 = .ok (.iaload, 1) := by decide +kernel
theorem dX8_unlike_60 : decode cX8_unlike 60 = .ok (.if_icmp .ne 32, 3) := by decide +kernel
theorem dX8_unlike_63 : decode cX8_unlike 63 = .ok (.aload_n 0, 1) := by decide +kernel
theorem dX8_unlike_64 : decode cX8_unlike 64 = .ok (.getfield 57, 3) := by decide +kernel
theorem dX8_unlike_67 : decode cX8_unlike 67 = .ok (.iload 5, 2) := by decide +kernel
theorem dX8_unlike_69 : decode cX8_unlike 69 = .ok (.iaload, 1) := by decide +kernel
theorem dX8_unlike_70 : decode cX8_unlike 70 = .ok (.aload_n 0, 1) := by decide +kernel
theorem dX8_unlike_71 : decode cX8_unlike 71 = .ok (.getfield 57, 3) := by decide +kernel
theorem dX8_unlike_74 : decode cX8_unlike 74 = .ok (.bipush 42, 2) := by decide +kernel
theorem dX8_unlike_76 : decode cX8_unlike 76 = .ok (.iload 5, 2) := by decide +kernel
theorem dX8_unlike_78 : decode cX8_unlike 78 = .ok (.iadd, 1) := by decide +kernel
theorem dX8_unlike_79 : decode cX8_unlike 79 = .ok (.iaload, 1) := by decide +kernel
theorem dX8_unlike_80 : decode cX8_unlike 80 = .ok (.if_icmp .ne 12, 3) := by decide +kernel
theorem dX8_unlike_83 : decode cX8_unlike 83 = .ok (.iload 5, 2) := by decide +kernel
theorem dX8_unlike_85 : decode cX8_unlike 85 = .ok (.iconst 1, 1) := by decide +kernel
theorem dX8_unlike_86 : decode cX8_unlike 86 = .ok (.iadd, 1) := by decide +kernel
theorem dX8_unlike_87 : decode cX8_unlike 87 = .ok (.istore 5, 2) := by decide +kernel
theorem dX8_unlike_89 : decode cX8_unlike 89 = .ok (.goto (-68), 3) := by decide +kernel
theorem dX8_unlike_92 : decode cX8_unlike 92 = .ok (.iload 5, 2) := by decide +kernel
theorem dX8_unlike_94 : decode cX8_unlike 94 = .ok (.aload_n 0, 1) := by decide +kernel
theorem dX8_unlike_95 : decode cX8_unlike 95 = .ok (.getfield 51, 3) := by decide +kernel
theorem dX8_unlike_98 : decode cX8_unlike 98 = .ok (.iconst 0, 1) := by decide +kernel
theorem dX8_unlike_99 : decode cX8_unlike 99 = .ok (.iaload, 1) := by decide +kernel
theorem dX8_unlike_100 : decode cX8_unlike 100 = .ok (.if_icmp .ne 18, 3) := by decide +kernel
theorem dX8_unlike_103 : decode cX8_unlike 103 = .ok (.iload 5, 2) := by decide +kernel
theorem dX8_unlike_105 : decode cX8_unlike 105 = .ok (.aload_n 0, 1) := by decide +kernel
theorem dX8_unlike_106 : decode cX8_unlike 106 = .ok (.getfield 51, 3) := by decide +kernel
theorem dX8_unlike_109 : decode cX8_unlike 109 = .ok (.iconst 1, 1) := by decide +kernel
theorem dX8_unlike_110 : decode cX8_unlike 110 = .ok (.iaload, 1) := by decide +kernel
theorem dX8_unlike_111 : decode cX8_unlike 111 = .ok (.if_icmp .ne 7, 3) := by decide +kernel
theorem dX8_unlike_114 : decode cX8_unlike 114 = .ok (.iconst (-1), 1) := by decide +kernel
theorem dX8_unlike_115 : decode cX8_unlike 115 = .ok (.goto 5, 3) := by decide +kernel
theorem dX8_unlike_118 : decode cX8_unlike 118 = .ok (.iload 5, 2) := by decide +kernel
theorem dX8_unlike_120 : decode cX8_unlike 120 = .ok (.ireturn, 1) := by decide +kernel
theorem dX8_run_0 : decode cX8_run 0 = .ok (.aload_n 0, 1) := by decide +kernel
theorem dX8_run_1 : decode cX8_run 1 = .ok (.iconst 0, 1) := by decide +kernel
theorem dX8_run_2 : decode cX8_run 2 = .ok (.putfield 66, 3) := by decide +kernel
theorem dX8_run_5 : decode cX8_run 5 = .ok (.aload_n 0, 1) := by decide +kernel
theorem dX8_run_6 : decode cX8_run 6 = .ok (.iload_n 1, 1) := by decide +kernel
theorem dX8_run_7 : decode cX8_run 7 = .ok (.invokevirtual 108, 3) := by decide +kernel
theorem dX8_run_10 : decode cX8_run 10 = .ok (.ifCond .eq 20, 3) := by decide +kernel
theorem dX8_run_13 : decode cX8_run 13 = .ok (.aload_n 0, 1) := by decide +kernel
theorem dX8_run_14 : decode cX8_run 14 = .ok (.iload_n 2, 1) := by decide +kernel
theorem dX8_run_15 : decode cX8_run 15 = .ok (.invokevirtual 108, 3) := by decide +kernel
theorem dX8_run_18 : decode cX8_run 18 = .ok (.ifCond .eq 12, 3) := by decide +kernel
theorem dX8_run_21 : decode cX8_run 21 = .ok (.iload_n 3, 1) := by decide +kernel
theorem dX8_run_22 : decode cX8_run 22 = .ok (.ifCond .lt 8, 3) := by decide +kernel
theorem dX8_run_25 : decode cX8_run 25 = .ok (.iload_n 3, 1) := by decide +kernel
theorem dX8_run_26 : decode cX8_run 26 = .ok (.iconst 4, 1) := by decide +kernel
theorem dX8_run_27 : decode cX8_run 27 = .ok (.if_icmp .le 7, 3) := by decide +kernel
theorem dX8_run_30 : decode cX8_run 30 = .ok (.sipush (-1001), 3) := by decide +kernel
theorem dX8_run_33 : decode cX8_run 33 = .ok (.ireturn, 1) := by decide +kernel
theorem dX8_run_34 : decode cX8_run 34 = .ok (.bipush 16, 2) := by decide +kernel
theorem dX8_run_36 : decode cX8_run 36 = .ok (.iload_n 1, 1) := by decide +kernel
theorem dX8_run_37 : decode cX8_run 37 = .ok (.imul, 1) := by decide +kernel
theorem dX8_run_38 : decode cX8_run 38 = .ok (.iload_n 2, 1) := by decide +kernel
theorem dX8_run_39 : decode cX8_run 39 = .ok (.iadd, 1) := by decide +kernel
theorem dX8_run_40 : decode cX8_run 40 = .ok (.istore 4, 2) := by decide +kernel
theorem dX8_run_42 : decode cX8_run 42 = .ok (.aload_n 0, 1) := by decide +kernel
theorem dX8_run_43 : decode cX8_run 43 = .ok (.iload 4, 2) := by decide +kernel
theorem dX8_run_45 : decode cX8_run 45 = .ok (.invokevirtual 91, 3) := by decide +kernel
theorem dX8_run_48 : decode cX8_run 48 = .ok (.iload_n 3, 1) := by decide +kernel
theorem dX8_run_49 : decode cX8_run 49 = .ok (.ifCond .ne 11, 3) := by decide +kernel
theorem dX8_run_52 : decode cX8_run 52 = .ok (.aload_n 0, 1) := by decide +kernel
theorem dX8_run_53 : decode cX8_run 53 = .ok (.getfield 35, 3) := by decide +kernel
theorem dX8_run_56 : decode cX8_run 56 = .ok (.iload 4, 2) := by decide +kernel
theorem dX8_run_58 : decode cX8_run 58 = .ok (.iaload, 1) := by decide +kernel
theorem dX8_run_59 : decode cX8_run 59 = .ok (.ireturn, 1) := by decide +kernel
theorem dX8_run_60 : decode cX8_run 60 = .ok (.iload_n 3, 1) := by decide +kernel
theorem dX8_run_61 : decode cX8_run 61 = .ok (.iconst 1, 1) := by decide +kernel
theorem dX8_run_62 : decode cX8_run 62 = .ok (.if_icmp .ne 14, 3) := by decide +kernel
theorem dX8_run_65 : decode cX8_run 65 = .ok (.aload_n 0, 1) := by decide +kernel
theorem dX8_run_66 : decode cX8_run 66 = .ok (.iload 4, 2) := by decide +kernel
theorem dX8_run_68 : decode cX8_run 68 = .ok (.aload_n 0, 1) := by decide +kernel
theorem dX8_run_69 : decode cX8_run 69 = .ok (.getfield 80, 3) := by decide +kernel
theorem dX8_run_72 : decode cX8_run 72 = .ok (.invokevirtual 102, 3) := by decide +kernel
theorem dX8_run_75 : decode cX8_run 75 = .ok (.ireturn, 1) := by decide +kernel
theorem dX8_run_76 : decode cX8_run 76 = .ok (.iload_n 3, 1) := by decide +kernel
theorem dX8_run_77 : decode cX8_run 77 = .ok (.iconst 2, 1) := by decide +kernel
theorem dX8_run_78 : decode cX8_run 78 = .ok (.if_icmp .ne 11, 3) := by decide +kernel
theorem dX8_run_81 : decode cX8_run 81 = .ok (.aload_n 0, 1) := by decide +kernel
theorem dX8_run_82 : decode cX8_run 82 = .ok (.getfield 32, 3) := by decide +kernel
theorem dX8_run_85 : decode cX8_run 85 = .ok (.iload 4, 2) := by decide +kernel
theorem dX8_run_87 : decode cX8_run 87 = .ok (.iaload, 1) := by decide +kernel
theorem dX8_run_88 : decode cX8_run 88 = .ok (.ireturn, 1) := by decide +kernel
theorem dX8_run_89 : decode cX8_run 89 = .ok (.iload_n 3, 1) := by decide +kernel
theorem dX8_run_90 : decode cX8_run 90 = .ok (.iconst 3, 1) := by decide +kernel
theorem dX8_run_91 : decode cX8_run 91 = .ok (.if_icmp .ne 19, 3) := by decide +kernel
theorem dX8_run_94 : decode cX8_run 94 = .ok (.aload_n 0, 1) := by decide +kernel
theorem dX8_run_95 : decode cX8_run 95 = .ok (.getfield 38, 3) := by decide +kernel
theorem dX8_run_98 : decode cX8_run 98 = .ok (.iload 4, 2) := by decide +kernel
theorem dX8_run_100 : decode cX8_run 100 = .ok (.baload, 1) := by decide +kernel
theorem dX8_run_101 : decode cX8_run 101 = .ok (.ifCond .eq 7, 3) := by decide +kernel
theorem dX8_run_104 : decode cX8_run 104 = .ok (.iconst 1, 1) := by decide +kernel
theorem dX8_run_105 : decode cX8_run 105 = .ok (.goto 4, 3) := by decide +kernel
theorem dX8_run_108 : decode cX8_run 108 = .ok (.iconst 0, 1) := by decide +kernel
theorem dX8_run_109 : decode cX8_run 109 = .ok (.ireturn, 1) := by decide +kernel
theorem dX8_run_110 : decode cX8_run 110 = .ok (.aload_n 0, 1) := by decide +kernel
theorem dX8_run_111 : decode cX8_run 111 = .ok (.iconst 0, 1) := by decide +kernel
theorem dX8_run_112 : decode cX8_run 112 = .ok (.iload 4, 2) := by decide +kernel
theorem dX8_run_114 : decode cX8_run 114 = .ok (.aload_n 0, 1) := by decide +kernel
theorem dX8_run_115 : decode cX8_run 115 = .ok (.getfield 80, 3) := by decide +kernel
theorem dX8_run_118 : decode cX8_run 118 = .ok (.aload_n 0, 1) := by decide +kernel
theorem dX8_run_119 : decode cX8_run 119 = .ok (.getfield 19, 3) := by decide +kernel
theorem dX8_run_122 : decode cX8_run 122 = .ok (.invokevirtual 105, 3) := by decide +kernel
theorem dX8_run_125 : decode cX8_run 125 = .ok (.aload_n 0, 1) := by decide +kernel
theorem dX8_run_126 : decode cX8_run 126 = .ok (.getfield 51, 3) := by decide +kernel
theorem dX8_run_129 : decode cX8_run 129 = .ok (.iconst 0, 1) := by decide +kernel
theorem dX8_run_130 : decode cX8_run 130 = .ok (.iaload, 1) := by decide +kernel
theorem dX8_run_131 : decode cX8_run 131 = .ok (.ireturn, 1) := by decide +kernel
theorem dX8_seen_0 : decode cX8_seen 0 = .ok (.aload_n 0, 1) := by decide +kernel
theorem dX8_seen_1 : decode cX8_seen 1 = .ok (.iconst 0, 1) := by decide +kernel
theorem dX8_seen_2 : decode cX8_seen 2 = .ok (.putfield 66, 3) := by decide +kernel
theorem dX8_seen_5 : decode cX8_seen 5 = .ok (.aload_n 0, 1) := by decide +kernel
theorem dX8_seen_6 : decode cX8_seen 6 = .ok (.iload_n 1, 1) := by decide +kernel
theorem dX8_seen_7 : decode cX8_seen 7 = .ok (.invokevirtual 108, 3) := by decide +kernel
theorem dX8_seen_10 : decode cX8_seen 10 = .ok (.ifCond .eq 22, 3) := by decide +kernel
theorem dX8_seen_13 : decode cX8_seen 13 = .ok (.aload_n 0, 1) := by decide +kernel
theorem dX8_seen_14 : decode cX8_seen 14 = .ok (.iload_n 2, 1) := by decide +kernel
theorem dX8_seen_15 : decode cX8_seen 15 = .ok (.invokevirtual 108, 3) := by decide +kernel
theorem dX8_seen_18 : decode cX8_seen 18 = .ok (.ifCond .eq 14, 3) := by decide +kernel
theorem dX8_seen_21 : decode cX8_seen 21 = .ok (.iload 4, 2) := by decide +kernel
theorem dX8_seen_23 : decode cX8_seen 23 = .ok (.ifCond .lt 9, 3) := by decide +kernel
theorem dX8_seen_26 : decode cX8_seen 26 = .ok (.iload 4, 2) := by decide +kernel
theorem dX8_seen_28 : decode cX8_seen 28 = .ok (.iconst 2, 1) := by decide +kernel
theorem dX8_seen_29 : decode cX8_seen 29 = .ok (.if_icmp .le 7, 3) := by decide +kernel
theorem dX8_seen_32 : decode cX8_seen 32 = .ok (.sipush (-1001), 3) := by decide +kernel
theorem dX8_seen_35 : decode cX8_seen 35 = .ok (.ireturn, 1) := by decide +kernel
theorem dX8_seen_36 : decode cX8_seen 36 = .ok (.bipush 16, 2) := by decide +kernel
theorem dX8_seen_38 : decode cX8_seen 38 = .ok (.iload_n 1, 1) := by decide +kernel
theorem dX8_seen_39 : decode cX8_seen 39 = .ok (.imul, 1) := by decide +kernel
theorem dX8_seen_40 : decode cX8_seen 40 = .ok (.iload_n 2, 1) := by decide +kernel
theorem dX8_seen_41 : decode cX8_seen 41 = .ok (.iadd, 1) := by decide +kernel
theorem dX8_seen_42 : decode cX8_seen 42 = .ok (.istore 5, 2) := by decide +kernel
theorem dX8_seen_44 : decode cX8_seen 44 = .ok (.aload_n 0, 1) := by decide +kernel
theorem dX8_seen_45 : decode cX8_seen 45 = .ok (.iload 5, 2) := by decide +kernel
theorem dX8_seen_47 : decode cX8_seen 47 = .ok (.invokevirtual 91, 3) := by decide +kernel
theorem dX8_seen_50 : decode cX8_seen 50 = .ok (.aload_n 0, 1) := by decide +kernel
theorem dX8_seen_51 : decode cX8_seen 51 = .ok (.iconst 0, 1) := by decide +kernel
theorem dX8_seen_52 : decode cX8_seen 52 = .ok (.iload 5, 2) := by decide +kernel
theorem dX8_seen_54 : decode cX8_seen 54 = .ok (.aload_n 0, 1) := by decide +kernel
theorem dX8_seen_55 : decode cX8_seen 55 = .ok (.getfield 80, 3) := by decide +kernel
theorem dX8_seen_58 : decode cX8_seen 58 = .ok (.aload_n 0, 1) := by decide +kernel
theorem dX8_seen_59 : decode cX8_seen 59 = .ok (.getfield 19, 3) := by decide +kernel
theorem dX8_seen_62 : decode cX8_seen 62 = .ok (.invokevirtual 105, 3) := by decide +kernel
theorem dX8_seen_65 : decode cX8_seen 65 = .ok (.iload_n 3, 1) := by decide +kernel
theorem dX8_seen_66 : decode cX8_seen 66 = .ok (.ifCond .lt 13, 3) := by decide +kernel
theorem dX8_seen_69 : decode cX8_seen 69 = .ok (.iload_n 3, 1) := by decide +kernel
theorem dX8_seen_70 : decode cX8_seen 70 = .ok (.aload_n 0, 1) := by decide +kernel
theorem dX8_seen_71 : decode cX8_seen 71 = .ok (.getfield 51, 3) := by decide +kernel
theorem dX8_seen_74 : decode cX8_seen 74 = .ok (.iconst 0, 1) := by decide +kernel
theorem dX8_seen_75 : decode cX8_seen 75 = .ok (.iaload, 1) := by decide +kernel
theorem dX8_seen_76 : decode cX8_seen 76 = .ok (.if_icmp .lt 7, 3) := by decide +kernel
theorem dX8_seen_79 : decode cX8_seen 79 = .ok (.sipush (-1001), 3) := by decide +kernel
theorem dX8_seen_82 : decode cX8_seen 82 = .ok (.ireturn, 1) := by decide +kernel
theorem dX8_seen_83 : decode cX8_seen 83 = .ok (.iload 4, 2) := by decide +kernel
theorem dX8_seen_85 : decode cX8_seen 85 = .ok (.ifCond .ne 12, 3) := by decide +kernel
theorem dX8_seen_88 : decode cX8_seen 88 = .ok (.aload_n 0, 1) := by decide +kernel
theorem dX8_seen_89 : decode cX8_seen 89 = .ok (.getfield 60, 3) := by decide +kernel
theorem dX8_seen_92 : decode cX8_seen 92 = .ok (.iload_n 3, 1) := by decide +kernel
theorem dX8_seen_93 : decode cX8_seen 93 = .ok (.iaload, 1) := by decide +kernel
theorem dX8_seen_94 : decode cX8_seen 94 = .ok (.goto 24, 3) := by decide +kernel
theorem dX8_seen_97 : decode cX8_seen 97 = .ok (.iload 4, 2) := by decide +kernel
theorem dX8_seen_99 : decode cX8_seen 99 = .ok (.iconst 1, 1) := by decide +kernel
theorem dX8_seen_100 : decode cX8_seen 100 = .ok (.if_icmp .ne 12, 3) := by decide +kernel
theorem dX8_seen_103 : decode cX8_seen 103 = .ok (.aload_n 0, 1) := by decide +kernel
theorem dX8_seen_104 : decode cX8_seen 104 = .ok (.getfield 54, 3) := by decide +kernel
theorem dX8_seen_107 : decode cX8_seen 107 = .ok (.iload_n 3, 1) := by decide +kernel
theorem dX8_seen_108 : decode cX8_seen 108 = .ok (.iaload, 1) := by decide +kernel
theorem dX8_seen_109 : decode cX8_seen 109 = .ok (.goto 9, 3) := by decide +kernel
theorem dX8_seen_112 : decode cX8_seen 112 = .ok (.aload_n 0, 1) := by decide +kernel
theorem dX8_seen_113 : decode cX8_seen 113 = .ok (.getfield 57, 3) := by decide +kernel
theorem dX8_seen_116 : decode cX8_seen 116 = .ok (.iload_n 3, 1) := by decide +kernel
theorem dX8_seen_117 : decode cX8_seen 117 = .ok (.iaload, 1) := by decide +kernel
theorem dX8_seen_118 : decode cX8_seen 118 = .ok (.ireturn, 1) := by decide +kernel
theorem dX8_classesOf_0 : decode cX8_classesOf 0 = .ok (.iconst 0, 1) := by decide +kernel
theorem dX8_classesOf_1 : decode cX8_classesOf 1 = .ok (.istore_n 2, 1) := by decide +kernel
theorem dX8_classesOf_2 : decode cX8_classesOf 2 = .ok (.iconst 0, 1) := by decide +kernel
theorem dX8_classesOf_3 : decode cX8_classesOf 3 = .ok (.istore_n 3, 1) := by decide +kernel
theorem dX8_classesOf_4 : decode cX8_classesOf 4 = .ok (.iload_n 3, 1) := by decide +kernel
theorem dX8_classesOf_5 : decode cX8_classesOf 5 = .ok (.bipush 16, 2) := by decide +kernel
theorem dX8_classesOf_7 : decode cX8_classesOf 7 = .ok (.if_icmp .ge 107, 3) := by decide +kernel
theorem dX8_classesOf_10 : decode cX8_classesOf 10 = .ok (.aload_n 0, 1) := by decide +kernel
theorem dX8_classesOf_11 : decode cX8_classesOf 11 = .ok (.getfield 63, 3) := by decide +kernel
theorem dX8_classesOf_14 : decode cX8_classesOf 14 = .ok (.iload_n 3, 1) := by decide +kernel
theorem dX8_classesOf_15 : decode cX8_classesOf 15 = .ok (.iconst (-1), 1) := by decide +kernel
theorem dX8_classesOf_16 : decode cX8_classesOf 16 = .ok (.iastore, 1) := by decide +kernel
theorem dX8_classesOf_17 : decode cX8_classesOf 17 = .ok (.iconst 0, 1) := by decide +kernel
theorem dX8_classesOf_18 : decode cX8_classesOf 18 = .ok (.istore 4, 2) := by decide +kernel
theorem dX8_classesOf_20 : decode cX8_classesOf 20 = .ok (.iload 4, 2) := by decide +kernel
theorem dX8_classesOf_22 : decode cX8_classesOf 22 = .ok (.iload_n 3, 1) := by decide +kernel
theorem dX8_classesOf_23 : decode cX8_classesOf 23 = .ok (.if_icmp .ge 61, 3) := by decide +kernel
theorem dX8_classesOf_26 : decode cX8_classesOf 26 = .ok (.aload_n 0, 1) := by decide +kernel
theorem dX8_classesOf_27 : decode cX8_classesOf 27 = .ok (.getfield 63, 3) := by decide +kernel
theorem dX8_classesOf_30 : decode cX8_classesOf 30 = .ok (.iload_n 3, 1) := by decide +kernel
theorem dX8_classesOf_31 : decode cX8_classesOf 31 = .ok (.iaload, 1) := by decide +kernel
theorem dX8_classesOf_32 : decode cX8_classesOf 32 = .ok (.iconst (-1), 1) := by decide +kernel
theorem dX8_classesOf_33 : decode cX8_classesOf 33 = .ok (.if_icmp .ne 51, 3) := by decide +kernel
theorem dX8_classesOf_36 : decode cX8_classesOf 36 = .ok (.aload_n 0, 1) := by decide +kernel
theorem dX8_classesOf_37 : decode cX8_classesOf 37 = .ok (.bipush 16, 2) := by decide +kernel
theorem dX8_classesOf_39 : decode cX8_classesOf 39 = .ok (.iload_n 1, 1) := by decide +kernel
theorem dX8_classesOf_40 : decode cX8_classesOf 40 = .ok (.imul, 1) := by decide +kernel
theorem dX8_classesOf_41 : decode cX8_classesOf 41 = .ok (.iload 4, 2) := by decide +kernel
theorem dX8_classesOf_43 : decode cX8_classesOf 43 = .ok (.iadd, 1) := by decide +kernel
theorem dX8_classesOf_44 : decode cX8_classesOf 44 = .ok (.bipush 16, 2) := by decide +kernel
theorem dX8_classesOf_46 : decode cX8_classesOf 46 = .ok (.iload_n 1, 1) := by decide +kernel
theorem dX8_classesOf_47 : decode cX8_classesOf 47 = .ok (.imul, 1) := by decide +kernel
theorem dX8_classesOf_48 : decode cX8_classesOf 48 = .ok (.iload_n 3, 1) := by decide +kernel
theorem dX8_classesOf_49 : decode cX8_classesOf 49 = .ok (.iadd, 1) := by decide +kernel
theorem dX8_classesOf_50 : decode cX8_classesOf 50 = .ok (.aload_n 0, 1) := by decide +kernel
theorem dX8_classesOf_51 : decode cX8_classesOf 51 = .ok (.getfield 80, 3) := by decide +kernel
theorem dX8_classesOf_54 : decode cX8_classesOf 54 = .ok (.aload_n 0, 1) := by decide +kernel
theorem dX8_classesOf_55 : decode cX8_classesOf 55 = .ok (.getfield 19, 3) := by decide +kernel
theorem dX8_classesOf_58 : decode cX8_classesOf 58 = .ok (.invokevirtual 111, 3) := by decide +kernel
theorem dX8_classesOf_61 : decode cX8_classesOf 61 = .ok (.iconst (-1), 1) := by decide +kernel
theorem dX8_classesOf_62 : decode cX8_classesOf 62 = .ok (.if_icmp .ne 16, 3) := by decide +kernel
theorem dX8_classesOf_65 : decode cX8_classesOf 65 = .ok (.aload_n 0, 1) := by decide +kernel
theorem dX8_classesOf_66 : decode cX8_classesOf 66 = .ok (.getfield 63, 3) := by decide +kernel
theorem dX8_classesOf_69 : decode cX8_classesOf 69 = .ok (.iload_n 3, 1) := by decide +kernel
theorem dX8_classesOf_70 : decode cX8_classesOf 70 = .ok (.aload_n 0, 1) := by decide +kernel
theorem dX8_classesOf_71 : decode cX8_classesOf 71 = .ok (.getfield 63, 3) := by decide +kernel
theorem dX8_classesOf_74 : decode cX8_classesOf 74 = .ok (.iload 4, 2) := by decide +kernel
theorem dX8_classesOf_76 : decode cX8_classesOf 76 = .ok (.iaload, 1) := by decide +kernel
theorem dX8_classesOf_77 : decode cX8_classesOf 77 = .ok (.iastore, 1) := by decide +kernel
theorem dX8_classesOf_78 : decode cX8_classesOf 78 = .ok (.iinc 4 1, 3) := by decide +kernel
theorem dX8_classesOf_81 : decode cX8_classesOf 81 = .ok (.goto (-61), 3) := by decide +kernel
theorem dX8_classesOf_84 : decode cX8_classesOf 84 = .ok (.aload_n 0, 1) := by decide +kernel
theorem dX8_classesOf_85 : decode cX8_classesOf 85 = .ok (.getfield 63, 3) := by decide +kernel
theorem dX8_classesOf_88 : decode cX8_classesOf 88 = .ok (.iload_n 3, 1) := by decide +kernel
theorem dX8_classesOf_89 : decode cX8_classesOf 89 = .ok (.iaload, 1) := by decide +kernel
theorem dX8_classesOf_90 : decode cX8_classesOf 90 = .ok (.iconst (-1), 1) := by decide +kernel
theorem dX8_classesOf_91 : decode cX8_classesOf 91 = .ok (.if_icmp .eq 6, 3) := by decide +kernel
theorem dX8_classesOf_94 : decode cX8_classesOf 94 = .ok (.goto 14, 3) := by decide +kernel
theorem dX8_classesOf_97 : decode cX8_classesOf 97 = .ok (.aload_n 0, 1) := by decide +kernel
theorem dX8_classesOf_98 : decode cX8_classesOf 98 = .ok (.getfield 63, 3) := by decide +kernel
theorem dX8_classesOf_101 : decode cX8_classesOf 101 = .ok (.iload_n 3, 1) := by decide +kernel
theorem dX8_classesOf_102 : decode cX8_classesOf 102 = .ok (.iload_n 2, 1) := by decide +kernel
theorem dX8_classesOf_103 : decode cX8_classesOf 103 = .ok (.iastore, 1) := by decide +kernel
theorem dX8_classesOf_104 : decode cX8_classesOf 104 = .ok (.iload_n 2, 1) := by decide +kernel
theorem dX8_classesOf_105 : decode cX8_classesOf 105 = .ok (.iconst 1, 1) := by decide +kernel
theorem dX8_classesOf_106 : decode cX8_classesOf 106 = .ok (.iadd, 1) := by decide +kernel
theorem dX8_classesOf_107 : decode cX8_classesOf 107 = .ok (.istore_n 2, 1) := by decide +kernel
theorem dX8_classesOf_108 : decode cX8_classesOf 108 = .ok (.iinc 3 1, 3) := by decide +kernel
theorem dX8_classesOf_111 : decode cX8_classesOf 111 = .ok (.goto (-107), 3) := by decide +kernel
theorem dX8_classesOf_114 : decode cX8_classesOf 114 = .ok (.iload_n 2, 1) := by decide +kernel
theorem dX8_classesOf_115 : decode cX8_classesOf 115 = .ok (.ireturn, 1) := by decide +kernel
theorem dX8_classes_0 : decode cX8_classes 0 = .ok (.aload_n 0, 1) := by decide +kernel
theorem dX8_classes_1 : decode cX8_classes 1 = .ok (.iconst 0, 1) := by decide +kernel
theorem dX8_classes_2 : decode cX8_classes 2 = .ok (.putfield 66, 3) := by decide +kernel
theorem dX8_classes_5 : decode cX8_classes 5 = .ok (.aload_n 0, 1) := by decide +kernel
theorem dX8_classes_6 : decode cX8_classes 6 = .ok (.iload_n 1, 1) := by decide +kernel
theorem dX8_classes_7 : decode cX8_classes 7 = .ok (.invokevirtual 108, 3) := by decide +kernel
theorem dX8_classes_10 : decode cX8_classes 10 = .ok (.ifCond .ne 5, 3) := by decide +kernel
theorem dX8_classes_13 : decode cX8_classes 13 = .ok (.iconst (-1), 1) := by decide +kernel
theorem dX8_classes_14 : decode cX8_classes 14 = .ok (.ireturn, 1) := by decide +kernel
theorem dX8_classes_15 : decode cX8_classes 15 = .ok (.aload_n 0, 1) := by decide +kernel
theorem dX8_classes_16 : decode cX8_classes 16 = .ok (.invokevirtual 115, 3) := by decide +kernel
theorem dX8_classes_19 : decode cX8_classes 19 = .ok (.aload_n 0, 1) := by decide +kernel
theorem dX8_classes_20 : decode cX8_classes 20 = .ok (.iload_n 1, 1) := by decide +kernel
theorem dX8_classes_21 : decode cX8_classes 21 = .ok (.invokevirtual 118, 3) := by decide +kernel
theorem dX8_classes_24 : decode cX8_classes 24 = .ok (.ireturn, 1) := by decide +kernel
theorem dX8_classOf_0 : decode cX8_classOf 0 = .ok (.aload_n 0, 1) := by decide +kernel
theorem dX8_classOf_1 : decode cX8_classOf 1 = .ok (.iconst 0, 1) := by decide +kernel
theorem dX8_classOf_2 : decode cX8_classOf 2 = .ok (.putfield 66, 3) := by decide +kernel
theorem dX8_classOf_5 : decode cX8_classOf 5 = .ok (.aload_n 0, 1) := by decide +kernel
theorem dX8_classOf_6 : decode cX8_classOf 6 = .ok (.iload_n 1, 1) := by decide +kernel
theorem dX8_classOf_7 : decode cX8_classOf 7 = .ok (.invokevirtual 108, 3) := by decide +kernel
theorem dX8_classOf_10 : decode cX8_classOf 10 = .ok (.ifCond .eq 11, 3) := by decide +kernel
theorem dX8_classOf_13 : decode cX8_classOf 13 = .ok (.aload_n 0, 1) := by decide +kernel
theorem dX8_classOf_14 : decode cX8_classOf 14 = .ok (.iload_n 2, 1) := by decide +kernel
theorem dX8_classOf_15 : decode cX8_classOf 15 = .ok (.invokevirtual 108, 3) := by decide +kernel
theorem dX8_classOf_18 : decode cX8_classOf 18 = .ok (.ifCond .ne 5, 3) := by decide +kernel
theorem dX8_classOf_21 : decode cX8_classOf 21 = .ok (.iconst (-1), 1) := by decide +kernel
theorem dX8_classOf_22 : decode cX8_classOf 22 = .ok (.ireturn, 1) := by decide +kernel
theorem dX8_classOf_23 : decode cX8_classOf 23 = .ok (.aload_n 0, 1) := by decide +kernel
theorem dX8_classOf_24 : decode cX8_classOf 24 = .ok (.invokevirtual 115, 3) := by decide +kernel
theorem dX8_classOf_27 : decode cX8_classOf 27 = .ok (.aload_n 0, 1) := by decide +kernel
theorem dX8_classOf_28 : decode cX8_classOf 28 = .ok (.iload_n 1, 1) := by decide +kernel
theorem dX8_classOf_29 : decode cX8_classOf 29 = .ok (.invokevirtual 118, 3) := by decide +kernel
theorem dX8_classOf_32 : decode cX8_classOf 32 = .ok (.pop, 1) := by decide +kernel
theorem dX8_classOf_33 : decode cX8_classOf 33 = .ok (.aload_n 0, 1) := by decide +kernel
theorem dX8_classOf_34 : decode cX8_classOf 34 = .ok (.getfield 63, 3) := by decide +kernel
theorem dX8_classOf_37 : decode cX8_classOf 37 = .ok (.iload_n 2, 1) := by decide +kernel
theorem dX8_classOf_38 : decode cX8_classOf 38 = .ok (.iaload, 1) := by decide +kernel
theorem dX8_classOf_39 : decode cX8_classOf 39 = .ok (.ireturn, 1) := by decide +kernel
theorem dX8_most_0 : decode cX8_most 0 = .ok (.aload_n 0, 1) := by decide +kernel
theorem dX8_most_1 : decode cX8_most 1 = .ok (.iconst 0, 1) := by decide +kernel
theorem dX8_most_2 : decode cX8_most 2 = .ok (.putfield 66, 3) := by decide +kernel
theorem dX8_most_5 : decode cX8_most 5 = .ok (.aload_n 0, 1) := by decide +kernel
theorem dX8_most_6 : decode cX8_most 6 = .ok (.invokevirtual 115, 3) := by decide +kernel
theorem dX8_most_9 : decode cX8_most 9 = .ok (.iconst 0, 1) := by decide +kernel
theorem dX8_most_10 : decode cX8_most 10 = .ok (.istore_n 1, 1) := by decide +kernel
theorem dX8_most_11 : decode cX8_most 11 = .ok (.iconst 0, 1) := by decide +kernel
theorem dX8_most_12 : decode cX8_most 12 = .ok (.istore_n 2, 1) := by decide +kernel
theorem dX8_most_13 : decode cX8_most 13 = .ok (.iload_n 2, 1) := by decide +kernel
theorem dX8_most_14 : decode cX8_most 14 = .ok (.bipush 16, 2) := by decide +kernel
theorem dX8_most_16 : decode cX8_most 16 = .ok (.if_icmp .ge 22, 3) := by decide +kernel
theorem dX8_most_19 : decode cX8_most 19 = .ok (.aload_n 0, 1) := by decide +kernel
theorem dX8_most_20 : decode cX8_most 20 = .ok (.iload_n 2, 1) := by decide +kernel
theorem dX8_most_21 : decode cX8_most 21 = .ok (.invokevirtual 118, 3) := by decide +kernel
theorem dX8_most_24 : decode cX8_most 24 = .ok (.istore_n 3, 1) := by decide +kernel
theorem dX8_most_25 : decode cX8_most 25 = .ok (.iload_n 3, 1) := by decide +kernel
theorem dX8_most_26 : decode cX8_most 26 = .ok (.iload_n 1, 1) := by decide +kernel
theorem dX8_most_27 : decode cX8_most 27 = .ok (.if_icmp .le 5, 3) := by decide +kernel
theorem dX8_most_30 : decode cX8_most 30 = .ok (.iload_n 3, 1) := by decide +kernel
theorem dX8_most_31 : decode cX8_most 31 = .ok (.istore_n 1, 1) := by decide +kernel
theorem dX8_most_32 : decode cX8_most 32 = .ok (.iinc 2 1, 3) := by decide +kernel
theorem dX8_most_35 : decode cX8_most 35 = .ok (.goto (-22), 3) := by decide +kernel
theorem dX8_most_38 : decode cX8_most 38 = .ok (.iload_n 1, 1) := by decide +kernel
theorem dX8_most_39 : decode cX8_most 39 = .ok (.ireturn, 1) := by decide +kernel
theorem dX8_isSilent_0 : decode cX8_isSilent 0 = .ok (.iconst 0, 1) := by decide +kernel
theorem dX8_isSilent_1 : decode cX8_isSilent 1 = .ok (.istore_n 3, 1) := by decide +kernel
theorem dX8_isSilent_2 : decode cX8_isSilent 2 = .ok (.iload_n 3, 1) := by decide +kernel
theorem dX8_isSilent_3 : decode cX8_isSilent 3 = .ok (.sipush 256, 3) := by decide +kernel
theorem dX8_isSilent_6 : decode cX8_isSilent 6 = .ok (.if_icmp .ge 55, 3) := by decide +kernel
theorem dX8_isSilent_9 : decode cX8_isSilent 9 = .ok (.iload_n 3, 1) := by decide +kernel
theorem dX8_isSilent_10 : decode cX8_isSilent 10 = .ok (.bipush 16, 2) := by decide +kernel
theorem dX8_isSilent_12 : decode cX8_isSilent 12 = .ok (.irem, 1) := by decide +kernel
theorem dX8_isSilent_13 : decode cX8_isSilent 13 = .ok (.ifCond .eq 42, 3) := by decide +kernel
theorem dX8_isSilent_16 : decode cX8_isSilent 16 = .ok (.aload_n 0, 1) := by decide +kernel
theorem dX8_isSilent_17 : decode cX8_isSilent 17 = .ok (.iload_n 3, 1) := by decide +kernel
theorem dX8_isSilent_18 : decode cX8_isSilent 18 = .ok (.bipush 16, 2) := by decide +kernel
theorem dX8_isSilent_20 : decode cX8_isSilent 20 = .ok (.idiv, 1) := by decide +kernel
theorem dX8_isSilent_21 : decode cX8_isSilent 21 = .ok (.bipush 16, 2) := by decide +kernel
theorem dX8_isSilent_23 : decode cX8_isSilent 23 = .ok (.imul, 1) := by decide +kernel
theorem dX8_isSilent_24 : decode cX8_isSilent 24 = .ok (.iload_n 3, 1) := by decide +kernel
theorem dX8_isSilent_25 : decode cX8_isSilent 25 = .ok (.iload_n 1, 1) := by decide +kernel
theorem dX8_isSilent_26 : decode cX8_isSilent 26 = .ok (.iload_n 2, 1) := by decide +kernel
theorem dX8_isSilent_27 : decode cX8_isSilent 27 = .ok (.invokevirtual 111, 3) := by decide +kernel
theorem dX8_isSilent_30 : decode cX8_isSilent 30 = .ok (.iconst (-1), 1) := by decide +kernel
theorem dX8_isSilent_31 : decode cX8_isSilent 31 = .ok (.if_icmp .ne 6, 3) := by decide +kernel
theorem dX8_isSilent_34 : decode cX8_isSilent 34 = .ok (.goto 21, 3) := by decide +kernel
theorem dX8_isSilent_37 : decode cX8_isSilent 37 = .ok (.aload_n 0, 1) := by decide +kernel
theorem dX8_isSilent_38 : decode cX8_isSilent 38 = .ok (.iload_n 3, 1) := by decide +kernel
theorem dX8_isSilent_39 : decode cX8_isSilent 39 = .ok (.bipush 16, 2) := by decide +kernel
theorem dX8_isSilent_41 : decode cX8_isSilent 41 = .ok (.idiv, 1) := by decide +kernel
theorem dX8_isSilent_42 : decode cX8_isSilent 42 = .ok (.putfield 121, 3) := by decide +kernel
theorem dX8_isSilent_45 : decode cX8_isSilent 45 = .ok (.aload_n 0, 1) := by decide +kernel
theorem dX8_isSilent_46 : decode cX8_isSilent 46 = .ok (.iload_n 3, 1) := by decide +kernel
theorem dX8_isSilent_47 : decode cX8_isSilent 47 = .ok (.bipush 16, 2) := by decide +kernel
theorem dX8_isSilent_49 : decode cX8_isSilent 49 = .ok (.irem, 1) := by decide +kernel
theorem dX8_isSilent_50 : decode cX8_isSilent 50 = .ok (.putfield 124, 3) := by decide +kernel
theorem dX8_isSilent_53 : decode cX8_isSilent 53 = .ok (.iconst 0, 1) := by decide +kernel
theorem dX8_isSilent_54 : decode cX8_isSilent 54 = .ok (.ireturn, 1) := by decide +kernel
theorem dX8_isSilent_55 : decode cX8_isSilent 55 = .ok (.iinc 3 1, 3) := by decide +kernel
theorem dX8_isSilent_58 : decode cX8_isSilent 58 = .ok (.goto (-56), 3) := by decide +kernel
theorem dX8_isSilent_61 : decode cX8_isSilent 61 = .ok (.iconst 1, 1) := by decide +kernel
theorem dX8_isSilent_62 : decode cX8_isSilent 62 = .ok (.ireturn, 1) := by decide +kernel
theorem dX8_silent_0 : decode cX8_silent 0 = .ok (.aload_n 0, 1) := by decide +kernel
theorem dX8_silent_1 : decode cX8_silent 1 = .ok (.iconst 0, 1) := by decide +kernel
theorem dX8_silent_2 : decode cX8_silent 2 = .ok (.putfield 66, 3) := by decide +kernel
theorem dX8_silent_5 : decode cX8_silent 5 = .ok (.aload_n 0, 1) := by decide +kernel
theorem dX8_silent_6 : decode cX8_silent 6 = .ok (.invokevirtual 115, 3) := by decide +kernel
theorem dX8_silent_9 : decode cX8_silent 9 = .ok (.aload_n 0, 1) := by decide +kernel
theorem dX8_silent_10 : decode cX8_silent 10 = .ok (.aload_n 0, 1) := by decide +kernel
theorem dX8_silent_11 : decode cX8_silent 11 = .ok (.getfield 80, 3) := by decide +kernel
theorem dX8_silent_14 : decode cX8_silent 14 = .ok (.aload_n 0, 1) := by decide +kernel
theorem dX8_silent_15 : decode cX8_silent 15 = .ok (.getfield 19, 3) := by decide +kernel
theorem dX8_silent_18 : decode cX8_silent 18 = .ok (.invokevirtual 127, 3) := by decide +kernel
theorem dX8_silent_21 : decode cX8_silent 21 = .ok (.ireturn, 1) := by decide +kernel
theorem dX8_pair_0 : decode cX8_pair 0 = .ok (.aload_n 0, 1) := by decide +kernel
theorem dX8_pair_1 : decode cX8_pair 1 = .ok (.iconst 0, 1) := by decide +kernel
theorem dX8_pair_2 : decode cX8_pair 2 = .ok (.putfield 66, 3) := by decide +kernel
theorem dX8_pair_5 : decode cX8_pair 5 = .ok (.iload_n 1, 1) := by decide +kernel
theorem dX8_pair_6 : decode cX8_pair 6 = .ok (.ifCond .lt 8, 3) := by decide +kernel
theorem dX8_pair_9 : decode cX8_pair 9 = .ok (.iload_n 1, 1) := by decide +kernel
theorem dX8_pair_10 : decode cX8_pair 10 = .ok (.iconst 4, 1) := by decide +kernel
theorem dX8_pair_11 : decode cX8_pair 11 = .ok (.if_icmp .le 7, 3) := by decide +kernel
theorem dX8_pair_14 : decode cX8_pair 14 = .ok (.sipush (-1001), 3) := by decide +kernel
theorem dX8_pair_17 : decode cX8_pair 17 = .ok (.ireturn, 1) := by decide +kernel
theorem dX8_pair_18 : decode cX8_pair 18 = .ok (.aload_n 0, 1) := by decide +kernel
theorem dX8_pair_19 : decode cX8_pair 19 = .ok (.invokevirtual 115, 3) := by decide +kernel
theorem dX8_pair_22 : decode cX8_pair 22 = .ok (.aload_n 0, 1) := by decide +kernel
theorem dX8_pair_23 : decode cX8_pair 23 = .ok (.aload_n 0, 1) := by decide +kernel
theorem dX8_pair_24 : decode cX8_pair 24 = .ok (.getfield 80, 3) := by decide +kernel
theorem dX8_pair_27 : decode cX8_pair 27 = .ok (.aload_n 0, 1) := by decide +kernel
theorem dX8_pair_28 : decode cX8_pair 28 = .ok (.getfield 19, 3) := by decide +kernel
theorem dX8_pair_31 : decode cX8_pair 31 = .ok (.invokevirtual 127, 3) := by decide +kernel
theorem dX8_pair_34 : decode cX8_pair 34 = .ok (.ifCond .eq 7, 3) := by decide +kernel
theorem dX8_pair_37 : decode cX8_pair 37 = .ok (.sipush (-1001), 3) := by decide +kernel
theorem dX8_pair_40 : decode cX8_pair 40 = .ok (.ireturn, 1) := by decide +kernel
theorem dX8_pair_41 : decode cX8_pair 41 = .ok (.iload_n 1, 1) := by decide +kernel
theorem dX8_pair_42 : decode cX8_pair 42 = .ok (.ifCond .ne 8, 3) := by decide +kernel
theorem dX8_pair_45 : decode cX8_pair 45 = .ok (.aload_n 0, 1) := by decide +kernel
theorem dX8_pair_46 : decode cX8_pair 46 = .ok (.getfield 121, 3) := by decide +kernel
theorem dX8_pair_49 : decode cX8_pair 49 = .ok (.ireturn, 1) := by decide +kernel
theorem dX8_pair_50 : decode cX8_pair 50 = .ok (.iload_n 1, 1) := by decide +kernel
theorem dX8_pair_51 : decode cX8_pair 51 = .ok (.iconst 1, 1) := by decide +kernel
theorem dX8_pair_52 : decode cX8_pair 52 = .ok (.if_icmp .ne 8, 3) := by decide +kernel
theorem dX8_pair_55 : decode cX8_pair 55 = .ok (.aload_n 0, 1) := by decide +kernel
theorem dX8_pair_56 : decode cX8_pair 56 = .ok (.getfield 124, 3) := by decide +kernel
theorem dX8_pair_59 : decode cX8_pair 59 = .ok (.ireturn, 1) := by decide +kernel
theorem dX8_pair_60 : decode cX8_pair 60 = .ok (.aload_n 0, 1) := by decide +kernel
theorem dX8_pair_61 : decode cX8_pair 61 = .ok (.bipush 16, 2) := by decide +kernel
theorem dX8_pair_63 : decode cX8_pair 63 = .ok (.aload_n 0, 1) := by decide +kernel
theorem dX8_pair_64 : decode cX8_pair 64 = .ok (.getfield 121, 3) := by decide +kernel
theorem dX8_pair_67 : decode cX8_pair 67 = .ok (.imul, 1) := by decide +kernel
theorem dX8_pair_68 : decode cX8_pair 68 = .ok (.bipush 16, 2) := by decide +kernel
theorem dX8_pair_70 : decode cX8_pair 70 = .ok (.aload_n 0, 1) := by decide +kernel
theorem dX8_pair_71 : decode cX8_pair 71 = .ok (.getfield 121, 3) := by decide +kernel
theorem dX8_pair_74 : decode cX8_pair 74 = .ok (.imul, 1) := by decide +kernel
theorem dX8_pair_75 : decode cX8_pair 75 = .ok (.aload_n 0, 1) := by decide +kernel
theorem dX8_pair_76 : decode cX8_pair 76 = .ok (.getfield 124, 3) := by decide +kernel
theorem dX8_pair_79 : decode cX8_pair 79 = .ok (.iadd, 1) := by decide +kernel
theorem dX8_pair_80 : decode cX8_pair 80 = .ok (.aload_n 0, 1) := by decide +kernel
theorem dX8_pair_81 : decode cX8_pair 81 = .ok (.getfield 80, 3) := by decide +kernel
theorem dX8_pair_84 : decode cX8_pair 84 = .ok (.aload_n 0, 1) := by decide +kernel
theorem dX8_pair_85 : decode cX8_pair 85 = .ok (.getfield 19, 3) := by decide +kernel
theorem dX8_pair_88 : decode cX8_pair 88 = .ok (.invokevirtual 111, 3) := by decide +kernel
theorem dX8_pair_91 : decode cX8_pair 91 = .ok (.istore_n 2, 1) := by decide +kernel
theorem dX8_pair_92 : decode cX8_pair 92 = .ok (.iload_n 1, 1) := by decide +kernel
theorem dX8_pair_93 : decode cX8_pair 93 = .ok (.iconst 2, 1) := by decide +kernel
theorem dX8_pair_94 : decode cX8_pair 94 = .ok (.if_icmp .ne 5, 3) := by decide +kernel
theorem dX8_pair_97 : decode cX8_pair 97 = .ok (.iload_n 2, 1) := by decide +kernel
theorem dX8_pair_98 : decode cX8_pair 98 = .ok (.ireturn, 1) := by decide +kernel
theorem dX8_pair_99 : decode cX8_pair 99 = .ok (.iload_n 2, 1) := by decide +kernel
theorem dX8_pair_100 : decode cX8_pair 100 = .ok (.aload_n 0, 1) := by decide +kernel
theorem dX8_pair_101 : decode cX8_pair 101 = .ok (.getfield 51, 3) := by decide +kernel
theorem dX8_pair_104 : decode cX8_pair 104 = .ok (.iconst 0, 1) := by decide +kernel
theorem dX8_pair_105 : decode cX8_pair 105 = .ok (.iaload, 1) := by decide +kernel
theorem dX8_pair_106 : decode cX8_pair 106 = .ok (.if_icmp .ge 7, 3) := by decide +kernel
theorem dX8_pair_109 : decode cX8_pair 109 = .ok (.iload_n 2, 1) := by decide +kernel
theorem dX8_pair_110 : decode cX8_pair 110 = .ok (.goto 7, 3) := by decide +kernel
theorem dX8_pair_113 : decode cX8_pair 113 = .ok (.bipush 42, 2) := by decide +kernel
theorem dX8_pair_115 : decode cX8_pair 115 = .ok (.iload_n 2, 1) := by decide +kernel
end
section
theorem dX8_pair_116 : decode cX8_pair 116 = .ok (.iadd, 1) := by decide +kernel
theorem dX8_pair_117 : decode cX8_pair 117 = .ok (.istore_n 3, 1) := by decide +kernel
theorem dX8_pair_118 : decode cX8_pair 118 = .ok (.iload_n 1, 1) := by decide +kernel
theorem dX8_pair_119 : decode cX8_pair 119 = .ok (.iconst 3, 1) := by decide +kernel
theorem dX8_pair_120 : decode cX8_pair 120 = .ok (.if_icmp .ne 12, 3) := by decide +kernel
theorem dX8_pair_123 : decode cX8_pair 123 = .ok (.aload_n 0, 1) := by decide +kernel
theorem dX8_pair_124 : decode cX8_pair 124 = .ok (.getfield 60, 3) := by decide +kernel
theorem dX8_pair_127 : decode cX8_pair 127 = .ok (.iload_n 3, 1) := by decide +kernel
theorem dX8_pair_128 : decode cX8_pair 128 = .ok (.iaload, 1) := by decide +kernel
theorem dX8_pair_129 : decode cX8_pair 129 = .ok (.goto 9, 3) := by decide +kernel
theorem dX8_pair_132 : decode cX8_pair 132 = .ok (.aload_n 0, 1) := by decide +kernel
theorem dX8_pair_133 : decode cX8_pair 133 = .ok (.getfield 54, 3) := by decide +kernel
theorem dX8_pair_136 : decode cX8_pair 136 = .ok (.iload_n 3, 1) := by decide +kernel
theorem dX8_pair_137 : decode cX8_pair 137 = .ok (.iaload, 1) := by decide +kernel
theorem dX8_pair_138 : decode cX8_pair 138 = .ok (.ireturn, 1) := by decide +kernel
theorem dX8_ones_0 : decode cX8_ones 0 = .ok (.iconst 0, 1) := by decide +kernel
theorem dX8_ones_1 : decode cX8_ones 1 = .ok (.istore_n 2, 1) := by decide +kernel
theorem dX8_ones_2 : decode cX8_ones 2 = .ok (.iload_n 1, 1) := by decide +kernel
theorem dX8_ones_3 : decode cX8_ones 3 = .ok (.istore_n 3, 1) := by decide +kernel
theorem dX8_ones_4 : decode cX8_ones 4 = .ok (.iload_n 3, 1) := by decide +kernel
theorem dX8_ones_5 : decode cX8_ones 5 = .ok (.ifCond .eq 16, 3) := by decide +kernel
theorem dX8_ones_8 : decode cX8_ones 8 = .ok (.iload_n 2, 1) := by decide +kernel
theorem dX8_ones_9 : decode cX8_ones 9 = .ok (.iconst 1, 1) := by decide +kernel
theorem dX8_ones_10 : decode cX8_ones 10 = .ok (.iadd, 1) := by decide +kernel
theorem dX8_ones_11 : decode cX8_ones 11 = .ok (.istore_n 2, 1) := by decide +kernel
theorem dX8_ones_12 : decode cX8_ones 12 = .ok (.iload_n 3, 1) := by decide +kernel
theorem dX8_ones_13 : decode cX8_ones 13 = .ok (.iload_n 3, 1) := by decide +kernel
theorem dX8_ones_14 : decode cX8_ones 14 = .ok (.iconst 1, 1) := by decide +kernel
theorem dX8_ones_15 : decode cX8_ones 15 = .ok (.isub, 1) := by decide +kernel
theorem dX8_ones_16 : decode cX8_ones 16 = .ok (.iand, 1) := by decide +kernel
theorem dX8_ones_17 : decode cX8_ones 17 = .ok (.istore_n 3, 1) := by decide +kernel
theorem dX8_ones_18 : decode cX8_ones 18 = .ok (.goto (-14), 3) := by decide +kernel
theorem dX8_ones_21 : decode cX8_ones 21 = .ok (.iload_n 2, 1) := by decide +kernel
theorem dX8_ones_22 : decode cX8_ones 22 = .ok (.ireturn, 1) := by decide +kernel
theorem dX8_priceOf_0 : decode cX8_priceOf 0 = .ok (.iconst 0, 1) := by decide +kernel
theorem dX8_priceOf_1 : decode cX8_priceOf 1 = .ok (.istore_n 2, 1) := by decide +kernel
theorem dX8_priceOf_2 : decode cX8_priceOf 2 = .ok (.iconst 0, 1) := by decide +kernel
theorem dX8_priceOf_3 : decode cX8_priceOf 3 = .ok (.istore_n 3, 1) := by decide +kernel
theorem dX8_priceOf_4 : decode cX8_priceOf 4 = .ok (.iload_n 3, 1) := by decide +kernel
theorem dX8_priceOf_5 : decode cX8_priceOf 5 = .ok (.aload_n 0, 1) := by decide +kernel
theorem dX8_priceOf_6 : decode cX8_priceOf 6 = .ok (.getfield 70, 3) := by decide +kernel
theorem dX8_priceOf_9 : decode cX8_priceOf 9 = .ok (.if_icmp .ge 27, 3) := by decide +kernel
theorem dX8_priceOf_12 : decode cX8_priceOf 12 = .ok (.iload_n 1, 1) := by decide +kernel
theorem dX8_priceOf_13 : decode cX8_priceOf 13 = .ok (.iload_n 3, 1) := by decide +kernel
theorem dX8_priceOf_14 : decode cX8_priceOf 14 = .ok (.ishr, 1) := by decide +kernel
theorem dX8_priceOf_15 : decode cX8_priceOf 15 = .ok (.iconst 1, 1) := by decide +kernel
theorem dX8_priceOf_16 : decode cX8_priceOf 16 = .ok (.iand, 1) := by decide +kernel
theorem dX8_priceOf_17 : decode cX8_priceOf 17 = .ok (.iconst 1, 1) := by decide +kernel
theorem dX8_priceOf_18 : decode cX8_priceOf 18 = .ok (.if_icmp .ne 12, 3) := by decide +kernel
theorem dX8_priceOf_21 : decode cX8_priceOf 21 = .ok (.iload_n 2, 1) := by decide +kernel
theorem dX8_priceOf_22 : decode cX8_priceOf 22 = .ok (.aload_n 0, 1) := by decide +kernel
theorem dX8_priceOf_23 : decode cX8_priceOf 23 = .ok (.getfield 13, 3) := by decide +kernel
theorem dX8_priceOf_26 : decode cX8_priceOf 26 = .ok (.iload_n 3, 1) := by decide +kernel
theorem dX8_priceOf_27 : decode cX8_priceOf 27 = .ok (.iaload, 1) := by decide +kernel
theorem dX8_priceOf_28 : decode cX8_priceOf 28 = .ok (.iadd, 1) := by decide +kernel
theorem dX8_priceOf_29 : decode cX8_priceOf 29 = .ok (.istore_n 2, 1) := by decide +kernel
theorem dX8_priceOf_30 : decode cX8_priceOf 30 = .ok (.iinc 3 1, 3) := by decide +kernel
theorem dX8_priceOf_33 : decode cX8_priceOf 33 = .ok (.goto (-29), 3) := by decide +kernel
theorem dX8_priceOf_36 : decode cX8_priceOf 36 = .ok (.iload_n 2, 1) := by decide +kernel
theorem dX8_priceOf_37 : decode cX8_priceOf 37 = .ok (.ireturn, 1) := by decide +kernel
theorem dX8_cure_0 : decode cX8_cure 0 = .ok (.aload_n 0, 1) := by decide +kernel
theorem dX8_cure_1 : decode cX8_cure 1 = .ok (.iconst 0, 1) := by decide +kernel
theorem dX8_cure_2 : decode cX8_cure 2 = .ok (.putfield 66, 3) := by decide +kernel
theorem dX8_cure_5 : decode cX8_cure 5 = .ok (.iload_n 1, 1) := by decide +kernel
theorem dX8_cure_6 : decode cX8_cure 6 = .ok (.ifCond .lt 8, 3) := by decide +kernel
theorem dX8_cure_9 : decode cX8_cure 9 = .ok (.iload_n 1, 1) := by decide +kernel
theorem dX8_cure_10 : decode cX8_cure 10 = .ok (.iconst 2, 1) := by decide +kernel
theorem dX8_cure_11 : decode cX8_cure 11 = .ok (.if_icmp .le 5, 3) := by decide +kernel
theorem dX8_cure_14 : decode cX8_cure 14 = .ok (.iconst (-1), 1) := by decide +kernel
theorem dX8_cure_15 : decode cX8_cure 15 = .ok (.ireturn, 1) := by decide +kernel
theorem dX8_cure_16 : decode cX8_cure 16 = .ok (.aload_n 0, 1) := by decide +kernel
theorem dX8_cure_17 : decode cX8_cure 17 = .ok (.invokevirtual 115, 3) := by decide +kernel
theorem dX8_cure_20 : decode cX8_cure 20 = .ok (.iconst (-1), 1) := by decide +kernel
theorem dX8_cure_21 : decode cX8_cure 21 = .ok (.istore_n 2, 1) := by decide +kernel
theorem dX8_cure_22 : decode cX8_cure 22 = .ok (.iconst 0, 1) := by decide +kernel
theorem dX8_cure_23 : decode cX8_cure 23 = .ok (.istore_n 3, 1) := by decide +kernel
theorem dX8_cure_24 : decode cX8_cure 24 = .ok (.iconst 0, 1) := by decide +kernel
theorem dX8_cure_25 : decode cX8_cure 25 = .ok (.istore 4, 2) := by decide +kernel
theorem dX8_cure_27 : decode cX8_cure 27 = .ok (.iload 4, 2) := by decide +kernel
theorem dX8_cure_29 : decode cX8_cure 29 = .ok (.iconst 1, 1) := by decide +kernel
theorem dX8_cure_30 : decode cX8_cure 30 = .ok (.aload_n 0, 1) := by decide +kernel
theorem dX8_cure_31 : decode cX8_cure 31 = .ok (.getfield 70, 3) := by decide +kernel
theorem dX8_cure_34 : decode cX8_cure 34 = .ok (.ishl, 1) := by decide +kernel
theorem dX8_cure_35 : decode cX8_cure 35 = .ok (.if_icmp .ge 82, 3) := by decide +kernel
theorem dX8_cure_38 : decode cX8_cure 38 = .ok (.aload_n 0, 1) := by decide +kernel
theorem dX8_cure_39 : decode cX8_cure 39 = .ok (.iload 4, 2) := by decide +kernel
theorem dX8_cure_41 : decode cX8_cure 41 = .ok (.aload_n 0, 1) := by decide +kernel
theorem dX8_cure_42 : decode cX8_cure 42 = .ok (.getfield 19, 3) := by decide +kernel
theorem dX8_cure_45 : decode cX8_cure 45 = .ok (.bipush 7, 2) := by decide +kernel
theorem dX8_cure_47 : decode cX8_cure 47 = .ok (.iand, 1) := by decide +kernel
theorem dX8_cure_48 : decode cX8_cure 48 = .ok (.invokevirtual 127, 3) := by decide +kernel
theorem dX8_cure_51 : decode cX8_cure 51 = .ok (.ifCond .ne 6, 3) := by decide +kernel
theorem dX8_cure_54 : decode cX8_cure 54 = .ok (.goto 57, 3) := by decide +kernel
theorem dX8_cure_57 : decode cX8_cure 57 = .ok (.iload_n 3, 1) := by decide +kernel
theorem dX8_cure_58 : decode cX8_cure 58 = .ok (.iconst 1, 1) := by decide +kernel
theorem dX8_cure_59 : decode cX8_cure 59 = .ok (.iadd, 1) := by decide +kernel
theorem dX8_cure_60 : decode cX8_cure 60 = .ok (.istore_n 3, 1) := by decide +kernel
theorem dX8_cure_61 : decode cX8_cure 61 = .ok (.iload_n 2, 1) := by decide +kernel
theorem dX8_cure_62 : decode cX8_cure 62 = .ok (.iconst (-1), 1) := by decide +kernel
theorem dX8_cure_63 : decode cX8_cure 63 = .ok (.if_icmp .ne 7, 3) := by decide +kernel
theorem dX8_cure_66 : decode cX8_cure 66 = .ok (.iconst (-1), 1) := by decide +kernel
theorem dX8_cure_67 : decode cX8_cure 67 = .ok (.goto 15, 3) := by decide +kernel
theorem dX8_cure_70 : decode cX8_cure 70 = .ok (.aload_n 0, 1) := by decide +kernel
theorem dX8_cure_71 : decode cX8_cure 71 = .ok (.iload 4, 2) := by decide +kernel
theorem dX8_cure_73 : decode cX8_cure 73 = .ok (.invokevirtual 131, 3) := by decide +kernel
theorem dX8_cure_76 : decode cX8_cure 76 = .ok (.aload_n 0, 1) := by decide +kernel
theorem dX8_cure_77 : decode cX8_cure 77 = .ok (.iload_n 2, 1) := by decide +kernel
theorem dX8_cure_78 : decode cX8_cure 78 = .ok (.invokevirtual 131, 3) := by decide +kernel
theorem dX8_cure_81 : decode cX8_cure 81 = .ok (.isub, 1) := by decide +kernel
theorem dX8_cure_82 : decode cX8_cure 82 = .ok (.istore 5, 2) := by decide +kernel
theorem dX8_cure_84 : decode cX8_cure 84 = .ok (.iload 5, 2) := by decide +kernel
theorem dX8_cure_86 : decode cX8_cure 86 = .ok (.ifCond .lt 22, 3) := by decide +kernel
theorem dX8_cure_89 : decode cX8_cure 89 = .ok (.iload 5, 2) := by decide +kernel
theorem dX8_cure_91 : decode cX8_cure 91 = .ok (.ifCond .ne 20, 3) := by decide +kernel
theorem dX8_cure_94 : decode cX8_cure 94 = .ok (.aload_n 0, 1) := by decide +kernel
theorem dX8_cure_95 : decode cX8_cure 95 = .ok (.iload 4, 2) := by decide +kernel
theorem dX8_cure_97 : decode cX8_cure 97 = .ok (.invokevirtual 134, 3) := by decide +kernel
theorem dX8_cure_100 : decode cX8_cure 100 = .ok (.aload_n 0, 1) := by decide +kernel
theorem dX8_cure_101 : decode cX8_cure 101 = .ok (.iload_n 2, 1) := by decide +kernel
theorem dX8_cure_102 : decode cX8_cure 102 = .ok (.invokevirtual 134, 3) := by decide +kernel
theorem dX8_cure_105 : decode cX8_cure 105 = .ok (.if_icmp .ge 6, 3) := by decide +kernel
theorem dX8_cure_108 : decode cX8_cure 108 = .ok (.iload 4, 2) := by decide +kernel
theorem dX8_cure_110 : decode cX8_cure 110 = .ok (.istore_n 2, 1) := by decide +kernel
theorem dX8_cure_111 : decode cX8_cure 111 = .ok (.iinc 4 1, 3) := by decide +kernel
theorem dX8_cure_114 : decode cX8_cure 114 = .ok (.goto (-87), 3) := by decide +kernel
theorem dX8_cure_117 : decode cX8_cure 117 = .ok (.iload_n 2, 1) := by decide +kernel
theorem dX8_cure_118 : decode cX8_cure 118 = .ok (.iconst (-1), 1) := by decide +kernel
theorem dX8_cure_119 : decode cX8_cure 119 = .ok (.if_icmp .ne 5, 3) := by decide +kernel
theorem dX8_cure_122 : decode cX8_cure 122 = .ok (.iconst (-1), 1) := by decide +kernel
theorem dX8_cure_123 : decode cX8_cure 123 = .ok (.ireturn, 1) := by decide +kernel
theorem dX8_cure_124 : decode cX8_cure 124 = .ok (.iload_n 1, 1) := by decide +kernel
theorem dX8_cure_125 : decode cX8_cure 125 = .ok (.ifCond .ne 11, 3) := by decide +kernel
theorem dX8_cure_128 : decode cX8_cure 128 = .ok (.aload_n 0, 1) := by decide +kernel
theorem dX8_cure_129 : decode cX8_cure 129 = .ok (.iload_n 2, 1) := by decide +kernel
theorem dX8_cure_130 : decode cX8_cure 130 = .ok (.invokevirtual 131, 3) := by decide +kernel
theorem dX8_cure_133 : decode cX8_cure 133 = .ok (.goto 13, 3) := by decide +kernel
theorem dX8_cure_136 : decode cX8_cure 136 = .ok (.iload_n 1, 1) := by decide +kernel
theorem dX8_cure_137 : decode cX8_cure 137 = .ok (.iconst 1, 1) := by decide +kernel
theorem dX8_cure_138 : decode cX8_cure 138 = .ok (.if_icmp .ne 7, 3) := by decide +kernel
theorem dX8_cure_141 : decode cX8_cure 141 = .ok (.iload_n 2, 1) := by decide +kernel
theorem dX8_cure_142 : decode cX8_cure 142 = .ok (.goto 4, 3) := by decide +kernel
theorem dX8_cure_145 : decode cX8_cure 145 = .ok (.iload_n 3, 1) := by decide +kernel
theorem dX8_cure_146 : decode cX8_cure 146 = .ok (.ireturn, 1) := by decide +kernel
theorem dX8_reached_0 : decode cX8_reached 0 = .ok (.aload_n 0, 1) := by decide +kernel
theorem dX8_reached_1 : decode cX8_reached 1 = .ok (.iconst 0, 1) := by decide +kernel
theorem dX8_reached_2 : decode cX8_reached 2 = .ok (.putfield 66, 3) := by decide +kernel
theorem dX8_reached_5 : decode cX8_reached 5 = .ok (.aload_n 0, 1) := by decide +kernel
theorem dX8_reached_6 : decode cX8_reached 6 = .ok (.invokevirtual 115, 3) := by decide +kernel
theorem dX8_reached_9 : decode cX8_reached 9 = .ok (.iconst 0, 1) := by decide +kernel
theorem dX8_reached_10 : decode cX8_reached 10 = .ok (.istore_n 1, 1) := by decide +kernel
theorem dX8_reached_11 : decode cX8_reached 11 = .ok (.iconst 0, 1) := by decide +kernel
theorem dX8_reached_12 : decode cX8_reached 12 = .ok (.istore_n 2, 1) := by decide +kernel
theorem dX8_reached_13 : decode cX8_reached 13 = .ok (.iload_n 2, 1) := by decide +kernel
theorem dX8_reached_14 : decode cX8_reached 14 = .ok (.sipush 256, 3) := by decide +kernel
theorem dX8_reached_17 : decode cX8_reached 17 = .ok (.if_icmp .ge 46, 3) := by decide +kernel
theorem dX8_reached_20 : decode cX8_reached 20 = .ok (.bipush 40, 2) := by decide +kernel
theorem dX8_reached_22 : decode cX8_reached 22 = .ok (.iload_n 2, 1) := by decide +kernel
theorem dX8_reached_23 : decode cX8_reached 23 = .ok (.imul, 1) := by decide +kernel
theorem dX8_reached_24 : decode cX8_reached 24 = .ok (.istore_n 3, 1) := by decide +kernel
theorem dX8_reached_25 : decode cX8_reached 25 = .ok (.iload_n 3, 1) := by decide +kernel
theorem dX8_reached_26 : decode cX8_reached 26 = .ok (.bipush 40, 2) := by decide +kernel
theorem dX8_reached_28 : decode cX8_reached 28 = .ok (.iload_n 2, 1) := by decide +kernel
theorem dX8_reached_29 : decode cX8_reached 29 = .ok (.imul, 1) := by decide +kernel
theorem dX8_reached_30 : decode cX8_reached 30 = .ok (.aload_n 0, 1) := by decide +kernel
theorem dX8_reached_31 : decode cX8_reached 31 = .ok (.getfield 32, 3) := by decide +kernel
theorem dX8_reached_34 : decode cX8_reached 34 = .ok (.iload_n 2, 1) := by decide +kernel
theorem dX8_reached_35 : decode cX8_reached 35 = .ok (.iaload, 1) := by decide +kernel
theorem dX8_reached_36 : decode cX8_reached 36 = .ok (.iadd, 1) := by decide +kernel
theorem dX8_reached_37 : decode cX8_reached 37 = .ok (.if_icmp .ge 20, 3) := by decide +kernel
theorem dX8_reached_40 : decode cX8_reached 40 = .ok (.iload_n 1, 1) := by decide +kernel
theorem dX8_reached_41 : decode cX8_reached 41 = .ok (.iconst 1, 1) := by decide +kernel
theorem dX8_reached_42 : decode cX8_reached 42 = .ok (.aload_n 0, 1) := by decide +kernel
theorem dX8_reached_43 : decode cX8_reached 43 = .ok (.getfield 42, 3) := by decide +kernel
theorem dX8_reached_46 : decode cX8_reached 46 = .ok (.iload_n 3, 1) := by decide +kernel
theorem dX8_reached_47 : decode cX8_reached 47 = .ok (.iaload, 1) := by decide +kernel
theorem dX8_reached_48 : decode cX8_reached 48 = .ok (.ishl, 1) := by decide +kernel
theorem dX8_reached_49 : decode cX8_reached 49 = .ok (.ior, 1) := by decide +kernel
theorem dX8_reached_50 : decode cX8_reached 50 = .ok (.istore_n 1, 1) := by decide +kernel
theorem dX8_reached_51 : decode cX8_reached 51 = .ok (.iinc 3 1, 3) := by decide +kernel
theorem dX8_reached_54 : decode cX8_reached 54 = .ok (.goto (-29), 3) := by decide +kernel
theorem dX8_reached_57 : decode cX8_reached 57 = .ok (.iinc 2 1, 3) := by decide +kernel
theorem dX8_reached_60 : decode cX8_reached 60 = .ok (.goto (-47), 3) := by decide +kernel
theorem dX8_reached_63 : decode cX8_reached 63 = .ok (.iload_n 1, 1) := by decide +kernel
theorem dX8_reached_64 : decode cX8_reached 64 = .ok (.ireturn, 1) := by decide +kernel
theorem dX8_tellers_0 : decode cX8_tellers 0 = .ok (.aload_n 0, 1) := by decide +kernel
theorem dX8_tellers_1 : decode cX8_tellers 1 = .ok (.iconst 0, 1) := by decide +kernel
theorem dX8_tellers_2 : decode cX8_tellers 2 = .ok (.putfield 66, 3) := by decide +kernel
theorem dX8_tellers_5 : decode cX8_tellers 5 = .ok (.aload_n 0, 1) := by decide +kernel
theorem dX8_tellers_6 : decode cX8_tellers 6 = .ok (.invokevirtual 115, 3) := by decide +kernel
theorem dX8_tellers_9 : decode cX8_tellers 9 = .ok (.iconst 1, 1) := by decide +kernel
theorem dX8_tellers_10 : decode cX8_tellers 10 = .ok (.aload_n 0, 1) := by decide +kernel
theorem dX8_tellers_11 : decode cX8_tellers 11 = .ok (.getfield 70, 3) := by decide +kernel
theorem dX8_tellers_14 : decode cX8_tellers 14 = .ok (.ishl, 1) := by decide +kernel
theorem dX8_tellers_15 : decode cX8_tellers 15 = .ok (.iconst 1, 1) := by decide +kernel
theorem dX8_tellers_16 : decode cX8_tellers 16 = .ok (.isub, 1) := by decide +kernel
theorem dX8_tellers_17 : decode cX8_tellers 17 = .ok (.istore_n 1, 1) := by decide +kernel
theorem dX8_tellers_18 : decode cX8_tellers 18 = .ok (.iconst 0, 1) := by decide +kernel
theorem dX8_tellers_19 : decode cX8_tellers 19 = .ok (.istore_n 2, 1) := by decide +kernel
theorem dX8_tellers_20 : decode cX8_tellers 20 = .ok (.iconst 0, 1) := by decide +kernel
theorem dX8_tellers_21 : decode cX8_tellers 21 = .ok (.istore_n 3, 1) := by decide +kernel
theorem dX8_tellers_22 : decode cX8_tellers 22 = .ok (.iload_n 3, 1) := by decide +kernel
theorem dX8_tellers_23 : decode cX8_tellers 23 = .ok (.aload_n 0, 1) := by decide +kernel
theorem dX8_tellers_24 : decode cX8_tellers 24 = .ok (.getfield 70, 3) := by decide +kernel
theorem dX8_tellers_27 : decode cX8_tellers 27 = .ok (.if_icmp .ge 36, 3) := by decide +kernel
theorem dX8_tellers_30 : decode cX8_tellers 30 = .ok (.aload_n 0, 1) := by decide +kernel
theorem dX8_tellers_31 : decode cX8_tellers 31 = .ok (.iload_n 1, 1) := by decide +kernel
theorem dX8_tellers_32 : decode cX8_tellers 32 = .ok (.iconst 1, 1) := by decide +kernel
theorem dX8_tellers_33 : decode cX8_tellers 33 = .ok (.iload_n 3, 1) := by decide +kernel
theorem dX8_tellers_34 : decode cX8_tellers 34 = .ok (.ishl, 1) := by decide +kernel
theorem dX8_tellers_35 : decode cX8_tellers 35 = .ok (.iconst (-1), 1) := by decide +kernel
theorem dX8_tellers_36 : decode cX8_tellers 36 = .ok (.ixor, 1) := by decide +kernel
theorem dX8_tellers_37 : decode cX8_tellers 37 = .ok (.iand, 1) := by decide +kernel
theorem dX8_tellers_38 : decode cX8_tellers 38 = .ok (.aload_n 0, 1) := by decide +kernel
theorem dX8_tellers_39 : decode cX8_tellers 39 = .ok (.getfield 19, 3) := by decide +kernel
theorem dX8_tellers_42 : decode cX8_tellers 42 = .ok (.bipush 7, 2) := by decide +kernel
theorem dX8_tellers_44 : decode cX8_tellers 44 = .ok (.iand, 1) := by decide +kernel
theorem dX8_tellers_45 : decode cX8_tellers 45 = .ok (.invokevirtual 127, 3) := by decide +kernel
theorem dX8_tellers_48 : decode cX8_tellers 48 = .ok (.ifCond .ne 9, 3) := by decide +kernel
theorem dX8_tellers_51 : decode cX8_tellers 51 = .ok (.iload_n 2, 1) := by decide +kernel
theorem dX8_tellers_52 : decode cX8_tellers 52 = .ok (.iconst 1, 1) := by decide +kernel
theorem dX8_tellers_53 : decode cX8_tellers 53 = .ok (.iload_n 3, 1) := by decide +kernel
theorem dX8_tellers_54 : decode cX8_tellers 54 = .ok (.ishl, 1) := by decide +kernel
theorem dX8_tellers_55 : decode cX8_tellers 55 = .ok (.ior, 1) := by decide +kernel
theorem dX8_tellers_56 : decode cX8_tellers 56 = .ok (.istore_n 2, 1) := by decide +kernel
theorem dX8_tellers_57 : decode cX8_tellers 57 = .ok (.iinc 3 1, 3) := by decide +kernel
theorem dX8_tellers_60 : decode cX8_tellers 60 = .ok (.goto (-38), 3) := by decide +kernel
theorem dX8_tellers_63 : decode cX8_tellers 63 = .ok (.iload_n 2, 1) := by decide +kernel
theorem dX8_tellers_64 : decode cX8_tellers 64 = .ok (.ireturn, 1) := by decide +kernel
theorem dJ6_numberOfLeadingZeros_0f7a4_0 : decode cJ6_numberOfLeadingZeros_0f7a4 0 = .ok (.iload_n 0, 1) := by decide +kernel
theorem dJ6_numberOfLeadingZeros_0f7a4_1 : decode cJ6_numberOfLeadingZeros_0f7a4 1 = .ok (.ifCond .gt 14, 3) := by decide +kernel
theorem dJ6_numberOfLeadingZeros_0f7a4_4 : decode cJ6_numberOfLeadingZeros_0f7a4 4 = .ok (.iload_n 0, 1) := by decide +kernel
theorem dJ6_numberOfLeadingZeros_0f7a4_5 : decode cJ6_numberOfLeadingZeros_0f7a4 5 = .ok (.ifCond .ne 8, 3) := by decide +kernel
theorem dJ6_numberOfLeadingZeros_0f7a4_8 : decode cJ6_numberOfLeadingZeros_0f7a4 8 = .ok (.bipush 32, 2) := by decide +kernel
theorem dJ6_numberOfLeadingZeros_0f7a4_10 : decode cJ6_numberOfLeadingZeros_0f7a4 10 = .ok (.goto 4, 3) := by decide +kernel
theorem dJ6_numberOfLeadingZeros_0f7a4_13 : decode cJ6_numberOfLeadingZeros_0f7a4 13 = .ok (.iconst 0, 1) := by decide +kernel
theorem dJ6_numberOfLeadingZeros_0f7a4_14 : decode cJ6_numberOfLeadingZeros_0f7a4 14 = .ok (.ireturn, 1) := by decide +kernel
theorem dJ6_numberOfLeadingZeros_0f7a4_15 : decode cJ6_numberOfLeadingZeros_0f7a4 15 = .ok (.bipush 31, 2) := by decide +kernel
theorem dJ6_numberOfLeadingZeros_0f7a4_17 : decode cJ6_numberOfLeadingZeros_0f7a4 17 = .ok (.istore_n 1, 1) := by decide +kernel
theorem dJ6_numberOfLeadingZeros_0f7a4_18 : decode cJ6_numberOfLeadingZeros_0f7a4 18 = .ok (.iload_n 0, 1) := by decide +kernel
theorem dJ6_numberOfLeadingZeros_0f7a4_19 : decode cJ6_numberOfLeadingZeros_0f7a4 19 = .ok (.ldc_w 264, 3) := by decide +kernel
theorem dJ6_numberOfLeadingZeros_0f7a4_22 : decode cJ6_numberOfLeadingZeros_0f7a4 22 = .ok (.if_icmp .lt 11, 3) := by decide +kernel
theorem dJ6_numberOfLeadingZeros_0f7a4_25 : decode cJ6_numberOfLeadingZeros_0f7a4 25 = .ok (.iinc 1 (-16), 3) := by decide +kernel
theorem dJ6_numberOfLeadingZeros_0f7a4_28 : decode cJ6_numberOfLeadingZeros_0f7a4 28 = .ok (.iload_n 0, 1) := by decide +kernel
theorem dJ6_numberOfLeadingZeros_0f7a4_29 : decode cJ6_numberOfLeadingZeros_0f7a4 29 = .ok (.bipush 16, 2) := by decide +kernel
theorem dJ6_numberOfLeadingZeros_0f7a4_31 : decode cJ6_numberOfLeadingZeros_0f7a4 31 = .ok (.iushr, 1) := by decide +kernel
theorem dJ6_numberOfLeadingZeros_0f7a4_32 : decode cJ6_numberOfLeadingZeros_0f7a4 32 = .ok (.istore_n 0, 1) := by decide +kernel
theorem dJ6_numberOfLeadingZeros_0f7a4_33 : decode cJ6_numberOfLeadingZeros_0f7a4 33 = .ok (.iload_n 0, 1) := by decide +kernel
theorem dJ6_numberOfLeadingZeros_0f7a4_34 : decode cJ6_numberOfLeadingZeros_0f7a4 34 = .ok (.sipush 256, 3) := by decide +kernel
theorem dJ6_numberOfLeadingZeros_0f7a4_37 : decode cJ6_numberOfLeadingZeros_0f7a4 37 = .ok (.if_icmp .lt 11, 3) := by decide +kernel
theorem dJ6_numberOfLeadingZeros_0f7a4_40 : decode cJ6_numberOfLeadingZeros_0f7a4 40 = .ok (.iinc 1 (-8), 3) := by decide +kernel
theorem dJ6_numberOfLeadingZeros_0f7a4_43 : decode cJ6_numberOfLeadingZeros_0f7a4 43 = .ok (.iload_n 0, 1) := by decide +kernel
theorem dJ6_numberOfLeadingZeros_0f7a4_44 : decode cJ6_numberOfLeadingZeros_0f7a4 44 = .ok (.bipush 8, 2) := by decide +kernel
theorem dJ6_numberOfLeadingZeros_0f7a4_46 : decode cJ6_numberOfLeadingZeros_0f7a4 46 = .ok (.iushr, 1) := by decide +kernel
theorem dJ6_numberOfLeadingZeros_0f7a4_47 : decode cJ6_numberOfLeadingZeros_0f7a4 47 = .ok (.istore_n 0, 1) := by decide +kernel
theorem dJ6_numberOfLeadingZeros_0f7a4_48 : decode cJ6_numberOfLeadingZeros_0f7a4 48 = .ok (.iload_n 0, 1) := by decide +kernel
theorem dJ6_numberOfLeadingZeros_0f7a4_49 : decode cJ6_numberOfLeadingZeros_0f7a4 49 = .ok (.bipush 16, 2) := by decide +kernel
theorem dJ6_numberOfLeadingZeros_0f7a4_51 : decode cJ6_numberOfLeadingZeros_0f7a4 51 = .ok (.if_icmp .lt 10, 3) := by decide +kernel
theorem dJ6_numberOfLeadingZeros_0f7a4_54 : decode cJ6_numberOfLeadingZeros_0f7a4 54 = .ok (.iinc 1 (-4), 3) := by decide +kernel
theorem dJ6_numberOfLeadingZeros_0f7a4_57 : decode cJ6_numberOfLeadingZeros_0f7a4 57 = .ok (.iload_n 0, 1) := by decide +kernel
theorem dJ6_numberOfLeadingZeros_0f7a4_58 : decode cJ6_numberOfLeadingZeros_0f7a4 58 = .ok (.iconst 4, 1) := by decide +kernel
theorem dJ6_numberOfLeadingZeros_0f7a4_59 : decode cJ6_numberOfLeadingZeros_0f7a4 59 = .ok (.iushr, 1) := by decide +kernel
theorem dJ6_numberOfLeadingZeros_0f7a4_60 : decode cJ6_numberOfLeadingZeros_0f7a4 60 = .ok (.istore_n 0, 1) := by decide +kernel
theorem dJ6_numberOfLeadingZeros_0f7a4_61 : decode cJ6_numberOfLeadingZeros_0f7a4 61 = .ok (.iload_n 0, 1) := by decide +kernel
theorem dJ6_numberOfLeadingZeros_0f7a4_62 : decode cJ6_numberOfLeadingZeros_0f7a4 62 = .ok (.iconst 4, 1) := by decide +kernel
theorem dJ6_numberOfLeadingZeros_0f7a4_63 : decode cJ6_numberOfLeadingZeros_0f7a4 63 = .ok (.if_icmp .lt 10, 3) := by decide +kernel
theorem dJ6_numberOfLeadingZeros_0f7a4_66 : decode cJ6_numberOfLeadingZeros_0f7a4 66 = .ok (.iinc 1 (-2), 3) := by decide +kernel
theorem dJ6_numberOfLeadingZeros_0f7a4_69 : decode cJ6_numberOfLeadingZeros_0f7a4 69 = .ok (.iload_n 0, 1) := by decide +kernel
theorem dJ6_numberOfLeadingZeros_0f7a4_70 : decode cJ6_numberOfLeadingZeros_0f7a4 70 = .ok (.iconst 2, 1) := by decide +kernel
theorem dJ6_numberOfLeadingZeros_0f7a4_71 : decode cJ6_numberOfLeadingZeros_0f7a4 71 = .ok (.iushr, 1) := by decide +kernel
theorem dJ6_numberOfLeadingZeros_0f7a4_72 : decode cJ6_numberOfLeadingZeros_0f7a4 72 = .ok (.istore_n 0, 1) := by decide +kernel
theorem dJ6_numberOfLeadingZeros_0f7a4_73 : decode cJ6_numberOfLeadingZeros_0f7a4 73 = .ok (.iload_n 1, 1) := by decide +kernel
theorem dJ6_numberOfLeadingZeros_0f7a4_74 : decode cJ6_numberOfLeadingZeros_0f7a4 74 = .ok (.iload_n 0, 1) := by decide +kernel
theorem dJ6_numberOfLeadingZeros_0f7a4_75 : decode cJ6_numberOfLeadingZeros_0f7a4 75 = .ok (.iconst 1, 1) := by decide +kernel
theorem dJ6_numberOfLeadingZeros_0f7a4_76 : decode cJ6_numberOfLeadingZeros_0f7a4 76 = .ok (.iushr, 1) := by decide +kernel
theorem dJ6_numberOfLeadingZeros_0f7a4_77 : decode cJ6_numberOfLeadingZeros_0f7a4 77 = .ok (.isub, 1) := by decide +kernel
theorem dJ6_numberOfLeadingZeros_0f7a4_78 : decode cJ6_numberOfLeadingZeros_0f7a4 78 = .ok (.ireturn, 1) := by decide +kernel
theorem dJ6_bitCount_0f7a4_0 : decode cJ6_bitCount_0f7a4 0 = .ok (.iload_n 0, 1) := by decide +kernel
theorem dJ6_bitCount_0f7a4_1 : decode cJ6_bitCount_0f7a4 1 = .ok (.iload_n 0, 1) := by decide +kernel
theorem dJ6_bitCount_0f7a4_2 : decode cJ6_bitCount_0f7a4 2 = .ok (.iconst 1, 1) := by decide +kernel
theorem dJ6_bitCount_0f7a4_3 : decode cJ6_bitCount_0f7a4 3 = .ok (.iushr, 1) := by decide +kernel
theorem dJ6_bitCount_0f7a4_4 : decode cJ6_bitCount_0f7a4 4 = .ok (.ldc_w 265, 3) := by decide +kernel
theorem dJ6_bitCount_0f7a4_7 : decode cJ6_bitCount_0f7a4 7 = .ok (.iand, 1) := by decide +kernel
theorem dJ6_bitCount_0f7a4_8 : decode cJ6_bitCount_0f7a4 8 = .ok (.isub, 1) := by decide +kernel
theorem dJ6_bitCount_0f7a4_9 : decode cJ6_bitCount_0f7a4 9 = .ok (.istore_n 0, 1) := by decide +kernel
theorem dJ6_bitCount_0f7a4_10 : decode cJ6_bitCount_0f7a4 10 = .ok (.iload_n 0, 1) := by decide +kernel
theorem dJ6_bitCount_0f7a4_11 : decode cJ6_bitCount_0f7a4 11 = .ok (.ldc_w 266, 3) := by decide +kernel
theorem dJ6_bitCount_0f7a4_14 : decode cJ6_bitCount_0f7a4 14 = .ok (.iand, 1) := by decide +kernel
theorem dJ6_bitCount_0f7a4_15 : decode cJ6_bitCount_0f7a4 15 = .ok (.iload_n 0, 1) := by decide +kernel
theorem dJ6_bitCount_0f7a4_16 : decode cJ6_bitCount_0f7a4 16 = .ok (.iconst 2, 1) := by decide +kernel
theorem dJ6_bitCount_0f7a4_17 : decode cJ6_bitCount_0f7a4 17 = .ok (.iushr, 1) := by decide +kernel
theorem dJ6_bitCount_0f7a4_18 : decode cJ6_bitCount_0f7a4 18 = .ok (.ldc_w 266, 3) := by decide +kernel
theorem dJ6_bitCount_0f7a4_21 : decode cJ6_bitCount_0f7a4 21 = .ok (.iand, 1) := by decide +kernel
theorem dJ6_bitCount_0f7a4_22 : decode cJ6_bitCount_0f7a4 22 = .ok (.iadd, 1) := by decide +kernel
theorem dJ6_bitCount_0f7a4_23 : decode cJ6_bitCount_0f7a4 23 = .ok (.istore_n 0, 1) := by decide +kernel
theorem dJ6_bitCount_0f7a4_24 : decode cJ6_bitCount_0f7a4 24 = .ok (.iload_n 0, 1) := by decide +kernel
theorem dJ6_bitCount_0f7a4_25 : decode cJ6_bitCount_0f7a4 25 = .ok (.iload_n 0, 1) := by decide +kernel
theorem dJ6_bitCount_0f7a4_26 : decode cJ6_bitCount_0f7a4 26 = .ok (.iconst 4, 1) := by decide +kernel
theorem dJ6_bitCount_0f7a4_27 : decode cJ6_bitCount_0f7a4 27 = .ok (.iushr, 1) := by decide +kernel
theorem dJ6_bitCount_0f7a4_28 : decode cJ6_bitCount_0f7a4 28 = .ok (.iadd, 1) := by decide +kernel
theorem dJ6_bitCount_0f7a4_29 : decode cJ6_bitCount_0f7a4 29 = .ok (.ldc_w 267, 3) := by decide +kernel
theorem dJ6_bitCount_0f7a4_32 : decode cJ6_bitCount_0f7a4 32 = .ok (.iand, 1) := by decide +kernel
theorem dJ6_bitCount_0f7a4_33 : decode cJ6_bitCount_0f7a4 33 = .ok (.istore_n 0, 1) := by decide +kernel
theorem dJ6_bitCount_0f7a4_34 : decode cJ6_bitCount_0f7a4 34 = .ok (.iload_n 0, 1) := by decide +kernel
theorem dJ6_bitCount_0f7a4_35 : decode cJ6_bitCount_0f7a4 35 = .ok (.iload_n 0, 1) := by decide +kernel
theorem dJ6_bitCount_0f7a4_36 : decode cJ6_bitCount_0f7a4 36 = .ok (.bipush 8, 2) := by decide +kernel
theorem dJ6_bitCount_0f7a4_38 : decode cJ6_bitCount_0f7a4 38 = .ok (.iushr, 1) := by decide +kernel
theorem dJ6_bitCount_0f7a4_39 : decode cJ6_bitCount_0f7a4 39 = .ok (.iadd, 1) := by decide +kernel
theorem dJ6_bitCount_0f7a4_40 : decode cJ6_bitCount_0f7a4 40 = .ok (.istore_n 0, 1) := by decide +kernel
theorem dJ6_bitCount_0f7a4_41 : decode cJ6_bitCount_0f7a4 41 = .ok (.iload_n 0, 1) := by decide +kernel
theorem dJ6_bitCount_0f7a4_42 : decode cJ6_bitCount_0f7a4 42 = .ok (.iload_n 0, 1) := by decide +kernel
theorem dJ6_bitCount_0f7a4_43 : decode cJ6_bitCount_0f7a4 43 = .ok (.bipush 16, 2) := by decide +kernel
theorem dJ6_bitCount_0f7a4_45 : decode cJ6_bitCount_0f7a4 45 = .ok (.iushr, 1) := by decide +kernel
theorem dJ6_bitCount_0f7a4_46 : decode cJ6_bitCount_0f7a4 46 = .ok (.iadd, 1) := by decide +kernel
theorem dJ6_bitCount_0f7a4_47 : decode cJ6_bitCount_0f7a4 47 = .ok (.istore_n 0, 1) := by decide +kernel
theorem dJ6_bitCount_0f7a4_48 : decode cJ6_bitCount_0f7a4 48 = .ok (.iload_n 0, 1) := by decide +kernel
theorem dJ6_bitCount_0f7a4_49 : decode cJ6_bitCount_0f7a4 49 = .ok (.bipush 63, 2) := by decide +kernel
theorem dJ6_bitCount_0f7a4_51 : decode cJ6_bitCount_0f7a4 51 = .ok (.iand, 1) := by decide +kernel
theorem dJ6_bitCount_0f7a4_52 : decode cJ6_bitCount_0f7a4 52 = .ok (.ireturn, 1) := by decide +kernel
theorem dJ9_max_7cf53_0 : decode cJ9_max_7cf53 0 = .ok (.iload_n 0, 1) := by decide +kernel
theorem dJ9_max_7cf53_1 : decode cJ9_max_7cf53 1 = .ok (.iload_n 1, 1) := by decide +kernel
theorem dJ9_max_7cf53_2 : decode cJ9_max_7cf53 2 = .ok (.if_icmp .lt 7, 3) := by decide +kernel
theorem dJ9_max_7cf53_5 : decode cJ9_max_7cf53 5 = .ok (.iload_n 0, 1) := by decide +kernel
theorem dJ9_max_7cf53_6 : decode cJ9_max_7cf53 6 = .ok (.goto 4, 3) := by decide +kernel
theorem dJ9_max_7cf53_9 : decode cJ9_max_7cf53 9 = .ok (.iload_n 1, 1) := by decide +kernel
theorem dJ9_max_7cf53_10 : decode cJ9_max_7cf53 10 = .ok (.ireturn, 1) := by decide +kernel
theorem dJ9_min_7cf53_0 : decode cJ9_min_7cf53 0 = .ok (.iload_n 0, 1) := by decide +kernel
theorem dJ9_min_7cf53_1 : decode cJ9_min_7cf53 1 = .ok (.iload_n 1, 1) := by decide +kernel
theorem dJ9_min_7cf53_2 : decode cJ9_min_7cf53 2 = .ok (.if_icmp .gt 7, 3) := by decide +kernel
theorem dJ9_min_7cf53_5 : decode cJ9_min_7cf53 5 = .ok (.iload_n 0, 1) := by decide +kernel
theorem dJ9_min_7cf53_6 : decode cJ9_min_7cf53 6 = .ok (.goto 4, 3) := by decide +kernel
theorem dJ9_min_7cf53_9 : decode cJ9_min_7cf53 9 = .ok (.iload_n 1, 1) := by decide +kernel
theorem dJ9_min_7cf53_10 : decode cJ9_min_7cf53 10 = .ok (.ireturn, 1) := by decide +kernel
theorem dL_law_0 : decode cL_law 0 = .ok (.new 7, 3) := by decide +kernel
theorem dL_law_3 : decode cL_law 3 = .ok (.dup, 1) := by decide +kernel
theorem dL_law_4 : decode cL_law 4 = .ok (.invokespecial 9, 3) := by decide +kernel
theorem dL_law_7 : decode cL_law 7 = .ok (.astore_n 1, 1) := by decide +kernel
theorem dL_law_8 : decode cL_law 8 = .ok (.new 10, 3) := by decide +kernel
theorem dL_law_11 : decode cL_law 11 = .ok (.dup, 1) := by decide +kernel
theorem dL_law_12 : decode cL_law 12 = .ok (.invokespecial 12, 3) := by decide +kernel
theorem dL_law_15 : decode cL_law 15 = .ok (.astore_n 2, 1) := by decide +kernel
theorem dL_law_16 : decode cL_law 16 = .ok (.iconst 0, 1) := by decide +kernel
theorem dL_law_17 : decode cL_law 17 = .ok (.istore_n 3, 1) := by decide +kernel
theorem dL_law_18 : decode cL_law 18 = .ok (.iload_n 3, 1) := by decide +kernel
theorem dL_law_19 : decode cL_law 19 = .ok (.aload_n 0, 1) := by decide +kernel
theorem dL_law_20 : decode cL_law 20 = .ok (.arraylength, 1) := by decide +kernel
theorem dL_law_21 : decode cL_law 21 = .ok (.iconst 5, 1) := by decide +kernel
theorem dL_law_22 : decode cL_law 22 = .ok (.isub, 1) := by decide +kernel
theorem dL_law_23 : decode cL_law 23 = .ok (.if_icmp .gt 591, 3) := by decide +kernel
theorem dL_law_26 : decode cL_law 26 = .ok (.aload_n 0, 1) := by decide +kernel
theorem dL_law_27 : decode cL_law 27 = .ok (.iload_n 3, 1) := by decide +kernel
theorem dL_law_28 : decode cL_law 28 = .ok (.iaload, 1) := by decide +kernel
theorem dL_law_29 : decode cL_law 29 = .ok (.bipush 31, 2) := by decide +kernel
theorem dL_law_31 : decode cL_law 31 = .ok (.iand, 1) := by decide +kernel
theorem dL_law_32 : decode cL_law 32 = .ok (.tableswitch 576 0 17 #[88, 111, 144, 155, 188, 221, 270, 303, 326, 369, 422, 445, 478, 491, 504, 527, 550, 563], 88) := by decide +kernel
theorem dL_law_120 : decode cL_law 120 = .ok (.aload_n 1, 1) := by decide +kernel
theorem dL_law_121 : decode cL_law 121 = .ok (.aload_n 0, 1) := by decide +kernel
theorem dL_law_122 : decode cL_law 122 = .ok (.iload_n 3, 1) := by decide +kernel
theorem dL_law_123 : decode cL_law 123 = .ok (.iconst 1, 1) := by decide +kernel
theorem dL_law_124 : decode cL_law 124 = .ok (.iadd, 1) := by decide +kernel
theorem dL_law_125 : decode cL_law 125 = .ok (.iaload, 1) := by decide +kernel
theorem dL_law_126 : decode cL_law 126 = .ok (.invokevirtual 13, 3) := by decide +kernel
theorem dL_law_129 : decode cL_law 129 = .ok (.aload_n 2, 1) := by decide +kernel
theorem dL_law_130 : decode cL_law 130 = .ok (.aload_n 0, 1) := by decide +kernel
theorem dL_law_131 : decode cL_law 131 = .ok (.iload_n 3, 1) := by decide +kernel
theorem dL_law_132 : decode cL_law 132 = .ok (.iconst 1, 1) := by decide +kernel
theorem dL_law_133 : decode cL_law 133 = .ok (.iadd, 1) := by decide +kernel
theorem dL_law_134 : decode cL_law 134 = .ok (.iaload, 1) := by decide +kernel
theorem dL_law_135 : decode cL_law 135 = .ok (.invokevirtual 17, 3) := by decide +kernel
theorem dL_law_138 : decode cL_law 138 = .ok (.if_icmp .eq 470, 3) := by decide +kernel
theorem dL_law_141 : decode cL_law 141 = .ok (.iconst 0, 1) := by decide +kernel
theorem dL_law_142 : decode cL_law 142 = .ok (.ireturn, 1) := by decide +kernel
theorem dL_law_143 : decode cL_law 143 = .ok (.aload_n 1, 1) := by decide +kernel
theorem dL_law_144 : decode cL_law 144 = .ok (.aload_n 0, 1) := by decide +kernel
theorem dL_law_145 : decode cL_law 145 = .ok (.iload_n 3, 1) := by decide +kernel
theorem dL_law_146 : decode cL_law 146 = .ok (.iconst 1, 1) := by decide +kernel
theorem dL_law_147 : decode cL_law 147 = .ok (.iadd, 1) := by decide +kernel
theorem dL_law_148 : decode cL_law 148 = .ok (.iaload, 1) := by decide +kernel
theorem dL_law_149 : decode cL_law 149 = .ok (.aload_n 0, 1) := by decide +kernel
theorem dL_law_150 : decode cL_law 150 = .ok (.iload_n 3, 1) := by decide +kernel
theorem dL_law_151 : decode cL_law 151 = .ok (.iconst 2, 1) := by decide +kernel
theorem dL_law_152 : decode cL_law 152 = .ok (.iadd, 1) := by decide +kernel
theorem dL_law_153 : decode cL_law 153 = .ok (.iaload, 1) := by decide +kernel
theorem dL_law_154 : decode cL_law 154 = .ok (.invokevirtual 18, 3) := by decide +kernel
theorem dL_law_157 : decode cL_law 157 = .ok (.aload_n 2, 1) := by decide +kernel
theorem dL_law_158 : decode cL_law 158 = .ok (.aload_n 0, 1) := by decide +kernel
theorem dL_law_159 : decode cL_law 159 = .ok (.iload_n 3, 1) := by decide +kernel
theorem dL_law_160 : decode cL_law 160 = .ok (.iconst 1, 1) := by decide +kernel
theorem dL_law_161 : decode cL_law 161 = .ok (.iadd, 1) := by decide +kernel
theorem dL_law_162 : decode cL_law 162 = .ok (.iaload, 1) := by decide +kernel
theorem dL_law_163 : decode cL_law 163 = .ok (.aload_n 0, 1) := by decide +kernel
theorem dL_law_164 : decode cL_law 164 = .ok (.iload_n 3, 1) := by decide +kernel
theorem dL_law_165 : decode cL_law 165 = .ok (.iconst 2, 1) := by decide +kernel
theorem dL_law_166 : decode cL_law 166 = .ok (.iadd, 1) := by decide +kernel
theorem dL_law_167 : decode cL_law 167 = .ok (.iaload, 1) := by decide +kernel
theorem dL_law_168 : decode cL_law 168 = .ok (.invokevirtual 22, 3) := by decide +kernel
theorem dL_law_171 : decode cL_law 171 = .ok (.if_icmp .eq 437, 3) := by decide +kernel
theorem dL_law_174 : decode cL_law 174 = .ok (.iconst 0, 1) := by decide +kernel
theorem dL_law_175 : decode cL_law 175 = .ok (.ireturn, 1) := by decide +kernel
theorem dL_law_176 : decode cL_law 176 = .ok (.aload_n 1, 1) := by decide +kernel
theorem dL_law_177 : decode cL_law 177 = .ok (.invokevirtual 23, 3) := by decide +kernel
theorem dL_law_180 : decode cL_law 180 = .ok (.aload_n 2, 1) := by decide +kernel
theorem dL_law_181 : decode cL_law 181 = .ok (.invokevirtual 26, 3) := by decide +kernel
theorem dL_law_184 : decode cL_law 184 = .ok (.goto 424, 3) := by decide +kernel
theorem dL_law_187 : decode cL_law 187 = .ok (.aload_n 1, 1) := by decide +kernel
theorem dL_law_188 : decode cL_law 188 = .ok (.aload_n 0, 1) := by decide +kernel
theorem dL_law_189 : decode cL_law 189 = .ok (.iload_n 3, 1) := by decide +kernel
theorem dL_law_190 : decode cL_law 190 = .ok (.iconst 1, 1) := by decide +kernel
theorem dL_law_191 : decode cL_law 191 = .ok (.iadd, 1) := by decide +kernel
theorem dL_law_192 : decode cL_law 192 = .ok (.iaload, 1) := by decide +kernel
theorem dL_law_193 : decode cL_law 193 = .ok (.aload_n 0, 1) := by decide +kernel
theorem dL_law_194 : decode cL_law 194 = .ok (.iload_n 3, 1) := by decide +kernel
theorem dL_law_195 : decode cL_law 195 = .ok (.iconst 2, 1) := by decide +kernel
theorem dL_law_196 : decode cL_law 196 = .ok (.iadd, 1) := by decide +kernel
theorem dL_law_197 : decode cL_law 197 = .ok (.iaload, 1) := by decide +kernel
theorem dL_law_198 : decode cL_law 198 = .ok (.invokevirtual 27, 3) := by decide +kernel
theorem dL_law_201 : decode cL_law 201 = .ok (.aload_n 2, 1) := by decide +kernel
theorem dL_law_202 : decode cL_law 202 = .ok (.aload_n 0, 1) := by decide +kernel
theorem dL_law_203 : decode cL_law 203 = .ok (.iload_n 3, 1) := by decide +kernel
theorem dL_law_204 : decode cL_law 204 = .ok (.iconst 1, 1) := by decide +kernel
theorem dL_law_205 : decode cL_law 205 = .ok (.iadd, 1) := by decide +kernel
theorem dL_law_206 : decode cL_law 206 = .ok (.iaload, 1) := by decide +kernel
theorem dL_law_207 : decode cL_law 207 = .ok (.aload_n 0, 1) := by decide +kernel
theorem dL_law_208 : decode cL_law 208 = .ok (.iload_n 3, 1) := by decide +kernel
theorem dL_law_209 : decode cL_law 209 = .ok (.iconst 2, 1) := by decide +kernel
theorem dL_law_210 : decode cL_law 210 = .ok (.iadd, 1) := by decide +kernel
theorem dL_law_211 : decode cL_law 211 = .ok (.iaload, 1) := by decide +kernel
theorem dL_law_212 : decode cL_law 212 = .ok (.invokevirtual 30, 3) := by decide +kernel
theorem dL_law_215 : decode cL_law 215 = .ok (.if_icmp .eq 393, 3) := by decide +kernel
theorem dL_law_218 : decode cL_law 218 = .ok (.iconst 0, 1) := by decide +kernel
theorem dL_law_219 : decode cL_law 219 = .ok (.ireturn, 1) := by decide +kernel
theorem dL_law_220 : decode cL_law 220 = .ok (.aload_n 1, 1) := by decide +kernel
theorem dL_law_221 : decode cL_law 221 = .ok (.aload_n 0, 1) := by decide +kernel
theorem dL_law_222 : decode cL_law 222 = .ok (.iload_n 3, 1) := by decide +kernel
theorem dL_law_223 : decode cL_law 223 = .ok (.iconst 1, 1) := by decide +kernel
theorem dL_law_224 : decode cL_law 224 = .ok (.iadd, 1) := by decide +kernel
theorem dL_law_225 : decode cL_law 225 = .ok (.iaload, 1) := by decide +kernel
theorem dL_law_226 : decode cL_law 226 = .ok (.aload_n 0, 1) := by decide +kernel
theorem dL_law_227 : decode cL_law 227 = .ok (.iload_n 3, 1) := by decide +kernel
theorem dL_law_228 : decode cL_law 228 = .ok (.iconst 2, 1) := by decide +kernel
theorem dL_law_229 : decode cL_law 229 = .ok (.iadd, 1) := by decide +kernel
theorem dL_law_230 : decode cL_law 230 = .ok (.iaload, 1) := by decide +kernel
theorem dL_law_231 : decode cL_law 231 = .ok (.invokevirtual 31, 3) := by decide +kernel
theorem dL_law_234 : decode cL_law 234 = .ok (.aload_n 2, 1) := by decide +kernel
theorem dL_law_235 : decode cL_law 235 = .ok (.aload_n 0, 1) := by decide +kernel
theorem dL_law_236 : decode cL_law 236 = .ok (.iload_n 3, 1) := by decide +kernel
theorem dL_law_237 : decode cL_law 237 = .ok (.iconst 1, 1) := by decide +kernel
theorem dL_law_238 : decode cL_law 238 = .ok (.iadd, 1) := by decide +kernel
theorem dL_law_239 : decode cL_law 239 = .ok (.iaload, 1) := by decide +kernel
theorem dL_law_240 : decode cL_law 240 = .ok (.aload_n 0, 1) := by decide +kernel
theorem dL_law_241 : decode cL_law 241 = .ok (.iload_n 3, 1) := by decide +kernel
theorem dL_law_242 : decode cL_law 242 = .ok (.iconst 2, 1) := by decide +kernel
theorem dL_law_243 : decode cL_law 243 = .ok (.iadd, 1) := by decide +kernel
theorem dL_law_244 : decode cL_law 244 = .ok (.iaload, 1) := by decide +kernel
theorem dL_law_245 : decode cL_law 245 = .ok (.invokevirtual 34, 3) := by decide +kernel
theorem dL_law_248 : decode cL_law 248 = .ok (.if_icmp .eq 360, 3) := by decide +kernel
theorem dL_law_251 : decode cL_law 251 = .ok (.iconst 0, 1) := by decide +kernel
theorem dL_law_252 : decode cL_law 252 = .ok (.ireturn, 1) := by decide +kernel
theorem dL_law_253 : decode cL_law 253 = .ok (.aload_n 1, 1) := by decide +kernel
theorem dL_law_254 : decode cL_law 254 = .ok (.aload_n 0, 1) := by decide +kernel
theorem dL_law_255 : decode cL_law 255 = .ok (.iload_n 3, 1) := by decide +kernel
theorem dL_law_256 : decode cL_law 256 = .ok (.iconst 1, 1) := by decide +kernel
theorem dL_law_257 : decode cL_law 257 = .ok (.iadd, 1) := by decide +kernel
theorem dL_law_258 : decode cL_law 258 = .ok (.iaload, 1) := by decide +kernel
theorem dL_law_259 : decode cL_law 259 = .ok (.aload_n 0, 1) := by decide +kernel
theorem dL_law_260 : decode cL_law 260 = .ok (.iload_n 3, 1) := by decide +kernel
theorem dL_law_261 : decode cL_law 261 = .ok (.iconst 2, 1) := by decide +kernel
theorem dL_law_262 : decode cL_law 262 = .ok (.iadd, 1) := by decide +kernel
theorem dL_law_263 : decode cL_law 263 = .ok (.iaload, 1) := by decide +kernel
theorem dL_law_264 : decode cL_law 264 = .ok (.ifCond .eq 7, 3) := by decide +kernel
theorem dL_law_267 : decode cL_law 267 = .ok (.iconst 1, 1) := by decide +kernel
theorem dL_law_268 : decode cL_law 268 = .ok (.goto 4, 3) := by decide +kernel
theorem dL_law_271 : decode cL_law 271 = .ok (.iconst 0, 1) := by decide +kernel
theorem dL_law_272 : decode cL_law 272 = .ok (.invokevirtual 35, 3) := by decide +kernel
theorem dL_law_275 : decode cL_law 275 = .ok (.aload_n 2, 1) := by decide +kernel
theorem dL_law_276 : decode cL_law 276 = .ok (.aload_n 0, 1) := by decide +kernel
theorem dL_law_277 : decode cL_law 277 = .ok (.iload_n 3, 1) := by decide +kernel
theorem dL_law_278 : decode cL_law 278 = .ok (.iconst 1, 1) := by decide +kernel
theorem dL_law_279 : decode cL_law 279 = .ok (.iadd, 1) := by decide +kernel
theorem dL_law_280 : decode cL_law 280 = .ok (.iaload, 1) := by decide +kernel
theorem dL_law_281 : decode cL_law 281 = .ok (.aload_n 0, 1) := by decide +kernel
theorem dL_law_282 : decode cL_law 282 = .ok (.iload_n 3, 1) := by decide +kernel
theorem dL_law_283 : decode cL_law 283 = .ok (.iconst 2, 1) := by decide +kernel
theorem dL_law_284 : decode cL_law 284 = .ok (.iadd, 1) := by decide +kernel
theorem dL_law_285 : decode cL_law 285 = .ok (.iaload, 1) := by decide +kernel
theorem dL_law_286 : decode cL_law 286 = .ok (.ifCond .eq 7, 3) := by decide +kernel
theorem dL_law_289 : decode cL_law 289 = .ok (.iconst 1, 1) := by decide +kernel
theorem dL_law_290 : decode cL_law 290 = .ok (.goto 4, 3) := by decide +kernel
theorem dL_law_293 : decode cL_law 293 = .ok (.iconst 0, 1) := by decide +kernel
theorem dL_law_294 : decode cL_law 294 = .ok (.invokevirtual 39, 3) := by decide +kernel
theorem dL_law_297 : decode cL_law 297 = .ok (.if_icmp .eq 311, 3) := by decide +kernel
theorem dL_law_300 : decode cL_law 300 = .ok (.iconst 0, 1) := by decide +kernel
theorem dL_law_301 : decode cL_law 301 = .ok (.ireturn, 1) := by decide +kernel
theorem dL_law_302 : decode cL_law 302 = .ok (.aload_n 1, 1) := by decide +kernel
theorem dL_law_303 : decode cL_law 303 = .ok (.aload_n 0, 1) := by decide +kernel
theorem dL_law_304 : decode cL_law 304 = .ok (.iload_n 3, 1) := by decide +kernel
theorem dL_law_305 : decode cL_law 305 = .ok (.iconst 1, 1) := by decide +kernel
theorem dL_law_306 : decode cL_law 306 = .ok (.iadd, 1) := by decide +kernel
theorem dL_law_307 : decode cL_law 307 = .ok (.iaload, 1) := by decide +kernel
theorem dL_law_308 : decode cL_law 308 = .ok (.aload_n 0, 1) := by decide +kernel
theorem dL_law_309 : decode cL_law 309 = .ok (.iload_n 3, 1) := by decide +kernel
theorem dL_law_310 : decode cL_law 310 = .ok (.iconst 2, 1) := by decide +kernel
theorem dL_law_311 : decode cL_law 311 = .ok (.iadd, 1) := by decide +kernel
theorem dL_law_312 : decode cL_law 312 = .ok (.iaload, 1) := by decide +kernel
theorem dL_law_313 : decode cL_law 313 = .ok (.invokevirtual 40, 3) := by decide +kernel
theorem dL_law_316 : decode cL_law 316 = .ok (.aload_n 2, 1) := by decide +kernel
theorem dL_law_317 : decode cL_law 317 = .ok (.aload_n 0, 1) := by decide +kernel
theorem dL_law_318 : decode cL_law 318 = .ok (.iload_n 3, 1) := by decide +kernel
theorem dL_law_319 : decode cL_law 319 = .ok (.iconst 1, 1) := by decide +kernel
theorem dL_law_320 : decode cL_law 320 = .ok (.iadd, 1) := by decide +kernel
theorem dL_law_321 : decode cL_law 321 = .ok (.iaload, 1) := by decide +kernel
theorem dL_law_322 : decode cL_law 322 = .ok (.aload_n 0, 1) := by decide +kernel
theorem dL_law_323 : decode cL_law 323 = .ok (.iload_n 3, 1) := by decide +kernel
theorem dL_law_324 : decode cL_law 324 = .ok (.iconst 2, 1) := by decide +kernel
theorem dL_law_325 : decode cL_law 325 = .ok (.iadd, 1) := by decide +kernel
theorem dL_law_326 : decode cL_law 326 = .ok (.iaload, 1) := by decide +kernel
theorem dL_law_327 : decode cL_law 327 = .ok (.invokevirtual 43, 3) := by decide +kernel
theorem dL_law_330 : decode cL_law 330 = .ok (.if_icmp .eq 278, 3) := by decide +kernel
theorem dL_law_333 : decode cL_law 333 = .ok (.iconst 0, 1) := by decide +kernel
theorem dL_law_334 : decode cL_law 334 = .ok (.ireturn, 1) := by decide +kernel
theorem dL_law_335 : decode cL_law 335 = .ok (.aload_n 1, 1) := by decide +kernel
theorem dL_law_336 : decode cL_law 336 = .ok (.aload_n 0, 1) := by decide +kernel
theorem dL_law_337 : decode cL_law 337 = .ok (.iload_n 3, 1) := by decide +kernel
theorem dL_law_338 : decode cL_law 338 = .ok (.iconst 1, 1) := by decide +kernel
theorem dL_law_339 : decode cL_law 339 = .ok (.iadd, 1) := by decide +kernel
theorem dL_law_340 : decode cL_law 340 = .ok (.iaload, 1) := by decide +kernel
theorem dL_law_341 : decode cL_law 341 = .ok (.invokevirtual 44, 3) := by decide +kernel
theorem dL_law_344 : decode cL_law 344 = .ok (.aload_n 2, 1) := by decide +kernel
theorem dL_law_345 : decode cL_law 345 = .ok (.aload_n 0, 1) := by decide +kernel
theorem dL_law_346 : decode cL_law 346 = .ok (.iload_n 3, 1) := by decide +kernel
theorem dL_law_347 : decode cL_law 347 = .ok (.iconst 1, 1) := by decide +kernel
theorem dL_law_348 : decode cL_law 348 = .ok (.iadd, 1) := by decide +kernel
theorem dL_law_349 : decode cL_law 349 = .ok (.iaload, 1) := by decide +kernel
theorem dL_law_350 : decode cL_law 350 = .ok (.invokevirtual 47, 3) := by decide +kernel
theorem dL_law_353 : decode cL_law 353 = .ok (.if_icmp .eq 255, 3) := by decide +kernel
theorem dL_law_356 : decode cL_law 356 = .ok (.iconst 0, 1) := by decide +kernel
theorem dL_law_357 : decode cL_law 357 = .ok (.ireturn, 1) := by decide +kernel
theorem dL_law_358 : decode cL_law 358 = .ok (.aload_n 1, 1) := by decide +kernel
theorem dL_law_359 : decode cL_law 359 = .ok (.aload_n 0, 1) := by decide +kernel
theorem dL_law_360 : decode cL_law 360 = .ok (.iload_n 3, 1) := by decide +kernel
theorem dL_law_361 : decode cL_law 361 = .ok (.iconst 1, 1) := by decide +kernel
theorem dL_law_362 : decode cL_law 362 = .ok (.iadd, 1) := by decide +kernel
theorem dL_law_363 : decode cL_law 363 = .ok (.iaload, 1) := by decide +kernel
theorem dL_law_364 : decode cL_law 364 = .ok (.aload_n 0, 1) := by decide +kernel
theorem dL_law_365 : decode cL_law 365 = .ok (.iload_n 3, 1) := by decide +kernel
theorem dL_law_366 : decode cL_law 366 = .ok (.iconst 2, 1) := by decide +kernel
theorem dL_law_367 : decode cL_law 367 = .ok (.iadd, 1) := by decide +kernel
theorem dL_law_368 : decode cL_law 368 = .ok (.iaload, 1) := by decide +kernel
theorem dL_law_369 : decode cL_law 369 = .ok (.aload_n 0, 1) := by decide +kernel
theorem dL_law_370 : decode cL_law 370 = .ok (.iload_n 3, 1) := by decide +kernel
theorem dL_law_371 : decode cL_law 371 = .ok (.iconst 3, 1) := by decide +kernel
theorem dL_law_372 : decode cL_law 372 = .ok (.iadd, 1) := by decide +kernel
theorem dL_law_373 : decode cL_law 373 = .ok (.iaload, 1) := by decide +kernel
theorem dL_law_374 : decode cL_law 374 = .ok (.invokevirtual 48, 3) := by decide +kernel
theorem dL_law_377 : decode cL_law 377 = .ok (.aload_n 2, 1) := by decide +kernel
theorem dL_law_378 : decode cL_law 378 = .ok (.aload_n 0, 1) := by decide +kernel
theorem dL_law_379 : decode cL_law 379 = .ok (.iload_n 3, 1) := by decide +kernel
theorem dL_law_380 : decode cL_law 380 = .ok (.iconst 1, 1) := by decide +kernel
theorem dL_law_381 : decode cL_law 381 = .ok (.iadd, 1) := by decide +kernel
theorem dL_law_382 : decode cL_law 382 = .ok (.iaload, 1) := by decide +kernel
theorem dL_law_383 : decode cL_law 383 = .ok (.aload_n 0, 1) := by decide +kernel
theorem dL_law_384 : decode cL_law 384 = .ok (.iload_n 3, 1) := by decide +kernel
theorem dL_law_385 : decode cL_law 385 = .ok (.iconst 2, 1) := by decide +kernel
theorem dL_law_386 : decode cL_law 386 = .ok (.iadd, 1) := by decide +kernel
theorem dL_law_387 : decode cL_law 387 = .ok (.iaload, 1) := by decide +kernel
theorem dL_law_388 : decode cL_law 388 = .ok (.aload_n 0, 1) := by decide +kernel
theorem dL_law_389 : decode cL_law 389 = .ok (.iload_n 3, 1) := by decide +kernel
theorem dL_law_390 : decode cL_law 390 = .ok (.iconst 3, 1) := by decide +kernel
theorem dL_law_391 : decode cL_law 391 = .ok (.iadd, 1) := by decide +kernel
theorem dL_law_392 : decode cL_law 392 = .ok (.iaload, 1) := by decide +kernel
theorem dL_law_393 : decode cL_law 393 = .ok (.invokevirtual 52, 3) := by decide +kernel
theorem dL_law_396 : decode cL_law 396 = .ok (.if_icmp .eq 212, 3) := by decide +kernel
theorem dL_law_399 : decode cL_law 399 = .ok (.iconst 0, 1) := by decide +kernel
theorem dL_law_400 : decode cL_law 400 = .ok (.ireturn, 1) := by decide +kernel
theorem dL_law_401 : decode cL_law 401 = .ok (.aload_n 1, 1) := by decide +kernel
theorem dL_law_402 : decode cL_law 402 = .ok (.aload_n 0, 1) := by decide +kernel
theorem dL_law_403 : decode cL_law 403 = .ok (.iload_n 3, 1) := by decide +kernel
theorem dL_law_404 : decode cL_law 404 = .ok (.iconst 1, 1) := by decide +kernel
theorem dL_law_405 : decode cL_law 405 = .ok (.iadd, 1) := by decide +kernel
theorem dL_law_406 : decode cL_law 406 = .ok (.iaload, 1) := by decide +kernel
theorem dL_law_407 : decode cL_law 407 = .ok (.aload_n 0, 1) := by decide +kernel
theorem dL_law_408 : decode cL_law 408 = .ok (.iload_n 3, 1) := by decide +kernel
theorem dL_law_409 : decode cL_law 409 = .ok (.iconst 2, 1) := by decide +kernel
theorem dL_law_410 : decode cL_law 410 = .ok (.iadd, 1) := by decide +kernel
theorem dL_law_411 : decode cL_law 411 = .ok (.iaload, 1) := by decide +kernel
theorem dL_law_412 : decode cL_law 412 = .ok (.aload_n 0, 1) := by decide +kernel
theorem dL_law_413 : decode cL_law 413 = .ok (.iload_n 3, 1) := by decide +kernel
theorem dL_law_414 : decode cL_law 414 = .ok (.iconst 3, 1) := by decide +kernel
theorem dL_law_415 : decode cL_law 415 = .ok (.iadd, 1) := by decide +kernel
theorem dL_law_416 : decode cL_law 416 = .ok (.iaload, 1) := by decide +kernel
theorem dL_law_417 : decode cL_law 417 = .ok (.aload_n 0, 1) := by decide +kernel
theorem dL_law_418 : decode cL_law 418 = .ok (.iload_n 3, 1) := by decide +kernel
theorem dL_law_419 : decode cL_law 419 = .ok (.iconst 4, 1) := by decide +kernel
theorem dL_law_420 : decode cL_law 420 = .ok (.iadd, 1) := by decide +kernel
theorem dL_law_421 : decode cL_law 421 = .ok (.iaload, 1) := by decide +kernel
theorem dL_law_422 : decode cL_law 422 = .ok (.invokevirtual 53, 3) := by decide +kernel
theorem dL_law_425 : decode cL_law 425 = .ok (.aload_n 2, 1) := by decide +kernel
theorem dL_law_426 : decode cL_law 426 = .ok (.aload_n 0, 1) := by decide +kernel
theorem dL_law_427 : decode cL_law 427 = .ok (.iload_n 3, 1) := by decide +kernel
theorem dL_law_428 : decode cL_law 428 = .ok (.iconst 1, 1) := by decide +kernel
theorem dL_law_429 : decode cL_law 429 = .ok (.iadd, 1) := by decide +kernel
theorem dL_law_430 : decode cL_law 430 = .ok (.iaload, 1) := by decide +kernel
theorem dL_law_431 : decode cL_law 431 = .ok (.aload_n 0, 1) := by decide +kernel
theorem dL_law_432 : decode cL_law 432 = .ok (.iload_n 3, 1) := by decide +kernel
theorem dL_law_433 : decode cL_law 433 = .ok (.iconst 2, 1) := by decide +kernel
theorem dL_law_434 : decode cL_law 434 = .ok (.iadd, 1) := by decide +kernel
theorem dL_law_435 : decode cL_law 435 = .ok (.iaload, 1) := by decide +kernel
theorem dL_law_436 : decode cL_law 436 = .ok (.aload_n 0, 1) := by decide +kernel
theorem dL_law_437 : decode cL_law 437 = .ok (.iload_n 3, 1) := by decide +kernel
theorem dL_law_438 : decode cL_law 438 = .ok (.iconst 3, 1) := by decide +kernel
theorem dL_law_439 : decode cL_law 439 = .ok (.iadd, 1) := by decide +kernel
theorem dL_law_440 : decode cL_law 440 = .ok (.iaload, 1) := by decide +kernel
theorem dL_law_441 : decode cL_law 441 = .ok (.aload_n 0, 1) := by decide +kernel
theorem dL_law_442 : decode cL_law 442 = .ok (.iload_n 3, 1) := by decide +kernel
theorem dL_law_443 : decode cL_law 443 = .ok (.iconst 4, 1) := by decide +kernel
theorem dL_law_444 : decode cL_law 444 = .ok (.iadd, 1) := by decide +kernel
theorem dL_law_445 : decode cL_law 445 = .ok (.iaload, 1) := by decide +kernel
theorem dL_law_446 : decode cL_law 446 = .ok (.invokevirtual 57, 3) := by decide +kernel
theorem dL_law_449 : decode cL_law 449 = .ok (.if_icmp .eq 159, 3) := by decide +kernel
theorem dL_law_452 : decode cL_law 452 = .ok (.iconst 0, 1) := by decide +kernel
theorem dL_law_453 : decode cL_law 453 = .ok (.ireturn, 1) := by decide +kernel
theorem dL_law_454 : decode cL_law 454 = .ok (.aload_n 1, 1) := by decide +kernel
theorem dL_law_455 : decode cL_law 455 = .ok (.aload_n 0, 1) := by decide +kernel
theorem dL_law_456 : decode cL_law 456 = .ok (.iload_n 3, 1) := by decide +kernel
theorem dL_law_457 : decode cL_law 457 = .ok (.iconst 1, 1) := by decide +kernel
theorem dL_law_458 : decode cL_law 458 = .ok (.iadd, 1) := by decide +kernel
theorem dL_law_459 : decode cL_law 459 = .ok (.iaload, 1) := by decide +kernel
theorem dL_law_460 : decode cL_law 460 = .ok (.invokevirtual 58, 3) := by decide +kernel
theorem dL_law_463 : decode cL_law 463 = .ok (.aload_n 2, 1) := by decide +kernel
theorem dL_law_464 : decode cL_law 464 = .ok (.aload_n 0, 1) := by decide +kernel
theorem dL_law_465 : decode cL_law 465 = .ok (.iload_n 3, 1) := by decide +kernel
theorem dL_law_466 : decode cL_law 466 = .ok (.iconst 1, 1) := by decide +kernel
theorem dL_law_467 : decode cL_law 467 = .ok (.iadd, 1) := by decide +kernel
theorem dL_law_468 : decode cL_law 468 = .ok (.iaload, 1) := by decide +kernel
theorem dL_law_469 : decode cL_law 469 = .ok (.invokevirtual 61, 3) := by decide +kernel
theorem dL_law_472 : decode cL_law 472 = .ok (.if_icmp .eq 136, 3) := by decide +kernel
theorem dL_law_475 : decode cL_law 475 = .ok (.iconst 0, 1) := by decide +kernel
theorem dL_law_476 : decode cL_law 476 = .ok (.ireturn, 1) := by decide +kernel
theorem dL_law_477 : decode cL_law 477 = .ok (.aload_n 1, 1) := by decide +kernel
theorem dL_law_478 : decode cL_law 478 = .ok (.aload_n 0, 1) := by decide +kernel
theorem dL_law_479 : decode cL_law 479 = .ok (.iload_n 3, 1) := by decide +kernel
theorem dL_law_480 : decode cL_law 480 = .ok (.iconst 1, 1) := by decide +kernel
theorem dL_law_481 : decode cL_law 481 = .ok (.iadd, 1) := by decide +kernel
theorem dL_law_482 : decode cL_law 482 = .ok (.iaload, 1) := by decide +kernel
theorem dL_law_483 : decode cL_law 483 = .ok (.aload_n 0, 1) := by decide +kernel
theorem dL_law_484 : decode cL_law 484 = .ok (.iload_n 3, 1) := by decide +kernel
theorem dL_law_485 : decode cL_law 485 = .ok (.iconst 2, 1) := by decide +kernel
theorem dL_law_486 : decode cL_law 486 = .ok (.iadd, 1) := by decide +kernel
theorem dL_law_487 : decode cL_law 487 = .ok (.iaload, 1) := by decide +kernel
theorem dL_law_488 : decode cL_law 488 = .ok (.invokevirtual 62, 3) := by decide +kernel
theorem dL_law_491 : decode cL_law 491 = .ok (.aload_n 2, 1) := by decide +kernel
theorem dL_law_492 : decode cL_law 492 = .ok (.aload_n 0, 1) := by decide +kernel
theorem dL_law_493 : decode cL_law 493 = .ok (.iload_n 3, 1) := by decide +kernel
theorem dL_law_494 : decode cL_law 494 = .ok (.iconst 1, 1) := by decide +kernel
theorem dL_law_495 : decode cL_law 495 = .ok (.iadd, 1) := by decide +kernel
theorem dL_law_496 : decode cL_law 496 = .ok (.iaload, 1) := by decide +kernel
theorem dL_law_497 : decode cL_law 497 = .ok (.aload_n 0, 1) := by decide +kernel
theorem dL_law_498 : decode cL_law 498 = .ok (.iload_n 3, 1) := by decide +kernel
theorem dL_law_499 : decode cL_law 499 = .ok (.iconst 2, 1) := by decide +kernel
theorem dL_law_500 : decode cL_law 500 = .ok (.iadd, 1) := by decide +kernel
theorem dL_law_501 : decode cL_law 501 = .ok (.iaload, 1) := by decide +kernel
theorem dL_law_502 : decode cL_law 502 = .ok (.invokevirtual 66, 3) := by decide +kernel
theorem dL_law_505 : decode cL_law 505 = .ok (.if_icmp .eq 103, 3) := by decide +kernel
theorem dL_law_508 : decode cL_law 508 = .ok (.iconst 0, 1) := by decide +kernel
theorem dL_law_509 : decode cL_law 509 = .ok (.ireturn, 1) := by decide +kernel
theorem dL_law_510 : decode cL_law 510 = .ok (.aload_n 1, 1) := by decide +kernel
theorem dL_law_511 : decode cL_law 511 = .ok (.invokevirtual 67, 3) := by decide +kernel
theorem dL_law_514 : decode cL_law 514 = .ok (.aload_n 2, 1) := by decide +kernel
theorem dL_law_515 : decode cL_law 515 = .ok (.invokevirtual 71, 3) := by decide +kernel
theorem dL_law_518 : decode cL_law 518 = .ok (.if_icmp .eq 90, 3) := by decide +kernel
theorem dL_law_521 : decode cL_law 521 = .ok (.iconst 0, 1) := by decide +kernel
theorem dL_law_522 : decode cL_law 522 = .ok (.ireturn, 1) := by decide +kernel
theorem dL_law_523 : decode cL_law 523 = .ok (.aload_n 1, 1) := by decide +kernel
theorem dL_law_524 : decode cL_law 524 = .ok (.invokevirtual 72, 3) := by decide +kernel
theorem dL_law_527 : decode cL_law 527 = .ok (.aload_n 2, 1) := by decide +kernel
theorem dL_law_528 : decode cL_law 528 = .ok (.invokevirtual 76, 3) := by decide +kernel
theorem dL_law_531 : decode cL_law 531 = .ok (.if_icmp .eq 77, 3) := by decide +kernel
theorem dL_law_534 : decode cL_law 534 = .ok (.iconst 0, 1) := by decide +kernel
theorem dL_law_535 : decode cL_law 535 = .ok (.ireturn, 1) := by decide +kernel
theorem dL_law_536 : decode cL_law 536 = .ok (.aload_n 1, 1) := by decide +kernel
theorem dL_law_537 : decode cL_law 537 = .ok (.aload_n 0, 1) := by decide +kernel
theorem dL_law_538 : decode cL_law 538 = .ok (.iload_n 3, 1) := by decide +kernel
theorem dL_law_539 : decode cL_law 539 = .ok (.iconst 1, 1) := by decide +kernel
theorem dL_law_540 : decode cL_law 540 = .ok (.iadd, 1) := by decide +kernel
theorem dL_law_541 : decode cL_law 541 = .ok (.iaload, 1) := by decide +kernel
theorem dL_law_542 : decode cL_law 542 = .ok (.invokevirtual 77, 3) := by decide +kernel
theorem dL_law_545 : decode cL_law 545 = .ok (.aload_n 2, 1) := by decide +kernel
theorem dL_law_546 : decode cL_law 546 = .ok (.aload_n 0, 1) := by decide +kernel
theorem dL_law_547 : decode cL_law 547 = .ok (.iload_n 3, 1) := by decide +kernel
theorem dL_law_548 : decode cL_law 548 = .ok (.iconst 1, 1) := by decide +kernel
theorem dL_law_549 : decode cL_law 549 = .ok (.iadd, 1) := by decide +kernel
theorem dL_law_550 : decode cL_law 550 = .ok (.iaload, 1) := by decide +kernel
theorem dL_law_551 : decode cL_law 551 = .ok (.invokevirtual 80, 3) := by decide +kernel
theorem dL_law_554 : decode cL_law 554 = .ok (.if_icmp .eq 54, 3) := by decide +kernel
theorem dL_law_557 : decode cL_law 557 = .ok (.iconst 0, 1) := by decide +kernel
theorem dL_law_558 : decode cL_law 558 = .ok (.ireturn, 1) := by decide +kernel
theorem dL_law_559 : decode cL_law 559 = .ok (.aload_n 1, 1) := by decide +kernel
theorem dL_law_560 : decode cL_law 560 = .ok (.aload_n 0, 1) := by decide +kernel
theorem dL_law_561 : decode cL_law 561 = .ok (.iload_n 3, 1) := by decide +kernel
theorem dL_law_562 : decode cL_law 562 = .ok (.iconst 1, 1) := by decide +kernel
theorem dL_law_563 : decode cL_law 563 = .ok (.iadd, 1) := by decide +kernel
end
section
theorem dL_law_564 : decode cL_law 564 = .ok (.iaload, 1) := by decide +kernel
theorem dL_law_565 : decode cL_law 565 = .ok (.invokevirtual 81, 3) := by decide +kernel
theorem dL_law_568 : decode cL_law 568 = .ok (.aload_n 2, 1) := by decide +kernel
theorem dL_law_569 : decode cL_law 569 = .ok (.aload_n 0, 1) := by decide +kernel
theorem dL_law_570 : decode cL_law 570 = .ok (.iload_n 3, 1) := by decide +kernel
theorem dL_law_571 : decode cL_law 571 = .ok (.iconst 1, 1) := by decide +kernel
theorem dL_law_572 : decode cL_law 572 = .ok (.iadd, 1) := by decide +kernel
theorem dL_law_573 : decode cL_law 573 = .ok (.iaload, 1) := by decide +kernel
theorem dL_law_574 : decode cL_law 574 = .ok (.invokevirtual 84, 3) := by decide +kernel
theorem dL_law_577 : decode cL_law 577 = .ok (.if_icmp .eq 31, 3) := by decide +kernel
theorem dL_law_580 : decode cL_law 580 = .ok (.iconst 0, 1) := by decide +kernel
theorem dL_law_581 : decode cL_law 581 = .ok (.ireturn, 1) := by decide +kernel
theorem dL_law_582 : decode cL_law 582 = .ok (.aload_n 1, 1) := by decide +kernel
theorem dL_law_583 : decode cL_law 583 = .ok (.invokevirtual 85, 3) := by decide +kernel
theorem dL_law_586 : decode cL_law 586 = .ok (.aload_n 2, 1) := by decide +kernel
theorem dL_law_587 : decode cL_law 587 = .ok (.invokevirtual 88, 3) := by decide +kernel
theorem dL_law_590 : decode cL_law 590 = .ok (.if_icmp .eq 18, 3) := by decide +kernel
theorem dL_law_593 : decode cL_law 593 = .ok (.iconst 0, 1) := by decide +kernel
theorem dL_law_594 : decode cL_law 594 = .ok (.ireturn, 1) := by decide +kernel
theorem dL_law_595 : decode cL_law 595 = .ok (.aload_n 1, 1) := by decide +kernel
theorem dL_law_596 : decode cL_law 596 = .ok (.invokevirtual 89, 3) := by decide +kernel
theorem dL_law_599 : decode cL_law 599 = .ok (.aload_n 2, 1) := by decide +kernel
theorem dL_law_600 : decode cL_law 600 = .ok (.invokevirtual 92, 3) := by decide +kernel
theorem dL_law_603 : decode cL_law 603 = .ok (.if_icmp .eq 5, 3) := by decide +kernel
theorem dL_law_606 : decode cL_law 606 = .ok (.iconst 0, 1) := by decide +kernel
theorem dL_law_607 : decode cL_law 607 = .ok (.ireturn, 1) := by decide +kernel
theorem dL_law_608 : decode cL_law 608 = .ok (.iinc 3 5, 3) := by decide +kernel
theorem dL_law_611 : decode cL_law 611 = .ok (.goto (-593), 3) := by decide +kernel
theorem dL_law_614 : decode cL_law 614 = .ok (.iconst 1, 1) := by decide +kernel
theorem dL_law_615 : decode cL_law 615 = .ok (.ireturn, 1) := by decide +kernel
end
section
/-! THE WORLD BY NUMBERS: every cell that came since the law began lies at B + i; g i is what it holds. -/
def lw_good : List Cond := lw_tbl.filter goodWord
theorem mg {w : Cond} (h : w ∈ lw_tbl) (hg : goodWord w = true) : w ∈ lw_good := List.mem_filter.mpr ⟨h, hg⟩
theorem mgT (k : Nat) {w : Cond} (h : tables_1[k]? = some w) (hg : goodWord w = true) : w ∈ lw_good := mg (List.mem_append_right _ (List.mem_of_getElem? h)) hg
theorem mgS (k : Nat) {q : MethodName × Nat} (h : lw_privs[k]? = some q) (hg : goodWord (Cond.selects q.1.cls q.1 q.1) = true) : Cond.selects q.1.cls q.1 q.1 ∈ lw_good := mg (List.mem_append_left _ (List.mem_map.mpr ⟨q, List.mem_of_getElem? h, rfl⟩)) hg
theorem lw_good_in {w : Cond} (h : w ∈ lw_good) : w ∈ lw_tbl ∧ goodWord w = true := List.mem_filter.mp h
abbrev wu (y : MethodName) (cc : ByteArray) (n : Nat) (ret : Option FieldType) : List Cond := Cond.code y cc n ret :: lw_good
theorem wu_good {y : MethodName} {cc : ByteArray} {n : Nat} {ret : Option FieldType} (h : Cond.code y cc n ret ∈ lw_good) : GoodIn lw_good (wu y cc n ret) := fun w hw => by
  have hm : w ∈ lw_good := by
    rcases List.mem_cons.mp hw with e | e
    · rw [e]; exact h
    · exact e
  exact ⟨hm, good_of_word (lw_good_in hm).2⟩
theorem va_up_s {α : Type} {f : Nat → α} {k : Nat} {v : α} : va_up f k v k = v := if_pos rfl
theorem va_up_n {α : Type} {f : Nat → α} {k j : Nat} {v : α} (h : j ≠ k) : va_up f k v j = f j := if_neg h
/-- the array classes: int, boolean, Row, Run, int[] -/
abbrev Gx : Type := ClassId × ClassId × ClassId × ClassId × ClassId
abbrev tysOf (t : Gx) : List (ClassId × FieldType) := [(t.1, .int), (t.2.1, .boolean), (t.2.2.1, .object RX4), (t.2.2.2.1, .object RX5), (t.2.2.2.2, .array .int)]
abbrev wl (B N : Nat) (g : Nat → va_E) : va_W := (List.range N).map (fun i => (B + i, g i))
theorem wl_get {B N i : Nat} {g : Nat → va_E} (h : i < N) : (wl B N g)[i]? = some (B + i, g i) := by
  rw [List.getElem?_map, List.getElem?_range h]
  rfl
theorem wl_inv {B N k : Nat} {g : Nat → va_E} {q : Nat × va_E} (h : (wl B N g)[k]? = some q) : k < N ∧ q = (B + k, g k) := by
  have hk : k < N := by
    have := (List.getElem?_eq_some_iff.mp h).1
    simpa using this
  rw [wl_get hk] at h
  exact ⟨hk, (Option.some.inj h).symm⟩
def Hp (D : va_G) (B N : Nat) (g : Nat → va_E) (H : Heap) : Prop := H.size = B + N ∧ ∀ i, i < N → va_at D vwCl (B + i, g i) H
theorem Hp.P {D : va_G} {B N : Nat} {g : Nat → va_E} {H : Heap} (h : Hp D B N g H) : va_P D vwCl (wl B N g) H := fun k q hq => by
  obtain ⟨hk, e⟩ := wl_inv hq
  rw [e]
  exact h.2 k hk
theorem Hp.put {D : va_G} {B N i : Nat} {g : Nat → va_E} {H H1 : Heap} {e : va_E} (h : Hp D B N g H) (he : va_at D vwCl (B + i, e) H1) (z : H1.size = H.size) (oq : ∀ q : Nat, q ≠ B + i → H1[q]? = H[q]?) : Hp D B N (va_up g i e) H1 := by
  refine ⟨z.trans h.1, fun j hj => ?_⟩
  by_cases hji : j = i
  · subst hji
    rw [va_up_s]
    exact he
  · rw [va_up_n hji]
    exact (h.2 j hj).kept (oq _ (by show B + j ≠ B + i; omega))
theorem Hp.push {D : va_G} {B N : Nat} {g : Nat → va_E} {H H1 : Heap} {e : va_E} (h : Hp D B N g H) (he : va_at D vwCl (B + N, e) H1) (z : H1.size = H.size + 1) (oq : ∀ q : Nat, q < H.size → H1[q]? = H[q]?) : Hp D B (N + 1) (va_up g N e) H1 := by
  refine ⟨by rw [z, h.1]; omega, fun j hj => ?_⟩
  by_cases hji : j = N
  · subst hji
    rw [va_up_s]
    exact he
  · rw [va_up_n hji]
    exact (h.2 j (by omega)).kept (oq _ (by show B + j < H.size; rw [h.1]; omega))
/-- the world now, and what has changed since the method began -/
def St (D : va_G) (B : Nat) (H0 : Heap) (N : Nat) (g : Nat → va_E) (H : Heap) (locs : List Loc) : Prop := Hp D B N g H ∧ va_S (fun q => B ≤ q) H0 H locs
theorem St.size {D : va_G} {B N : Nat} {H0 H : Heap} {g : Nat → va_E} {locs : List Loc} (h : St D B H0 N g H locs) : H.size = B + N := h.1.1
theorem St.cell {D : va_G} {B N i : Nat} {H0 H : Heap} {g : Nat → va_E} {locs : List Loc} {e : va_E} (h : St D B H0 N g H locs) (hi : i < N) (he : g i = e) : va_at D vwCl (B + i, e) H := by
  rw [← he]
  exact h.1.2 i hi
theorem St.put {D : va_G} {B N i k : Nat} {H0 H H1 : Heap} {g : Nat → va_E} {locs : List Loc} {e : va_E} (h : St D B H0 N g H locs) (he : va_at D vwCl (B + i, e) H1) (z : H1.size = H.size) (oq : ∀ q : Nat, q ≠ B + i → H1[q]? = H[q]?) : St D B H0 N (va_up g i e) H1 (locs ++ [⟨B + i, k⟩]) := ⟨h.1.put he z oq, h.2.put z oq (Nat.le_add_right _ _)⟩
theorem St.push {D : va_G} {B N : Nat} {H0 H H1 : Heap} {g : Nat → va_E} {locs : List Loc} {e : va_E} (h : St D B H0 N g H locs) (he : va_at D vwCl (B + N, e) H1) (z : H1.size = H.size + 1) (oq : ∀ q : Nat, q < H.size → H1[q]? = H[q]?) : St D B H0 (N + 1) (va_up g N e) H1 locs :=
  ⟨h.1.push he z oq, Nat.le_trans h.2.1 (by omega), fun x h1 h2 => (oq x (Nat.lt_of_lt_of_le h1 h.2.1)).trans (h.2.2.1 x h1 h2), h.2.2.2⟩
def nestL : List (String × Nat × MethodName) := [(RX7, 11, yX3_init), (RX7, 18, yX6_init), (RX7, 25, yX1_init), (RX7, 32, yX5_init), (RX7, 39, yX4_init), (RX2, 22, yX5_init), (RX2, 33, yX4_init), (RX0, 23, yX4_init), (RX0, 35, yX5_init)]
def Hk (D : va_G) (t : Gx) (U : State) : Prop := va_K D vwCl (tysOf t) U ∧ (∀ q ∈ nestL, va_Nw (.methodLinkNest q.1 q.2.1 q.2.2 RX7) U) ∧ va_AO RX4 U ∧ va_AO RX5 U ∧ va_Nw (.arrayOver (.array .int)) U
theorem ao_moved {ty : FieldType} {u U : State} (hvm : u.vm.Alike U.vm) (h : va_Nw (.arrayOver ty) u) : va_Nw (.arrayOver ty) U := by
  have h1 : (Cond.arrayOver ty).before #[] (u.setVm U.vm) = true := by rw [Cond.arrayOver_setVmC hvm]; exact h
  exact h1
theorem Hk.warm {D : va_G} {t : Gx} {s U : State} (hW : s.WarmedH U.vm) (h : Hk D t s) : Hk D t U :=
  ⟨va_K.moved hW.alike h.1, fun q hq => va_Nw.warmM hW (h.2.1 q hq), va_AO.moved hW.alike h.2.2.1, va_AO.moved hW.alike h.2.2.2.1, ao_moved hW.alike h.2.2.2.2⟩
theorem Hk.same {D : va_G} {t : Gx} {s U : State} (e : s.vm = U.vm) (h : Hk D t s) : Hk D t U := by
  have hal : s.vm.Alike U.vm := by rw [e]; exact Vm.Alike.refl U.vm
  exact ⟨va_K.moved hal h.1, fun q hq => va_Nw.same rfl e (h.2.1 q hq), va_AO.moved hal h.2.2.1, va_AO.moved hal h.2.2.2.1, ao_moved hal h.2.2.2.2⟩
/-- what holds of a method's body -/
def Cx (D : va_G) (t : Gx) (p : Program) (s : State) (m : MethodId) (args : Array Value) (c : Code) (cc : ByteArray) (nL : Nat) (own : String) : Prop :=
  CallFix p m c cc nL s args lw_good own ∧ Hk D t s
abbrev preH (D : va_G) (t : Gx) (B N : Nat) (g : Nat → va_E) : State → Prop := fun U => Hp D B N g U.heap ∧ Hk D t U
abbrev qI (D : va_G) (B N : Nat) (post : Int32 → (Nat → va_E) → Prop) : Array Value → State → Outcome → State → Prop := va_Qi post (fun g' u => Hp D B N g' u.heap) (fun q => B ≤ q)
abbrev qV (D : va_G) (B N : Nat) (post : (Nat → va_E) → Prop) : Array Value → State → Outcome → State → Prop := va_Qv post (fun g' u => Hp D B N g' u.heap) (fun q => B ≤ q)
abbrev rmOf (fr lo mc ms : Nat) : Room := { frames := fr, cells := mc, slots := ms, locals := lo }
/-- a contract whose answer is an int -/
def Ci (l : Launch) (D : va_G) (t : Gx) (B N : Nat) (y : MethodName) (cc : ByteArray) (nL : Nat) (ret : Option FieldType) (fr lo : Nat) (g : Nat → va_E) (av : List Value) (post : Int32 → (Nat → va_E) → Prop) : Prop :=
  Met l y (wu y cc nL ret) (rmOf fr lo 0 0) (va_Pc av (preH D t B N g)) (qI D B N post) 0 0 (fun q => B ≤ q)
/-- a contract without an answer -/
def Cv (l : Launch) (D : va_G) (t : Gx) (B N N' mc ms : Nat) (y : MethodName) (cc : ByteArray) (nL : Nat) (fr lo : Nat) (g : Nat → va_E) (av : List Value) (post : (Nat → va_E) → Prop) : Prop :=
  Met l y (wu y cc nL none) (rmOf fr lo mc ms) (va_Pc av (preH D t B N g)) (qV D B N' post) mc ms (fun q => B ≤ q)
theorem pre_blind {D : va_G} {t : Gx} {B N : Nat} {g : Nat → va_E} {av : List Value} : FrameBlind (va_Pc av (preH D t B N g)) := fun _ _ _ _ q => ⟨q.1, q.2.1, q.2.2.same rfl⟩
theorem Ci.start {l : Launch} {D : va_G} {t : Gx} {B N : Nat} {y : MethodName} {cc : ByteArray} {nL : Nat} {ret : Option FieldType} {fr lo : Nat} {g : Nat → va_E} {av : List Value} {post : Int32 → (Nat → va_E) → Prop} (hy : plainName y.cls = true) (hlen : (lg_sl av).length ≤ nL)
    (body : ∀ (p : Program) (e : Env) (s : State) (m : MethodId) (below : List Frame) (meth : Method) (c : Code) (ls : Array Slot), Cx D t p s m av.toArray c cc nL y.cls → meth.sig.returnType = ret → meth.locks = false → St D B s.heap N g s.heap [] → lv_has ls nL (lv_args 0 av) →
      W p l e (rmOf fr lo 0 0) s m av.toArray below meth c s.heap [] 0 0 (MQ below (qI D B N post) av.toArray s 0 0 (fun q => B ≤ q)) (F0 m 0 ls [])) : Ci l D t B N y cc nL ret fr lo g av post := by
  refine Met.ofW (cc := cc) (maxL := nL) (ret := ret) hy rfl ?_
  intro p e s m args below meth c s₁ Bd hml hv
  obtain ⟨rfl, hP, hK⟩ := hv
  have hts := atoms_spec (ws := wu y cc nL ret) Bd.pre
  rw [lg_entry_eq]
  exact body p e s m below meth c _ ⟨⟨Bd.exec, Bd.bytes, hml, findClass_of_methodNamed Bd.named, fun w hw => hts w (List.mem_cons_of_mem _ hw)⟩, hK⟩ Bd.returns Bd.notSynchronized ⟨hP, va_S.rf⟩ (lv_entry av hlen)
theorem Cv.start {l : Launch} {D : va_G} {t : Gx} {B N N' mc ms : Nat} {y : MethodName} {cc : ByteArray} {nL : Nat} {fr lo : Nat} {g : Nat → va_E} {av : List Value} {post : (Nat → va_E) → Prop} (hy : plainName y.cls = true) (hlen : (lg_sl av).length ≤ nL)
    (body : ∀ (p : Program) (e : Env) (s : State) (m : MethodId) (below : List Frame) (meth : Method) (c : Code) (ls : Array Slot), Cx D t p s m av.toArray c cc nL y.cls → meth.sig.returnType = none → meth.locks = false → meth.name = y.name → St D B s.heap N g s.heap [] → lv_has ls nL (lv_args 0 av) →
      W p l e (rmOf fr lo mc ms) s m av.toArray below meth c s.heap [] 0 0 (MQ below (qV D B N' post) av.toArray s mc ms (fun q => B ≤ q)) (F0 m 0 ls [])) : Cv l D t B N N' mc ms y cc nL fr lo g av post := by
  refine Met.ofW (cc := cc) (maxL := nL) (ret := none) hy rfl ?_
  intro p e s m args below meth c s₁ Bd hml hv
  obtain ⟨rfl, hP, hK⟩ := hv
  have hts := atoms_spec (ws := wu y cc nL none) Bd.pre
  rw [lg_entry_eq]
  exact body p e s m below meth c _ ⟨⟨Bd.exec, Bd.bytes, hml, findClass_of_methodNamed Bd.named, fun w hw => hts w (List.mem_cons_of_mem _ hw)⟩, hK⟩ Bd.returns Bd.notSynchronized (name_of_methodNamed Bd.named Bd.method).1 ⟨hP, va_S.rf⟩ (lv_entry av hlen)
/-- a class's own facts: its number, its fields -/
def CK (ci : Nat) (C : String) (T : u_T) (N : Nat) (ty0 : Nat → FieldType) : Prop := vwCl[ci]? = some (C, T, N) ∧ (∀ w ∈ u_ws C T N, w ∈ lw_good) ∧ (∀ k, k < N → parseFieldDescriptor (T k).2.2.1 = some (ty0 k)) ∧ (∀ a, a < N → ∀ b, b < N → a ≠ b → (T a).2.1 ≠ (T b).2.1)
/-- a method's own facts -/
def MF (y : MethodName) (cc : ByteArray) (nL : Nat) (ret : Option FieldType) (n : Nat) : Prop := Cond.initialized y.cls ∈ lw_good ∧ Cond.code y cc nL ret ∈ lw_good ∧ y.cls ≠ "java/lang/invoke/MethodHandle" ∧ y.cls ≠ "java/lang/invoke/VarHandle" ∧ (parseMethodDescriptor y.desc).map (fun d => d.parameters.length) = some n
section RO
variable {p : Program} {l : Launch} {e : Env} {R : Room} {s : State} {m : MethodId} {args : Array Value} {below : List Frame} {meth : Method} {c : Code} {H : Heap} {locs : List Loc} {cells slots : Nat} {Q : State → Prop}
variable {cc : ByteArray} {pc nL : Nat} {ls : Array Slot} {rest : List Value} {D : va_G} {t : Gx} {own : String} {B N : Nat} {g : Nat → va_E} {H0 : Heap}
theorem Cx.x (C : Cx D t p s m args c cc nL own) : p.tables.exec = Jvm.exec := C.1.1
theorem Cx.b (C : Cx D t p s m args c cc nL own) : c.code = cc := C.1.2.1
theorem Cx.o (C : Cx D t p s m args c cc nL own) : s.vm.findClass own = some m.cls := C.1.2.2.2.1
theorem Cx.w (C : Cx D t p s m args c cc nL own) {w : Cond} (h : w ∈ lw_good) : w.before args s = true := C.1.2.2.2.2 w h
theorem Cx.k (C : Cx D t p s m args c cc nL own) : va_K D vwCl (tysOf t) s := C.2.1
theorem r_iret {post : Int32 → (Nat → va_E) → Prop} {v : Int32} (C : Cx D t p s m args c cc nL own) (hr : meth.sig.returnType = some .int) (hlocks : meth.locks = false) (hS : St D B s.heap N g H locs) (hp : post v g) (hdg : decode cc pc = .ok (.ireturn, 1)) :
    W p l e R s m args below meth c H locs cells slots (MQ below (qI D B N post) args s cells slots (fun q => B ≤ q)) (F0 m pc ls [.int v]) :=
  W.iret C.x C.b hr (fun u hu _ => ⟨⟨v, g, rfl, hp, show Hp D B N g u.heap by rw [hu]; exact hS.1⟩, hS.2.F hu⟩) hS.2.2.2 hdg hlocks
theorem nar_z {v : Int32} (h : v = 0 ∨ v = 1) : narrow .boolean (.int v) = .int v := by
  rcases h with h | h <;> subst h <;> rfl
theorem r_zret {post : Int32 → (Nat → va_E) → Prop} {v : Int32} (C : Cx D t p s m args c cc nL own) (hr : meth.sig.returnType = some .boolean) (hlocks : meth.locks = false) (hS : St D B s.heap N g H locs) (hn : v = 0 ∨ v = 1) (hp : post v g) (hdg : decode cc pc = .ok (.ireturn, 1)) :
    W p l e R s m args below meth c H locs cells slots (MQ below (qI D B N post) args s cells slots (fun q => B ≤ q)) (F0 m pc ls [.int v]) :=
  W.zret C.x C.b hr (nar_z hn) (fun u hu _ => ⟨⟨v, g, rfl, hp, show Hp D B N g u.heap by rw [hu]; exact hS.1⟩, hS.2.F hu⟩) hS.2.2.2 hdg hlocks
theorem r_vret {post : (Nat → va_E) → Prop} (C : Cx D t p s m args c cc nL own) (hr : meth.sig.returnType = none) (hlocks : meth.locks = false) (hS : St D B s.heap N g H locs) (hp : post g) (hdg : decode cc pc = .ok (.return_, 1)) :
    W p l e R s m args below meth c H locs cells slots (MQ below (qV D B N post) args s cells slots (fun q => B ≤ q)) (F0 m pc ls []) :=
  W.vret C.x C.b hr (fun u hu _ => ⟨⟨g, rfl, hp, show Hp D B N g u.heap by rw [hu]; exact hS.1⟩, hS.2.F hu⟩) hS.2.2.2 hdg hlocks
theorem r_get {ci Nf k index i : Nat} {Cn : String} {T : u_T} {ty0 : Nat → FieldType} {fs : List Value} {v : Value} (K : CK ci Cn T Nf ty0) (hl : Cond.fieldLink own index (T k).1 (T k).2.1 (T k).2.2.1 ∈ lw_good) (C : Cx D t p s m args c cc nL own) (hS : St D B H0 N g H locs) (hi : i < N) (he : g i = .inr (ci, fs)) (hk : k < Nf) (hv : fs[k]? = some v) (hdg : decode cc pc = .ok (.getfield index, 3))
    (kk : W p l e R s m args below meth c H locs cells slots Q (F0 m (pc + 3) ls (v :: rest))) : W p l e R s m args below meth c H locs cells slots Q (F0 m pc ls (.ref (B + i) :: rest)) :=
  va_get (D := D) (ci := ci) (v := v) (C := Cn) (T := T) (N := Nf) (Ts := lw_good) C.x C.b C.1.2.2.2.2 K.2.1 C.o C.k hS.1.P i (by rw [wl_get hi, he]) K.1 k hk (C.w hl) (fun _ h9 => h9) hv hdg kk
theorem r_put {ci Nf k index i : Nat} {Cn : String} {T : u_T} {ty0 : Nat → FieldType} {fs : List Value} {v : Value} (K : CK ci Cn T Nf ty0) (hl : Cond.fieldLink own index (T k).1 (T k).2.1 (T k).2.2.1 ∈ lw_good) (C : Cx D t p s m args c cc nL own) (hS : St D B H0 N g H locs) (hi : i < N) (he : g i = .inr (ci, fs)) (hk : k < Nf) (hfin : (T k).2.2.2 = false) (hn : narrow (ty0 k) v = v) (hfit : fits (ty0 k) v = true) (hlen : k < fs.length) (hdg : decode cc pc = .ok (.putfield index, 3))
    (kk : ∀ (g' : Nat → va_E) (H1 : Heap) (locs1 : List Loc), g' i = .inr (ci, fs.set k v) → (∀ j, j ≠ i → g' j = g j) → St D B H0 N g' H1 locs1 → W p l e R s m args below meth c H1 locs1 cells slots Q (F0 m (pc + 3) ls rest)) : W p l e R s m args below meth c H locs cells slots Q (F0 m pc ls (v :: .ref (B + i) :: rest)) := by
  have hap := va_apart (own := own) C.1.2.2.2.2 K.2.1 ty0 K.2.2.1 K.2.2.2 C.k K.1
  obtain ⟨r, h1, cell, q1, q2, q3, q4⟩ := hS.cell hi he
  have hr : r = (Cn, T, Nf) := Option.some.inj (h1.symm.trans K.1)
  subst hr
  obtain ⟨hSl, hfc, kC, hkC, hkind⟩ := C.k.1 ci _ K.1
  obtain ⟨cf, kf, fi, f, hif, hsl⟩ := hSl k hk
  have hlay := C.w (K.2.1 _ (u_in_lay hk))
  unfold u_lay at hlay
  rw [if_neg (by rw [hfin]; decide)] at hlay
  have hst := (u_facts hfc hkC (u_lays C.1.2.2.2.2 K.2.1 hk) hif).1
  have h6 := u_store hfc hkC hkind hlay hif (K.2.2.1 k hk) hn hfit
  refine W.putK C.x C.b (f := f) ⟨C.o, C.w hl, ⟨_, _, _, hif⟩, hst⟩ (by rw [q2]; exact h6) q1 q3 (by rw [hsl]; exact k2_hasslot (q4 k hk)) rfl rfl hdg fun H' e1 e2 e3 => ?_
  rw [hsl] at e1 ⊢
  exact kk _ H' _ va_up_s (fun j hj => va_up_n hj) (hS.put (e := .inr (ci, fs.set k v)) ⟨_, K.1, t_OB.to (V := updV (vp_V fs) k v) ⟨_, e1, q2, q3, t_set q4 hap hk v⟩ (fun j _ => vp_updV_set hlen v j)⟩ e2 e3)
theorem r_putF {ci Nf k index i : Nat} {Cn : String} {T : u_T} {ty0 : Nat → FieldType} {fs : List Value} {v : Value} (K : CK ci Cn T Nf ty0) (hl : Cond.fieldLink own index (T k).1 (T k).2.1 (T k).2.2.1 ∈ lw_good) (C : Cx D t p s m args c cc nL own) (hS : St D B H0 N g H locs) (hi : i < N) (he : g i = .inr (ci, fs)) (hk : k < Nf) (hfin : (T k).2.2.2 = true) (hin2 : meth.name = "<init>") (hdecl : (T k).1 = own) (hn : narrow (ty0 k) v = v) (hfit : fits (ty0 k) v = true) (hlen : k < fs.length) (hdg : decode cc pc = .ok (.putfield index, 3))
    (kk : ∀ (g' : Nat → va_E) (H1 : Heap) (locs1 : List Loc), g' i = .inr (ci, fs.set k v) → (∀ j, j ≠ i → g' j = g j) → St D B H0 N g' H1 locs1 → W p l e R s m args below meth c H1 locs1 cells slots Q (F0 m (pc + 3) ls rest)) : W p l e R s m args below meth c H locs cells slots Q (F0 m pc ls (v :: .ref (B + i) :: rest)) := by
  have hap := va_apart (own := own) C.1.2.2.2.2 K.2.1 ty0 K.2.2.1 K.2.2.2 C.k K.1
  obtain ⟨r, h1, cell, q1, q2, q3, q4⟩ := hS.cell hi he
  have hr : r = (Cn, T, Nf) := Option.some.inj (h1.symm.trans K.1)
  subst hr
  obtain ⟨hSl, hfc, kC, hkC, hkind⟩ := C.k.1 ci _ K.1
  obtain ⟨cf, kf, fi, f, hif, hsl⟩ := hSl k hk
  have hlay := C.w (K.2.1 _ (u_in_lay hk))
  unfold u_lay at hlay
  rw [if_pos hfin] at hlay
  have hst := (u_facts hfc hkC (u_lays C.1.2.2.2.2 K.2.1 hk) hif).1
  have hcf : m.cls = cf := by
    obtain ⟨_, _, c', _, _, _, -, -, hf', -, -, -, hown2, -⟩ := Cond.laysFinal_spec hlay
    have e1 : c' = cf := by have := hif.symm.trans hf'; simp at this; exact this.1.symm
    rw [hdecl] at hown2
    rw [← e1]; exact Option.some.inj (C.o.symm.trans hown2)
  have h6 := u_fits hfc hkC hkind (Or.inr hlay) hif (K.2.2.1 k hk) hn hfit
  refine W.putFinK C.x C.b C.o (C.w hl) hif hst hcf hin2 (by rw [q2]; exact h6) q1 q3 (by rw [hsl]; exact k2_hasslot (q4 k hk)) rfl rfl hdg fun H' e1 e2 e3 => ?_
  rw [hsl] at e1 ⊢
  exact kk _ H' _ va_up_s (fun j hj => va_up_n hj) (hS.put (e := .inr (ci, fs.set k v)) ⟨_, K.1, t_OB.to (V := updV (vp_V fs) k v) ⟨_, e1, q2, q3, t_set q4 hap hk v⟩ (fun j _ => vp_updV_set hlen v j)⟩ e2 e3)
end RO
end
section
/-! array rows, making, calls -/
section RO
variable {p : Program} {l : Launch} {e : Env} {R : Room} {s : State} {m : MethodId} {args : Array Value} {below : List Frame} {meth : Method} {c : Code} {H : Heap} {locs : List Loc} {cells slots : Nat} {Q : State → Prop}
variable {cc : ByteArray} {pc nL : Nat} {ls : Array Slot} {rest : List Value} {D : va_G} {t : Gx} {own : String} {B N : Nat} {g : Nat → va_E} {H0 : Heap}
theorem r_iald {i n : Nat} {f : Nat → Int32} {x : Int32} (C : Cx D t p s m args c cc nL own) (hS : St D B H0 N g H locs) (hi : i < N) (he : g i = .inl (t.1, n, .inl f)) (hin : vp_in x n) (hdg : decode cc pc = .ok (.iaload, 1))
    (kk : W p l e R s m args below meth c H locs cells slots Q (F0 m (pc + 1) ls (.int (f x.toNatClampNeg) :: rest))) : W p l e R s m args below meth c H locs cells slots Q (F0 m pc ls (.int x :: .ref (B + i) :: rest)) :=
  va_iald C.x C.b C.k hS.1.P i 0 (by rw [wl_get hi, he]) rfl hin hdg kk
theorem r_ialdN {i n : Nat} {f : Nat → Int32} (k : Nat) {x : Int32} (hx : x = nI k) (hk : k < n) (hn : n < 2 ^ 31) (C : Cx D t p s m args c cc nL own) (hS : St D B H0 N g H locs) (hi : i < N) (he : g i = .inl (t.1, n, .inl f)) (hdg : decode cc pc = .ok (.iaload, 1))
    (kk : W p l e R s m args below meth c H locs cells slots Q (F0 m (pc + 1) ls (.int (f k) :: rest))) : W p l e R s m args below meth c H locs cells slots Q (F0 m pc ls (.int x :: .ref (B + i) :: rest)) := by
  subst hx
  refine r_iald C hS hi he (vp_in_nI hk hn) hdg ?_
  rw [nI_clamp (by omega)]
  exact kk
theorem r_zald {i n : Nat} {f : Nat → Int32} {x : Int32} (C : Cx D t p s m args c cc nL own) (hS : St D B H0 N g H locs) (hi : i < N) (he : g i = .inl (t.2.1, n, .inl f)) (hin : vp_in x n) (hdg : decode cc pc = .ok (.baload, 1))
    (kk : W p l e R s m args below meth c H locs cells slots Q (F0 m (pc + 1) ls (.int (f x.toNatClampNeg) :: rest))) : W p l e R s m args below meth c H locs cells slots Q (F0 m pc ls (.int x :: .ref (B + i) :: rest)) :=
  va_zald C.x C.b C.k hS.1.P i 1 (by rw [wl_get hi, he]) rfl hin hdg kk
theorem r_zaldN {i n : Nat} {f : Nat → Int32} (k : Nat) {x : Int32} (hx : x = nI k) (hk : k < n) (hn : n < 2 ^ 31) (C : Cx D t p s m args c cc nL own) (hS : St D B H0 N g H locs) (hi : i < N) (he : g i = .inl (t.2.1, n, .inl f)) (hdg : decode cc pc = .ok (.baload, 1))
    (kk : W p l e R s m args below meth c H locs cells slots Q (F0 m (pc + 1) ls (.int (f k) :: rest))) : W p l e R s m args below meth c H locs cells slots Q (F0 m pc ls (.int x :: .ref (B + i) :: rest)) := by
  subst hx
  refine r_zald C hS hi he (vp_in_nI hk hn) hdg ?_
  rw [nI_clamp (by omega)]
  exact kk
theorem r_iast {i n : Nat} {f : Nat → Int32} {x v : Int32} (C : Cx D t p s m args c cc nL own) (hS : St D B H0 N g H locs) (hi : i < N) (he : g i = .inl (t.1, n, .inl f)) (hin : vp_in x n) (hdg : decode cc pc = .ok (.iastore, 1))
    (kk : ∀ (g' : Nat → va_E) (H1 : Heap) (locs1 : List Loc), g' i = .inl (t.1, n, .inl (upd f x.toNatClampNeg v)) → (∀ j, j ≠ i → g' j = g j) → St D B H0 N g' H1 locs1 → W p l e R s m args below meth c H1 locs1 cells slots Q (F0 m (pc + 1) ls rest)) : W p l e R s m args below meth c H locs cells slots Q (F0 m pc ls (.int v :: .int x :: .ref (B + i) :: rest)) := by
  refine W.iast C.x C.b (hS.cell hi he) ((C.k.2 0 _ rfl).1 n (fun j => .int (f j))) (fun q => by cases q) (by show ¬ (x < 0 ∨ (arrV _ _ _).slots.size ≤ _); rw [arrV_size]; exact hin) rfl rfl hdg fun H1 e z oq => ?_
  refine kk _ H1 _ va_up_s (fun j hj => va_up_n hj) (hS.put ?_ z oq)
  show H1[B + i]? = some (vp_cell _ _)
  rw [e, vp_cell_i, vp_cell_i, arrV_store]
  congr 2
  funext q
  by_cases hq : q = x.toNatClampNeg
  · subst hq
    simp [updV, upd]
  · simp [updV, upd, hq]
theorem r_iastN {i n : Nat} {f : Nat → Int32} (k : Nat) {x v : Int32} (hx : x = nI k) (hk : k < n) (hn : n < 2 ^ 31) (C : Cx D t p s m args c cc nL own) (hS : St D B H0 N g H locs) (hi : i < N) (he : g i = .inl (t.1, n, .inl f)) (hdg : decode cc pc = .ok (.iastore, 1))
    (kk : ∀ (g' : Nat → va_E) (H1 : Heap) (locs1 : List Loc), g' i = .inl (t.1, n, .inl (upd f k v)) → (∀ j, j ≠ i → g' j = g j) → St D B H0 N g' H1 locs1 → W p l e R s m args below meth c H1 locs1 cells slots Q (F0 m (pc + 1) ls rest)) : W p l e R s m args below meth c H locs cells slots Q (F0 m pc ls (.int v :: .int x :: .ref (B + i) :: rest)) := by
  subst hx
  refine r_iast C hS hi he (vp_in_nI hk hn) hdg (fun g' H1 locs1 h1 h2 h3 => kk g' H1 locs1 ?_ h2 h3)
  rw [h1, nI_clamp (by omega)]
theorem nar_zz {v : Int32} (h : v = 0 ∨ v = 1) : vp_nar .boolean v = v := by
  rcases h with h | h <;> subst h <;> rfl
theorem r_zastN {i n : Nat} {f : Nat → Int32} (k : Nat) {x v : Int32} (hx : x = nI k) (hk : k < n) (hn : n < 2 ^ 31) (hv : v = 0 ∨ v = 1) (C : Cx D t p s m args c cc nL own) (hS : St D B H0 N g H locs) (hi : i < N) (he : g i = .inl (t.2.1, n, .inl f)) (hdg : decode cc pc = .ok (.bastore, 1))
    (kk : ∀ (g' : Nat → va_E) (H1 : Heap) (locs1 : List Loc), g' i = .inl (t.2.1, n, .inl (upd f k v)) → (∀ j, j ≠ i → g' j = g j) → St D B H0 N g' H1 locs1 → W p l e R s m args below meth c H1 locs1 cells slots Q (F0 m (pc + 1) ls rest)) : W p l e R s m args below meth c H locs cells slots Q (F0 m pc ls (.int v :: .int x :: .ref (B + i) :: rest)) := by
  subst hx
  have hin : vp_in (nI k) n := vp_in_nI hk hn
  refine W.zast C.x C.b (hS.cell hi he) ((C.k.2 1 _ rfl).1 n (fun j => .int (f j))) (fun q => by cases q) (by show ¬ (nI k < 0 ∨ (arrV _ _ _).slots.size ≤ _); rw [arrV_size]; exact hin) rfl rfl hdg fun H1 e z oq => ?_
  refine kk _ H1 _ va_up_s (fun j hj => va_up_n hj) (hS.put ?_ z oq)
  show H1[B + i]? = some (vp_cell _ _)
  rw [e, nar_z hv, vp_cell_i, vp_cell_i, arrV_store, nI_clamp (by omega)]
  congr 2
  funext q
  by_cases hq : q = k
  · subst hq
    simp [updV, upd]
  · simp [updV, upd, hq]
theorem r_alen {i n : Nat} {f : Nat → Int32} (C : Cx D t p s m args c cc nL own) (hS : St D B H0 N g H locs) (hi : i < N) (he : g i = .inl (t.1, n, .inl f)) (hdg : decode cc pc = .ok (.arraylength, 1))
    (kk : W p l e R s m args below meth c H locs cells slots Q (F0 m (pc + 1) ls (.int (nI n) :: rest))) : W p l e R s m args below meth c H locs cells slots Q (F0 m pc ls (.ref (B + i) :: rest)) :=
  W.alen (n := nI n) C.x C.b (hS.cell hi he) ((C.k.2 0 _ rfl).1 n (fun j => .int (f j))) (by rw [vp_cell_i, arrV_size]; rfl) rfl rfl hdg kk
/-- a reference out of an array of references of kind ty (the number t0 of tysOf) -/
theorem r_aald {i n a : Nat} {f : Nat → Option Nat} (k : Nat) {x : Int32} (hx : x = nI k) (hk : k < n) (hn : n < 2 ^ 31) (ha : f k = some a) (C : Cx D t p s m args c cc nL own) (hS : St D B H0 N g H locs) (hi : i < N) (t0 : Nat) {cA : ClassId} {ty : FieldType} (ht : (tysOf t)[t0]? = some (cA, ty)) (hty : ty.isReference = true) (he : g i = .inl (cA, n, .inr (.inr (.inr (.inr f))))) (hdg : decode cc pc = .ok (.aaload, 1))
    (kk : W p l e R s m args below meth c H locs cells slots Q (F0 m (pc + 1) ls (.ref a :: rest))) : W p l e R s m args below meth c H locs cells slots Q (F0 m pc ls (.int x :: .ref (B + i) :: rest)) := by
  subst hx
  have hin : vp_in (nI k) n := vp_in_nI hk hn
  exact W.aald (v := .ref a) (ty := ty) C.x C.b (hS.cell hi he) ((C.k.2 t0 _ ht).1 n (fun j => va_rf (f j))) hty (fun q => by cases q) (by show ¬ (nI k < 0 ∨ (arrV _ _ _).slots.size ≤ _); rw [arrV_size]; exact hin) (by show (arrV _ _ _).slots[_]? = _; rw [nI_clamp (by omega), arrV_read _ _ hk, ha]; rfl) rfl rfl hdg kk
/-- an object into an array of references -/
theorem r_aast {i n b ci : Nat} {f : Nat → Option Nat} {vs : List Value} {r : vw_C} (k : Nat) {x : Int32} (hx : x = nI k) (hk : k < n) (hn : n < 2 ^ 31) (C : Cx D t p s m args c cc nL own) (hS : St D B H0 N g H locs) (hi : i < N) (hbN : b < N) (t0 : Nat) {cA : ClassId} (ht : (tysOf t)[t0]? = some (cA, .object r.1)) (hc : vwCl[ci]? = some r) (hv : g b = .inr (ci, vs)) (he : g i = .inl (cA, n, .inr (.inr (.inr (.inr f))))) (hdg : decode cc pc = .ok (.aastore, 1))
    (kk : ∀ (g' : Nat → va_E) (H1 : Heap) (locs1 : List Loc), g' i = .inl (cA, n, .inr (.inr (.inr (.inr (va_up f k (some (B + b))))))) → (∀ j, j ≠ i → g' j = g j) → St D B H0 N g' H1 locs1 → W p l e R s m args below meth c H1 locs1 cells slots Q (F0 m (pc + 1) ls rest)) : W p l e R s m args below meth c H locs cells slots Q (F0 m pc ls (.ref (B + b) :: .int x :: .ref (B + i) :: rest)) := by
  subst hx
  have hin : vp_in (nI k) n := vp_in_nI hk hn
  have h0 : ¬ nI k < 0 := fun q => hin (Or.inl q)
  have hlt : (nI k).toNatClampNeg < n := Nat.not_le.mp fun q => hin (Or.inr q)
  obtain ⟨r', hr', cellV, g1, g2, g3, -⟩ := hS.cell hbN hv
  have hcls := (C.k.1 ci r hc).2
  obtain ⟨kA, comp, k1, k2, k3, -⟩ := (C.k.2 t0 _ ht).2
  have hcomp : comp = D.1 ci := Option.some.inj (k3.symm.trans hcls.1)
  subst hcomp
  obtain ⟨kC, hkC, -⟩ := hcls.2
  refine W.aast C.x C.b (hS.cell hi he) (fun q h => by cases h) (fun h => by cases h) k1 k2 rfl hkC ⟨h0, by show _ < (arrV _ _ _).slots.size; rw [arrV_size]; exact hlt⟩ g1 (fun q h => by rw [g3] at h; cases h) (by rw [g2]; exact hkC) (by rw [g2]; exact va_assign hcls) rfl rfl hdg fun H1 e z oq => ?_
  refine kk _ H1 _ va_up_s (fun j hj => va_up_n hj) (hS.put ?_ z oq)
  show H1[B + i]? = some (vp_cell _ _)
  rw [e, vp_cell_q, vp_cell_q, arrV_store, nI_clamp (by omega)]
  congr 2
  funext q
  by_cases hq : q = k
  · subst hq
    simp [updV, va_up, va_rf]
  · simp [updV, va_up, hq]
theorem r_new {ci Nf index : Nat} {Cn : String} {T : u_T} {ty0 : Nat → FieldType} {fs : List Value} (K : CK ci Cn T Nf ty0) (hcl : Cond.classLink own index Cn ∈ lw_good) (hins : Cond.instantiable Cn Nf ∈ lw_good) (hini : Cond.initialized Cn ∈ lw_good) (hfs : ∀ j, j < Nf → defaultValue (ty0 j) = vp_V fs j) (C : Cx D t p s m args c cc nL own) (hS : St D B H0 N g H locs) (hcells : cells + 1 ≤ R.cells) (hslots : slots + Nf ≤ R.slots) (hdg : decode cc pc = .ok (.new index, 3))
    (kk : ∀ (g' : Nat → va_E) (H1 : Heap), g' N = .inr (ci, fs) → (∀ j, j < N → g' j = g j) → St D B H0 (N + 1) g' H1 locs → W p l e R s m args below meth c H1 locs (cells + 1) (slots + Nf) Q (F0 m (pc + 3) ls (.ref (B + N) :: rest))) : W p l e R s m args below meth c H locs cells slots Q (F0 m pc ls rest) := by
  have hKn := C.k.1 ci _ K.1
  refine W.newcK C.x C.b C.o (C.w hcl) (C.w hins) (C.w hini) rfl hdg hcells hslots hKn.2.1 hS.size fun H1 kC hkC e1 z1 o1 => ?_
  refine kk _ H1 va_up_s (fun j hj => va_up_n (Nat.ne_of_lt hj)) (hS.push ⟨_, K.1, (u_born ty0 C.1.2.2.2.2 K.2.1 hKn hkC e1 K.2.2.1).to hfs⟩ (by rw [z1, hS.size]) (fun q hq => o1 q (by rw [← hS.size]; exact hq)))
theorem r_newI {n : Int32} {n' : Nat} (harr : Cond.arrayClass .int ∈ lw_good) (C : Cx D t p s m args c cc nL own) (hS : St D B H0 N g H locs) (hn : n = nI n') (hn' : n' < 100000) (hcells : cells + 1 ≤ R.cells) (hslots : slots + n' ≤ R.slots) (hdg : decode cc pc = .ok (.newarray .int, 2))
    (kk : ∀ (g' : Nat → va_E) (H1 : Heap), g' N = .inl (t.1, n', .inl (fun _ => 0)) → (∀ j, j < N → g' j = g j) → St D B H0 (N + 1) g' H1 locs → W p l e R s m args below meth c H1 locs (cells + 1) (slots + n') Q (F0 m (pc + 2) ls (.ref (B + N) :: rest))) : W p l e R s m args below meth c H locs cells slots Q (F0 m pc ls (.int n :: rest)) := by
  subst hn
  refine va_newaK C.x C.b (atype := .int) (C.w harr) rfl hdg rfl (nI_pos (by omega)) (nI_clamp (by omega)) (by show n' * 4 ≤ _; omega) hcells hslots hS.size fun H1 cA e1 z1 o1 hAr hNm => ?_
  have hc : cA = t.1 := Option.some.inj (hNm.symm.trans (C.k.2 0 _ rfl).2)
  subst hc
  exact kk _ H1 va_up_s (fun j hj => va_up_n (Nat.ne_of_lt hj)) (hS.push (e := .inl (t.1, n', .inl (fun _ => 0))) e1 (by rw [z1, hS.size]) (fun q hq => o1 q (by rw [← hS.size]; exact hq)))
theorem r_newZ {n : Int32} {n' : Nat} (harr : Cond.arrayClass .boolean ∈ lw_good) (C : Cx D t p s m args c cc nL own) (hS : St D B H0 N g H locs) (hn : n = nI n') (hn' : n' < 100000) (hcells : cells + 1 ≤ R.cells) (hslots : slots + n' ≤ R.slots) (hdg : decode cc pc = .ok (.newarray .boolean, 2))
    (kk : ∀ (g' : Nat → va_E) (H1 : Heap), g' N = .inl (t.2.1, n', .inl (fun _ => 0)) → (∀ j, j < N → g' j = g j) → St D B H0 (N + 1) g' H1 locs → W p l e R s m args below meth c H1 locs (cells + 1) (slots + n') Q (F0 m (pc + 2) ls (.ref (B + N) :: rest))) : W p l e R s m args below meth c H locs cells slots Q (F0 m pc ls (.int n :: rest)) := by
  subst hn
  refine va_newaK C.x C.b (atype := .boolean) (C.w harr) rfl hdg rfl (nI_pos (by omega)) (nI_clamp (by omega)) (by show n' * 1 ≤ _; omega) hcells hslots hS.size fun H1 cA e1 z1 o1 hAr hNm => ?_
  have hc : cA = t.2.1 := Option.some.inj (hNm.symm.trans (C.k.2 1 _ rfl).2)
  subst hc
  exact kk _ H1 va_up_s (fun j hj => va_up_n (Nat.ne_of_lt hj)) (hS.push (e := .inl (t.2.1, n', .inl (fun _ => 0))) e1 (by rw [z1, hS.size]) (fun q hq => o1 q (by rw [← hS.size]; exact hq)))
theorem r_newQ {n : Int32} {n' index : Nat} {Cn : String} (t0 : Nat) {cQ : ClassId} (ht : (tysOf t)[t0]? = some (cQ, .object Cn)) (hcl : Cond.classLink own index Cn ∈ lw_good) (hov : va_AO Cn s) (C : Cx D t p s m args c cc nL own) (hS : St D B H0 N g H locs) (hn : n = nI n') (hn' : n' < 100000) (hcells : cells + 1 ≤ R.cells) (hslots : slots + n' ≤ R.slots) (hdg : decode cc pc = .ok (.anewarray index, 3))
    (kk : ∀ (g' : Nat → va_E) (H1 : Heap), g' N = .inl (cQ, n', .inr (.inr (.inr (.inr (fun _ => none))))) → (∀ j, j < N → g' j = g j) → St D B H0 (N + 1) g' H1 locs → W p l e R s m args below meth c H1 locs (cells + 1) (slots + n') Q (F0 m (pc + 3) ls (.ref (B + N) :: rest))) : W p l e R s m args below meth c H locs cells slots Q (F0 m pc ls (.int n :: rest)) := by
  subst hn
  have hcl2 : (nI n').toNatClampNeg = n' := nI_clamp (by omega)
  refine W.anew C.x C.b C.o (C.w hcl) (va_AO.use hov) rfl hdg rfl (nI_pos (by omega)) (by rw [hcl2]; omega) hcells (by rw [hcl2]; exact hslots) fun cA kA comp f1 f2 f3 f4 => ?_
  rw [hcl2]
  obtain ⟨kA2, comp2, -, -, -, h4⟩ := (C.k.2 t0 _ ht).2
  have hc : cA = cQ := Option.some.inj (f1.symm.trans h4)
  subst hc
  have hsz : H.size = B + N := hS.size
  rw [hsz]
  refine kk _ _ va_up_s (fun j hj => va_up_n (Nat.ne_of_lt hj)) (hS.push (e := .inl (cA, n', .inr (.inr (.inr (.inr (fun _ => none)))))) ?_ (Array.size_push _) (fun q hq => by rw [Array.getElem?_push, if_neg (Nat.ne_of_lt hq)]))
  show (H.push _)[B + N]? = some (vp_cell _ _)
  rw [vp_cell_q, ← hsz, Array.getElem?_push_size, ← arrV_new]
  rfl
end RO
end
section
/-! calls -/
section RC
variable {p : Program} {l : Launch} {e : Env} {R : Room} {s : State} {m : MethodId} {args : Array Value} {below : List Frame} {meth : Method} {c : Code} {H : Heap} {locs : List Loc} {cells slots : Nat} {Q : State → Prop}
variable {cc : ByteArray} {pc nL : Nat} {ls : Array Slot} {rest st : List Value} {D : va_G} {t : Gx} {own : String} {B N : Nat} {g : Nat → va_E}
variable {y : MethodName} {cy : ByteArray} {nLy index n fr lo : Nat} {ret : Option FieldType} {As : List Value}
/-- invokevirtual, an int comes back -/
theorem r_callV {b ci : Nat} {fs : List Value} {q : vw_C} {post : Int32 → (Nat → va_E) → Prop} (hM : Ci l D t B N y cy nLy ret fr lo g (.ref (B + b) :: As) post) (F : MF y cy nLy ret n) (hl : Cond.methodLink own index y ∈ lw_good) (hin : Cond.instanceMethod y ∈ lw_good) (hse : Cond.selects y.cls y y ∈ lw_good) (hR : fr + 1 ≤ R.frames ∧ 8 + (nLy + 11) + lo ≤ R.locals)
    (C : Cx D t p s m args c cc nL own) (hS : St D B s.heap N g H locs) (hbN : b < N) (he : g b = .inr (ci, fs)) (hc : vwCl[ci]? = some q) (hq : q.1 = y.cls) (hn : As.length = n) (hsize : ls.size = nL) (hst : st = As.reverse ++ .ref (B + b) :: rest) (hroom : (rest.map fun v => v.category).sum ≤ 8) (hdg : decode cc pc = .ok (.invokevirtual index, 3)) (hcs : cells ≤ R.cells ∧ slots ≤ R.slots)
    (kk : ∀ (r : Int32) (g' : Nat → va_E) (H1 : Heap) (locs1 : List Loc), post r g' → St D B s.heap N g' H1 locs1 → W p l e R s m args below meth c H1 locs1 cells slots Q (F0 m (pc + 3) ls (.int r :: rest))) : W p l e R s m args below meth c H locs cells slots Q (F0 m pc ls st) := by
  have cw : CallW R s args own y.cls index y cy nLy ret (wu y cy nLy ret) (rmOf fr lo 0 0) 0 0 n := ⟨callB_of (ws' := lw_good) n C.1.2.2.2.2 (wu_good F.2.1) rfl rfl rfl (C.w F.1) (C.w hl) F.2.2 hR, C.w hin, C.w hse⟩
  obtain ⟨r9, h9, cell, k1, k2, k3, -⟩ := hS.cell hbN he
  have hrecv : ∃ cellB : Cell, H[B + b]? = some cellB ∧ cellB.vm.isStatics = false ∧ s.vm.findClass y.cls = some cellB.cls := ⟨cell, k1, by rw [k3]; rfl, by rw [k2, ← hq]; exact (C.k.1 ci q hc).2.1⟩
  refine va_calli (va_runV C.1 hM cw ⟨pre_blind, hrecv, fun U hU hW => ⟨rfl, show Hp D B N g U.heap by rw [hU]; exact hS.1, C.2.warm hW⟩⟩ rfl hn hsize hst (lv_room hroom) hdg hcs) hS.2 (fun _ _ h => h) (fun _ h => h) (fun r u t' H1 locs1 ht hvm hw hB hz1 hk1 hS1 => ?_)
  exact kk r u H1 locs1 hw ⟨by rw [← ht]; exact hB, hS1⟩
/-- invokevirtual, nothing comes back -/
theorem r_callVv {b ci : Nat} {fs : List Value} {q : vw_C} {post : (Nat → va_E) → Prop} (hM : Cv l D t B N N 0 0 y cy nLy fr lo g (.ref (B + b) :: As) post) (F : MF y cy nLy none n) (hl : Cond.methodLink own index y ∈ lw_good) (hin : Cond.instanceMethod y ∈ lw_good) (hse : Cond.selects y.cls y y ∈ lw_good) (hR : fr + 1 ≤ R.frames ∧ 8 + (nLy + 11) + lo ≤ R.locals)
    (C : Cx D t p s m args c cc nL own) (hS : St D B s.heap N g H locs) (hbN : b < N) (he : g b = .inr (ci, fs)) (hc : vwCl[ci]? = some q) (hq : q.1 = y.cls) (hn : As.length = n) (hsize : ls.size = nL) (hst : st = As.reverse ++ .ref (B + b) :: rest) (hroom : (rest.map fun v => v.category).sum ≤ 8) (hdg : decode cc pc = .ok (.invokevirtual index, 3)) (hcs : cells ≤ R.cells ∧ slots ≤ R.slots)
    (kk : ∀ (g' : Nat → va_E) (H1 : Heap) (locs1 : List Loc), post g' → St D B s.heap N g' H1 locs1 → W p l e R s m args below meth c H1 locs1 cells slots Q (F0 m (pc + 3) ls rest)) : W p l e R s m args below meth c H locs cells slots Q (F0 m pc ls st) := by
  have cw : CallW R s args own y.cls index y cy nLy none (wu y cy nLy none) (rmOf fr lo 0 0) 0 0 n := ⟨callB_of (ws' := lw_good) n C.1.2.2.2.2 (wu_good F.2.1) rfl rfl rfl (C.w F.1) (C.w hl) F.2.2 hR, C.w hin, C.w hse⟩
  obtain ⟨r9, h9, cell, k1, k2, k3, -⟩ := hS.cell hbN he
  have hrecv : ∃ cellB : Cell, H[B + b]? = some cellB ∧ cellB.vm.isStatics = false ∧ s.vm.findClass y.cls = some cellB.cls := ⟨cell, k1, by rw [k3]; rfl, by rw [k2, ← hq]; exact (C.k.1 ci q hc).2.1⟩
  refine va_callv (va_runV C.1 hM cw ⟨pre_blind, hrecv, fun U hU hW => ⟨rfl, show Hp D B N g U.heap by rw [hU]; exact hS.1, C.2.warm hW⟩⟩ rfl hn hsize hst (lv_room hroom) hdg hcs) hS.2 (fun _ _ h => h) (fun _ h => h) (fun u t' H1 locs1 ht hvm hw hB hz1 hk1 hS1 => ?_)
  exact kk u H1 locs1 hw ⟨by rw [← ht]; exact hB, hS1⟩
/-- invokestatic, an int comes back -/
theorem r_callS {post : Int32 → (Nat → va_E) → Prop} (hM : Ci l D t B N y cy nLy ret fr lo g As post) (F : MF y cy nLy ret n) (hl : Cond.methodLink own index y ∈ lw_good) (hst0 : Cond.static y ∈ lw_good) (hR : fr + 1 ≤ R.frames ∧ 8 + (nLy + 11) + lo ≤ R.locals)
    (C : Cx D t p s m args c cc nL own) (hS : St D B s.heap N g H locs) (hn : As.length = n) (hsize : ls.size = nL) (hst : st = As.reverse ++ rest) (hroom : (rest.map fun v => v.category).sum ≤ 8) (hdg : decode cc pc = .ok (.invokestatic index, 3)) (hcs : cells ≤ R.cells ∧ slots ≤ R.slots)
    (kk : ∀ (r : Int32) (g' : Nat → va_E) (H1 : Heap) (locs1 : List Loc), post r g' → St D B s.heap N g' H1 locs1 → W p l e R s m args below meth c H1 locs1 cells slots Q (F0 m (pc + 3) ls (.int r :: rest))) : W p l e R s m args below meth c H locs cells slots Q (F0 m pc ls st) := by
  have cw : CallB R s args own index y cy nLy ret (wu y cy nLy ret) (rmOf fr lo 0 0) 0 0 n := callB_of (ws' := lw_good) n C.1.2.2.2.2 (wu_good F.2.1) rfl rfl rfl (C.w F.1) (C.w hl) F.2.2 hR
  refine va_calli (va_runS C.1 hM ⟨cw, C.w hst0⟩ ⟨pre_blind, fun U hU hW => ⟨rfl, show Hp D B N g U.heap by rw [hU]; exact hS.1, C.2.warm hW⟩⟩ rfl hn hsize hst (lv_room hroom) hdg hcs) hS.2 (fun _ _ h => h) (fun _ h => h) (fun r u t' H1 locs1 ht hvm hw hB hz1 hk1 hS1 => ?_)
  exact kk r u H1 locs1 hw ⟨by rw [← ht]; exact hB, hS1⟩
/-- invokespecial <init> -/
theorem r_callI {b N' mc ms : Nat} {post : (Nat → va_E) → Prop} (hM : Cv l D t B N N' mc ms y cy nLy fr lo g (.ref (B + b) :: As) post) (F : MF y cy nLy none n) (hl : Cond.methodLink own index y ∈ lw_good) (hin : Cond.instanceMethod y ∈ lw_good) (hnm : y.name = "<init>") (hR : fr + 1 ≤ R.frames ∧ 8 + (nLy + 11) + lo ≤ R.locals)
    (C : Cx D t p s m args c cc nL own) (hS : St D B s.heap N g H locs) (hn : As.length = n) (hsize : ls.size = nL) (hst : st = As.reverse ++ .ref (B + b) :: rest) (hroom : (rest.map fun v => v.category).sum ≤ 8) (hdg : decode cc pc = .ok (.invokespecial index, 3)) (hcs : cells + mc ≤ R.cells ∧ slots + ms ≤ R.slots)
    (kk : ∀ (g' : Nat → va_E) (H1 : Heap) (locs1 : List Loc), post g' → St D B s.heap N' g' H1 locs1 → W p l e R s m args below meth c H1 locs1 (cells + mc) (slots + ms) Q (F0 m (pc + 3) ls rest)) : W p l e R s m args below meth c H locs cells slots Q (F0 m pc ls st) := by
  have cw : CallB R s args own index y cy nLy none (wu y cy nLy none) (rmOf fr lo mc ms) mc ms n := callB_of (ws' := lw_good) n C.1.2.2.2.2 (wu_good F.2.1) rfl rfl rfl (C.w F.1) (C.w hl) F.2.2 hR
  refine va_callv (va_runI C.1 hM ⟨cw, hnm, C.w hin⟩ ⟨pre_blind, fun U hU hW => ⟨rfl, show Hp D B N g U.heap by rw [hU]; exact hS.1, C.2.warm hW⟩⟩ rfl hn hsize hst (lv_room hroom) hdg hcs) hS.2 (fun _ _ h => h) (fun _ h => h) (fun u t' H1 locs1 ht hvm hw hB hz1 hk1 hS1 => ?_)
  exact kk u H1 locs1 hw ⟨by rw [← ht]; exact hB, hS1⟩
/-- invokespecial <init> of a nest mate -/
theorem r_callIN {b N' mc ms : Nat} {post : (Nat → va_E) → Prop} (hM : Cv l D t B N N' mc ms y cy nLy fr lo g (.ref (B + b) :: As) post) (F : MF y cy nLy none n) (hl : (own, index, y) ∈ nestL) (hin : Cond.instanceMethod y ∈ lw_good) (hnm : y.name = "<init>") (hR : fr + 1 ≤ R.frames ∧ 8 + (nLy + 11) + lo ≤ R.locals)
    (C : Cx D t p s m args c cc nL own) (hS : St D B s.heap N g H locs) (hn : As.length = n) (hsize : ls.size = nL) (hst : st = As.reverse ++ .ref (B + b) :: rest) (hroom : (rest.map fun v => v.category).sum ≤ 8) (hdg : decode cc pc = .ok (.invokespecial index, 3)) (hcs : cells + mc ≤ R.cells ∧ slots + ms ≤ R.slots)
    (kk : ∀ (g' : Nat → va_E) (H1 : Heap) (locs1 : List Loc), post g' → St D B s.heap N' g' H1 locs1 → W p l e R s m args below meth c H1 locs1 (cells + mc) (slots + ms) Q (F0 m (pc + 3) ls rest)) : W p l e R s m args below meth c H locs cells slots Q (F0 m pc ls st) := by
  have cw : va_CN R s args own index y RX7 cy nLy none (wu y cy nLy none) (rmOf fr lo mc ms) mc ms n := va_cnB (ws' := lw_good) n C.1.2.2.2.2 (wu_good F.2.1) rfl rfl rfl (C.2.2.1 _ hl) (C.w F.1) F.2.2 hR
  refine va_callv (va_runIN C.1 hM ⟨cw, hnm, C.w hin⟩ ⟨pre_blind, fun U hU hW => ⟨rfl, show Hp D B N g U.heap by rw [hU]; exact hS.1, C.2.warm hW⟩⟩ rfl hn hsize hst (lv_room hroom) hdg hcs) hS.2 (fun _ _ h => h) (fun _ h => h) (fun u t' H1 locs1 ht hvm hw hB hz1 hk1 hS1 => ?_)
  exact kk u H1 locs1 hw ⟨by rw [← ht]; exact hB, hS1⟩
theorem r_objInit {a : Nat} (hl : Cond.methodLink own index objectInit ∈ lw_good) (hin : Cond.instanceMethod objectInit ∈ lw_good) (hco : Cond.code objectInit ⟨#[0xb1]⟩ 1 none ∈ lw_good) (C : Cx D t p s m args c cc nL own) (hsize : ls.size = nL) (hdg : decode cc pc = .ok (.invokespecial index, 3)) (hfr : 1 ≤ R.frames) (hlo : (rest.map fun v => v.category).sum + 12 ≤ R.locals)
    (kk : W p l e R s m args below meth c H locs cells slots Q (F0 m (pc + 3) ls rest)) : W p l e R s m args below meth c H locs cells slots Q (F0 m pc ls (.ref a :: rest)) :=
  W.objInit C.x C.b C.o (C.w hl) (C.w hin) (C.w hco) rfl (by rw [C.1.2.2.1]; exact hsize) rfl hdg hfr (by show 2 * 0 + _ + 12 ≤ _; omega) kk
end RC
end
section
theorem ini_L : Cond.initialized RL ∈ lw_good := mgT 0 (by decide +kernel) rfl
theorem ini_X7 : Cond.initialized RX7 ∈ lw_good := mgT 1 (by decide +kernel) rfl
theorem ini_X3 : Cond.initialized RX3 ∈ lw_good := mgT 2 (by decide +kernel) rfl
theorem ini_X6 : Cond.initialized RX6 ∈ lw_good := mgT 3 (by decide +kernel) rfl
theorem ini_X1 : Cond.initialized RX1 ∈ lw_good := mgT 4 (by decide +kernel) rfl
theorem ini_X5 : Cond.initialized RX5 ∈ lw_good := mgT 5 (by decide +kernel) rfl
theorem ini_X4 : Cond.initialized RX4 ∈ lw_good := mgT 6 (by decide +kernel) rfl
theorem ini_X2 : Cond.initialized RX2 ∈ lw_good := mgT 7 (by decide +kernel) rfl
theorem ini_X0 : Cond.initialized RX0 ∈ lw_good := mgT 8 (by decide +kernel) rfl
theorem ini_X8 : Cond.initialized RX8 ∈ lw_good := mgT 9 (by decide +kernel) rfl
theorem ini_J6 : Cond.initialized RJ6 ∈ lw_good := mgT 10 (by decide +kernel) rfl
theorem ini_J9 : Cond.initialized RJ9 ∈ lw_good := mgT 11 (by decide +kernel) rfl
theorem clL_7 : Cond.classLink RL 7 RX7 ∈ lw_good := mgT 12 (by decide +kernel) rfl
theorem ins_X7 : Cond.instantiable RX7 9 ∈ lw_good := mgT 13 (by decide +kernel) rfl
theorem mlL_9 : Cond.methodLink RL 9 yX7_init ∈ lw_good := mgT 14 (by decide +kernel) rfl
theorem im_yX7_init : Cond.instanceMethod yX7_init ∈ lw_good := mgT 15 (by decide +kernel) rfl
theorem co_yX7_init : Cond.code yX7_init cX7_init 1 none ∈ lw_good := mgT 16 (by decide +kernel) rfl
theorem mlX7_3 : Cond.methodLink RX7 3 objectInit ∈ lw_good := mgT 17 (by decide +kernel) rfl
theorem im_objectInit : Cond.instanceMethod objectInit ∈ lw_good := mgT 18 (by decide +kernel) rfl
theorem co_objectInit : Cond.code objectInit ⟨#[0xb1]⟩ 1 none ∈ lw_good := mgT 19 (by decide +kernel) rfl
theorem clX7_9 : Cond.classLink RX7 9 RX3 ∈ lw_good := mgT 20 (by decide +kernel) rfl
theorem ins_X3 : Cond.instantiable RX3 4 ∈ lw_good := mgT 21 (by decide +kernel) rfl
theorem im_yX3_init : Cond.instanceMethod yX3_init ∈ lw_good := mgT 23 (by decide +kernel) rfl
theorem co_yX3_init : Cond.code yX3_init cX3_init 1 none ∈ lw_good := mgT 24 (by decide +kernel) rfl
theorem mlX3_3 : Cond.methodLink RX3 3 objectInit ∈ lw_good := mgT 25 (by decide +kernel) rfl
theorem flX3_9 : Cond.fieldLink RX3 9 (TX3 0).1 (TX3 0).2.1 (TX3 0).2.2.1 ∈ lw_good := mgT 26 (by decide +kernel) rfl
theorem flX1_42 : Cond.fieldLink RX1 42 (TX3 0).1 (TX3 0).2.1 (TX3 0).2.2.1 ∈ lw_good := mgT 27 (by decide +kernel) rfl
theorem flX7_82 : Cond.fieldLink RX7 82 (TX3 0).1 (TX3 0).2.1 (TX3 0).2.2.1 ∈ lw_good := mgT 28 (by decide +kernel) rfl
theorem flX3_15 : Cond.fieldLink RX3 15 (TX3 1).1 (TX3 1).2.1 (TX3 1).2.2.1 ∈ lw_good := mgT 29 (by decide +kernel) rfl
theorem flX7_110 : Cond.fieldLink RX7 110 (TX3 1).1 (TX3 1).2.1 (TX3 1).2.2.1 ∈ lw_good := mgT 30 (by decide +kernel) rfl
theorem flX3_18 : Cond.fieldLink RX3 18 (TX3 2).1 (TX3 2).2.1 (TX3 2).2.2.1 ∈ lw_good := mgT 31 (by decide +kernel) rfl
theorem flX1_56 : Cond.fieldLink RX1 56 (TX3 2).1 (TX3 2).2.1 (TX3 2).2.2.1 ∈ lw_good := mgT 32 (by decide +kernel) rfl
theorem flX7_92 : Cond.fieldLink RX7 92 (TX3 2).1 (TX3 2).2.1 (TX3 2).2.2.1 ∈ lw_good := mgT 33 (by decide +kernel) rfl
theorem flX3_21 : Cond.fieldLink RX3 21 (TX3 3).1 (TX3 3).2.1 (TX3 3).2.2.1 ∈ lw_good := mgT 34 (by decide +kernel) rfl
theorem flX7_69 : Cond.fieldLink RX7 69 (TX3 3).1 (TX3 3).2.1 (TX3 3).2.2.1 ∈ lw_good := mgT 35 (by decide +kernel) rfl
theorem flX0_82 : Cond.fieldLink RX0 82 (TX3 3).1 (TX3 3).2.1 (TX3 3).2.2.1 ∈ lw_good := mgT 36 (by decide +kernel) rfl
theorem ac_int : Cond.arrayClass .int ∈ lw_good := mgT 46 (by decide +kernel) rfl
theorem clX7_16 : Cond.classLink RX7 16 RX6 ∈ lw_good := mgT 47 (by decide +kernel) rfl
theorem ins_X6 : Cond.instantiable RX6 3 ∈ lw_good := mgT 48 (by decide +kernel) rfl
theorem im_yX6_init : Cond.instanceMethod yX6_init ∈ lw_good := mgT 50 (by decide +kernel) rfl
theorem co_yX6_init : Cond.code yX6_init cX6_init 1 none ∈ lw_good := mgT 51 (by decide +kernel) rfl
theorem mlX6_3 : Cond.methodLink RX6 3 objectInit ∈ lw_good := mgT 52 (by decide +kernel) rfl
theorem flX6_9 : Cond.fieldLink RX6 9 (TX6 0).1 (TX6 0).2.1 (TX6 0).2.2.1 ∈ lw_good := mgT 53 (by decide +kernel) rfl
theorem flX0_36 : Cond.fieldLink RX0 36 (TX6 0).1 (TX6 0).2.1 (TX6 0).2.2.1 ∈ lw_good := mgT 54 (by decide +kernel) rfl
theorem flX2_40 : Cond.fieldLink RX2 40 (TX6 0).1 (TX6 0).2.1 (TX6 0).2.2.1 ∈ lw_good := mgT 55 (by decide +kernel) rfl
theorem flX1_81 : Cond.fieldLink RX1 81 (TX6 0).1 (TX6 0).2.1 (TX6 0).2.2.1 ∈ lw_good := mgT 56 (by decide +kernel) rfl
theorem flX7_98 : Cond.fieldLink RX7 98 (TX6 0).1 (TX6 0).2.1 (TX6 0).2.2.1 ∈ lw_good := mgT 57 (by decide +kernel) rfl
theorem flX6_15 : Cond.fieldLink RX6 15 (TX6 1).1 (TX6 1).2.1 (TX6 1).2.2.1 ∈ lw_good := mgT 58 (by decide +kernel) rfl
theorem flX1_86 : Cond.fieldLink RX1 86 (TX6 1).1 (TX6 1).2.1 (TX6 1).2.2.1 ∈ lw_good := mgT 59 (by decide +kernel) rfl
theorem flX7_101 : Cond.fieldLink RX7 101 (TX6 1).1 (TX6 1).2.1 (TX6 1).2.2.1 ∈ lw_good := mgT 60 (by decide +kernel) rfl
theorem flX6_18 : Cond.fieldLink RX6 18 (TX6 2).1 (TX6 2).2.1 (TX6 2).2.2.1 ∈ lw_good := mgT 61 (by decide +kernel) rfl
theorem flX2_46 : Cond.fieldLink RX2 46 (TX6 2).1 (TX6 2).2.1 (TX6 2).2.2.1 ∈ lw_good := mgT 62 (by decide +kernel) rfl
theorem flX7_89 : Cond.fieldLink RX7 89 (TX6 2).1 (TX6 2).2.1 (TX6 2).2.2.1 ∈ lw_good := mgT 63 (by decide +kernel) rfl
theorem clX7_23 : Cond.classLink RX7 23 RX1 ∈ lw_good := mgT 71 (by decide +kernel) rfl
theorem ins_X1 : Cond.instantiable RX1 3 ∈ lw_good := mgT 72 (by decide +kernel) rfl
theorem im_yX1_init : Cond.instanceMethod yX1_init ∈ lw_good := mgT 74 (by decide +kernel) rfl
theorem co_yX1_init : Cond.code yX1_init cX1_init 1 none ∈ lw_good := mgT 75 (by decide +kernel) rfl
theorem mlX1_3 : Cond.methodLink RX1 3 objectInit ∈ lw_good := mgT 76 (by decide +kernel) rfl
theorem flX1_9 : Cond.fieldLink RX1 9 (TX1 0).1 (TX1 0).2.1 (TX1 0).2.2.1 ∈ lw_good := mgT 77 (by decide +kernel) rfl
theorem flX1_15 : Cond.fieldLink RX1 15 (TX1 1).1 (TX1 1).2.1 (TX1 1).2.2.1 ∈ lw_good := mgT 78 (by decide +kernel) rfl
theorem flX1_18 : Cond.fieldLink RX1 18 (TX1 2).1 (TX1 2).2.1 (TX1 2).2.2.1 ∈ lw_good := mgT 79 (by decide +kernel) rfl
theorem clX7_30 : Cond.classLink RX7 30 RX5 ∈ lw_good := mgT 87 (by decide +kernel) rfl
theorem ins_X5 : Cond.instantiable RX5 10 ∈ lw_good := mgT 88 (by decide +kernel) rfl
theorem im_yX5_init : Cond.instanceMethod yX5_init ∈ lw_good := mgT 90 (by decide +kernel) rfl
theorem co_yX5_init : Cond.code yX5_init cX5_init 1 none ∈ lw_good := mgT 91 (by decide +kernel) rfl
theorem mlX5_3 : Cond.methodLink RX5 3 objectInit ∈ lw_good := mgT 92 (by decide +kernel) rfl
theorem flX5_9 : Cond.fieldLink RX5 9 (TX5 0).1 (TX5 0).2.1 (TX5 0).2.2.1 ∈ lw_good := mgT 93 (by decide +kernel) rfl
theorem flX4_28 : Cond.fieldLink RX4 28 (TX5 0).1 (TX5 0).2.1 (TX5 0).2.2.1 ∈ lw_good := mgT 94 (by decide +kernel) rfl
theorem flX5_15 : Cond.fieldLink RX5 15 (TX5 1).1 (TX5 1).2.1 (TX5 1).2.2.1 ∈ lw_good := mgT 95 (by decide +kernel) rfl
theorem flX4_29 : Cond.fieldLink RX4 29 (TX5 1).1 (TX5 1).2.1 (TX5 1).2.2.1 ∈ lw_good := mgT 96 (by decide +kernel) rfl
theorem flX5_18 : Cond.fieldLink RX5 18 (TX5 2).1 (TX5 2).2.1 (TX5 2).2.2.1 ∈ lw_good := mgT 97 (by decide +kernel) rfl
theorem flX4_30 : Cond.fieldLink RX4 30 (TX5 2).1 (TX5 2).2.1 (TX5 2).2.2.1 ∈ lw_good := mgT 98 (by decide +kernel) rfl
theorem flX5_21 : Cond.fieldLink RX5 21 (TX5 3).1 (TX5 3).2.1 (TX5 3).2.2.1 ∈ lw_good := mgT 99 (by decide +kernel) rfl
theorem flX1_59 : Cond.fieldLink RX1 59 (TX5 3).1 (TX5 3).2.1 (TX5 3).2.2.1 ∈ lw_good := mgT 100 (by decide +kernel) rfl
theorem flX5_24 : Cond.fieldLink RX5 24 (TX5 4).1 (TX5 4).2.1 (TX5 4).2.2.1 ∈ lw_good := mgT 101 (by decide +kernel) rfl
theorem flX1_66 : Cond.fieldLink RX1 66 (TX5 4).1 (TX5 4).2.1 (TX5 4).2.2.1 ∈ lw_good := mgT 102 (by decide +kernel) rfl
theorem flX5_27 : Cond.fieldLink RX5 27 (TX5 5).1 (TX5 5).2.1 (TX5 5).2.2.1 ∈ lw_good := mgT 103 (by decide +kernel) rfl
theorem flX4_25 : Cond.fieldLink RX4 25 (TX5 5).1 (TX5 5).2.1 (TX5 5).2.2.1 ∈ lw_good := mgT 104 (by decide +kernel) rfl
theorem flX5_31 : Cond.fieldLink RX5 31 (TX5 6).1 (TX5 6).2.1 (TX5 6).2.2.1 ∈ lw_good := mgT 105 (by decide +kernel) rfl
theorem flX1_39 : Cond.fieldLink RX1 39 (TX5 6).1 (TX5 6).2.1 (TX5 6).2.2.1 ∈ lw_good := mgT 106 (by decide +kernel) rfl
theorem flX7_129 : Cond.fieldLink RX7 129 (TX5 6).1 (TX5 6).2.1 (TX5 6).2.2.1 ∈ lw_good := mgT 107 (by decide +kernel) rfl
theorem flX5_34 : Cond.fieldLink RX5 34 (TX5 7).1 (TX5 7).2.1 (TX5 7).2.2.1 ∈ lw_good := mgT 108 (by decide +kernel) rfl
theorem flX1_36 : Cond.fieldLink RX1 36 (TX5 7).1 (TX5 7).2.1 (TX5 7).2.2.1 ∈ lw_good := mgT 109 (by decide +kernel) rfl
theorem flX7_214 : Cond.fieldLink RX7 214 (TX5 7).1 (TX5 7).2.1 (TX5 7).2.2.1 ∈ lw_good := mgT 110 (by decide +kernel) rfl
theorem flX5_37 : Cond.fieldLink RX5 37 (TX5 8).1 (TX5 8).2.1 (TX5 8).2.2.1 ∈ lw_good := mgT 111 (by decide +kernel) rfl
theorem flX1_53 : Cond.fieldLink RX1 53 (TX5 8).1 (TX5 8).2.1 (TX5 8).2.2.1 ∈ lw_good := mgT 112 (by decide +kernel) rfl
theorem flX4_43 : Cond.fieldLink RX4 43 (TX5 8).1 (TX5 8).2.1 (TX5 8).2.2.1 ∈ lw_good := mgT 113 (by decide +kernel) rfl
theorem flX7_123 : Cond.fieldLink RX7 123 (TX5 8).1 (TX5 8).2.1 (TX5 8).2.2.1 ∈ lw_good := mgT 114 (by decide +kernel) rfl
theorem flX5_40 : Cond.fieldLink RX5 40 (TX5 9).1 (TX5 9).2.1 (TX5 9).2.2.1 ∈ lw_good := mgT 115 (by decide +kernel) rfl
theorem flX1_49 : Cond.fieldLink RX1 49 (TX5 9).1 (TX5 9).2.1 (TX5 9).2.2.1 ∈ lw_good := mgT 116 (by decide +kernel) rfl
theorem flX4_39 : Cond.fieldLink RX4 39 (TX5 9).1 (TX5 9).2.1 (TX5 9).2.2.1 ∈ lw_good := mgT 117 (by decide +kernel) rfl
theorem flX7_132 : Cond.fieldLink RX7 132 (TX5 9).1 (TX5 9).2.1 (TX5 9).2.2.1 ∈ lw_good := mgT 118 (by decide +kernel) rfl
theorem clX7_37 : Cond.classLink RX7 37 RX4 ∈ lw_good := mgT 140 (by decide +kernel) rfl
theorem ins_X4 : Cond.instantiable RX4 4 ∈ lw_good := mgT 141 (by decide +kernel) rfl
theorem im_yX4_init : Cond.instanceMethod yX4_init ∈ lw_good := mgT 143 (by decide +kernel) rfl
theorem co_yX4_init : Cond.code yX4_init cX4_init 1 none ∈ lw_good := mgT 144 (by decide +kernel) rfl
theorem mlX4_3 : Cond.methodLink RX4 3 objectInit ∈ lw_good := mgT 145 (by decide +kernel) rfl
theorem flX4_11 : Cond.fieldLink RX4 11 (TX4 0).1 (TX4 0).2.1 (TX4 0).2.2.1 ∈ lw_good := mgT 146 (by decide +kernel) rfl
theorem flX7_140 : Cond.fieldLink RX7 140 (TX4 0).1 (TX4 0).2.1 (TX4 0).2.2.1 ∈ lw_good := mgT 147 (by decide +kernel) rfl
theorem flX4_15 : Cond.fieldLink RX4 15 (TX4 1).1 (TX4 1).2.1 (TX4 1).2.2.1 ∈ lw_good := mgT 148 (by decide +kernel) rfl
theorem flX7_143 : Cond.fieldLink RX7 143 (TX4 1).1 (TX4 1).2.1 (TX4 1).2.2.1 ∈ lw_good := mgT 149 (by decide +kernel) rfl
theorem flX4_18 : Cond.fieldLink RX4 18 (TX4 2).1 (TX4 2).2.1 (TX4 2).2.2.1 ∈ lw_good := mgT 150 (by decide +kernel) rfl
theorem flX7_146 : Cond.fieldLink RX7 146 (TX4 2).1 (TX4 2).2.1 (TX4 2).2.2.1 ∈ lw_good := mgT 151 (by decide +kernel) rfl
theorem flX4_21 : Cond.fieldLink RX4 21 (TX4 3).1 (TX4 3).2.1 (TX4 3).2.2.1 ∈ lw_good := mgT 152 (by decide +kernel) rfl
theorem flX7_136 : Cond.fieldLink RX7 136 (TX4 3).1 (TX4 3).2.1 (TX4 3).2.2.1 ∈ lw_good := mgT 153 (by decide +kernel) rfl
theorem clX7_47 : Cond.classLink RX7 47 RX2 ∈ lw_good := mgT 163 (by decide +kernel) rfl
theorem ins_X2 : Cond.instantiable RX2 4 ∈ lw_good := mgT 164 (by decide +kernel) rfl
theorem mlX7_49 : Cond.methodLink RX7 49 yX2_init ∈ lw_good := mgT 165 (by decide +kernel) rfl
theorem im_yX2_init : Cond.instanceMethod yX2_init ∈ lw_good := mgT 166 (by decide +kernel) rfl
theorem co_yX2_init : Cond.code yX2_init cX2_init 2 none ∈ lw_good := mgT 167 (by decide +kernel) rfl
theorem mlX2_3 : Cond.methodLink RX2 3 objectInit ∈ lw_good := mgT 168 (by decide +kernel) rfl
theorem clX2_9 : Cond.classLink RX2 9 "[[I" ∈ lw_good := mgT 169 (by decide +kernel) rfl
theorem clX2_20 : Cond.classLink RX2 20 RX5 ∈ lw_good := mgT 171 (by decide +kernel) rfl
theorem clX2_27 : Cond.classLink RX2 27 RX4 ∈ lw_good := mgT 173 (by decide +kernel) rfl
theorem flX2_11 : Cond.fieldLink RX2 11 (TX2 0).1 (TX2 0).2.1 (TX2 0).2.2.1 ∈ lw_good := mgT 176 (by decide +kernel) rfl
theorem flX7_156 : Cond.fieldLink RX7 156 (TX2 0).1 (TX2 0).2.1 (TX2 0).2.2.1 ∈ lw_good := mgT 177 (by decide +kernel) rfl
theorem flX2_16 : Cond.fieldLink RX2 16 (TX2 1).1 (TX2 1).2.1 (TX2 1).2.2.1 ∈ lw_good := mgT 178 (by decide +kernel) rfl
theorem flX7_153 : Cond.fieldLink RX7 153 (TX2 1).1 (TX2 1).2.1 (TX2 1).2.2.1 ∈ lw_good := mgT 179 (by decide +kernel) rfl
theorem flX2_23 : Cond.fieldLink RX2 23 (TX2 2).1 (TX2 2).2.1 (TX2 2).2.2.1 ∈ lw_good := mgT 180 (by decide +kernel) rfl
theorem flX2_29 : Cond.fieldLink RX2 29 (TX2 3).1 (TX2 3).2.1 (TX2 3).2.2.1 ∈ lw_good := mgT 181 (by decide +kernel) rfl
theorem clX7_54 : Cond.classLink RX7 54 RX0 ∈ lw_good := mgT 191 (by decide +kernel) rfl
theorem ins_X0 : Cond.instantiable RX0 5 ∈ lw_good := mgT 192 (by decide +kernel) rfl
theorem mlX7_56 : Cond.methodLink RX7 56 yX0_init ∈ lw_good := mgT 193 (by decide +kernel) rfl
theorem im_yX0_init : Cond.instanceMethod yX0_init ∈ lw_good := mgT 194 (by decide +kernel) rfl
theorem co_yX0_init : Cond.code yX0_init cX0_init 2 none ∈ lw_good := mgT 195 (by decide +kernel) rfl
theorem mlX0_3 : Cond.methodLink RX0 3 objectInit ∈ lw_good := mgT 196 (by decide +kernel) rfl
theorem clX0_15 : Cond.classLink RX0 15 RX5 ∈ lw_good := mgT 197 (by decide +kernel) rfl
theorem clX0_21 : Cond.classLink RX0 21 RX4 ∈ lw_good := mgT 199 (by decide +kernel) rfl
theorem flX0_9 : Cond.fieldLink RX0 9 (TX0 0).1 (TX0 0).2.1 (TX0 0).2.2.1 ∈ lw_good := mgT 202 (by decide +kernel) rfl
theorem flX7_196 : Cond.fieldLink RX7 196 (TX0 0).1 (TX0 0).2.1 (TX0 0).2.2.1 ∈ lw_good := mgT 203 (by decide +kernel) rfl
theorem flX0_17 : Cond.fieldLink RX0 17 (TX0 1).1 (TX0 1).2.1 (TX0 1).2.2.1 ∈ lw_good := mgT 204 (by decide +kernel) rfl
theorem flX0_24 : Cond.fieldLink RX0 24 (TX0 2).1 (TX0 2).2.1 (TX0 2).2.2.1 ∈ lw_good := mgT 205 (by decide +kernel) rfl
theorem flX0_28 : Cond.fieldLink RX0 28 (TX0 3).1 (TX0 3).2.1 (TX0 3).2.2.1 ∈ lw_good := mgT 206 (by decide +kernel) rfl
theorem flX0_31 : Cond.fieldLink RX0 31 (TX0 4).1 (TX0 4).2.1 (TX0 4).2.2.1 ∈ lw_good := mgT 207 (by decide +kernel) rfl
theorem ac_boolean : Cond.arrayClass .boolean ∈ lw_good := mgT 219 (by decide +kernel) rfl
theorem flX7_12 : Cond.fieldLink RX7 12 (TX7 0).1 (TX7 0).2.1 (TX7 0).2.2.1 ∈ lw_good := mgT 220 (by decide +kernel) rfl
theorem flX7_19 : Cond.fieldLink RX7 19 (TX7 1).1 (TX7 1).2.1 (TX7 1).2.2.1 ∈ lw_good := mgT 221 (by decide +kernel) rfl
theorem flX7_26 : Cond.fieldLink RX7 26 (TX7 2).1 (TX7 2).2.1 (TX7 2).2.2.1 ∈ lw_good := mgT 222 (by decide +kernel) rfl
theorem flX7_33 : Cond.fieldLink RX7 33 (TX7 3).1 (TX7 3).2.1 (TX7 3).2.2.1 ∈ lw_good := mgT 223 (by decide +kernel) rfl
theorem flX7_40 : Cond.fieldLink RX7 40 (TX7 4).1 (TX7 4).2.1 (TX7 4).2.2.1 ∈ lw_good := mgT 224 (by decide +kernel) rfl
theorem flX7_44 : Cond.fieldLink RX7 44 (TX7 5).1 (TX7 5).2.1 (TX7 5).2.2.1 ∈ lw_good := mgT 225 (by decide +kernel) rfl
theorem flX7_50 : Cond.fieldLink RX7 50 (TX7 6).1 (TX7 6).2.1 (TX7 6).2.2.1 ∈ lw_good := mgT 226 (by decide +kernel) rfl
theorem flX7_57 : Cond.fieldLink RX7 57 (TX7 7).1 (TX7 7).2.1 (TX7 7).2.2.1 ∈ lw_good := mgT 227 (by decide +kernel) rfl
theorem flX7_61 : Cond.fieldLink RX7 61 (TX7 8).1 (TX7 8).2.1 (TX7 8).2.2.1 ∈ lw_good := mgT 228 (by decide +kernel) rfl
theorem mlL_13 : Cond.methodLink RL 13 yX7_order ∈ lw_good := mgT 248 (by decide +kernel) rfl
theorem im_yX7_order : Cond.instanceMethod yX7_order ∈ lw_good := mgT 249 (by decide +kernel) rfl
theorem se_yX7_order : Cond.selects yX7_order.cls yX7_order yX7_order ∈ lw_good := mgT 250 (by decide +kernel) rfl
theorem co_yX7_order : Cond.code yX7_order cX7_order 3 (some .int) ∈ lw_good := mgT 251 (by decide +kernel) rfl
theorem mlX7_65 : Cond.methodLink RX7 65 yX7_isOrder ∈ lw_good := mgT 252 (by decide +kernel) rfl
theorem sm_yX7_isOrder : Cond.static yX7_isOrder ∈ lw_good := mgT 253 (by decide +kernel) rfl
theorem co_yX7_isOrder : Cond.code yX7_isOrder cX7_isOrder 1 (some .boolean) ∈ lw_good := mgT 254 (by decide +kernel) rfl
theorem kkX7_200 : Cond.constant RX7 200 40960 ∈ lw_good := mgT 255 (by decide +kernel) rfl
theorem mlX7_72 : Cond.methodLink RX7 72 yX3_append ∈ lw_good := mgT 256 (by decide +kernel) rfl
theorem im_yX3_append : Cond.instanceMethod yX3_append ∈ lw_good := mgT 257 (by decide +kernel) rfl
theorem se_yX3_append : Cond.selects yX3_append.cls yX3_append yX3_append ∈ lw_good := mgT 258 (by decide +kernel) rfl
theorem co_yX3_append : Cond.code yX3_append cX3_append 2 (some .int) ∈ lw_good := mgT 259 (by decide +kernel) rfl
theorem mlX7_76 : Cond.methodLink RX7 76 yX7_forgetRuns ∈ lw_good := mgT 260 (by decide +kernel) rfl
theorem im_yX7_forgetRuns : Cond.instanceMethod yX7_forgetRuns ∈ lw_good := mgT 262 (by decide +kernel) rfl
theorem co_yX7_forgetRuns : Cond.code yX7_forgetRuns cX7_forgetRuns 1 none ∈ lw_good := mgT 263 (by decide +kernel) rfl
theorem mlX7_107 : Cond.methodLink RX7 107 yX2_forget ∈ lw_good := mgT 264 (by decide +kernel) rfl
theorem im_yX2_forget : Cond.instanceMethod yX2_forget ∈ lw_good := mgT 265 (by decide +kernel) rfl
theorem se_yX2_forget : Cond.selects yX2_forget.cls yX2_forget yX2_forget ∈ lw_good := mgT 266 (by decide +kernel) rfl
theorem co_yX2_forget : Cond.code yX2_forget cX2_forget 2 none ∈ lw_good := mgT 267 (by decide +kernel) rfl
theorem mlX7_201 : Cond.methodLink RX7 201 yX0_forget ∈ lw_good := mgT 268 (by decide +kernel) rfl
theorem im_yX0_forget : Cond.instanceMethod yX0_forget ∈ lw_good := mgT 269 (by decide +kernel) rfl
theorem se_yX0_forget : Cond.selects yX0_forget.cls yX0_forget yX0_forget ∈ lw_good := mgT 270 (by decide +kernel) rfl
theorem co_yX0_forget : Cond.code yX0_forget cX0_forget 1 none ∈ lw_good := mgT 271 (by decide +kernel) rfl
theorem mlL_18 : Cond.methodLink RL 18 yX7_change ∈ lw_good := mgT 272 (by decide +kernel) rfl
theorem im_yX7_change : Cond.instanceMethod yX7_change ∈ lw_good := mgT 273 (by decide +kernel) rfl
theorem se_yX7_change : Cond.selects yX7_change.cls yX7_change yX7_change ∈ lw_good := mgT 274 (by decide +kernel) rfl
theorem co_yX7_change : Cond.code yX7_change cX7_change 3 (some .boolean) ∈ lw_good := mgT 275 (by decide +kernel) rfl
theorem mlX7_79 : Cond.methodLink RX7 79 yX3_has ∈ lw_good := mgT 276 (by decide +kernel) rfl
theorem im_yX3_has : Cond.instanceMethod yX3_has ∈ lw_good := mgT 277 (by decide +kernel) rfl
theorem se_yX3_has : Cond.selects yX3_has.cls yX3_has yX3_has ∈ lw_good := mgT 278 (by decide +kernel) rfl
theorem co_yX3_has : Cond.code yX3_has cX3_has 2 (some .boolean) ∈ lw_good := mgT 279 (by decide +kernel) rfl
theorem mlL_23 : Cond.methodLink RL 23 yX7_clear ∈ lw_good := mgT 280 (by decide +kernel) rfl
theorem im_yX7_clear : Cond.instanceMethod yX7_clear ∈ lw_good := mgT 281 (by decide +kernel) rfl
theorem se_yX7_clear : Cond.selects yX7_clear.cls yX7_clear yX7_clear ∈ lw_good := mgT 282 (by decide +kernel) rfl
theorem co_yX7_clear : Cond.code yX7_clear cX7_clear 1 none ∈ lw_good := mgT 283 (by decide +kernel) rfl
theorem mlX7_86 : Cond.methodLink RX7 86 yX3_empty ∈ lw_good := mgT 284 (by decide +kernel) rfl
theorem im_yX3_empty : Cond.instanceMethod yX3_empty ∈ lw_good := mgT 285 (by decide +kernel) rfl
theorem se_yX3_empty : Cond.selects yX3_empty.cls yX3_empty yX3_empty ∈ lw_good := mgT 286 (by decide +kernel) rfl
theorem co_yX3_empty : Cond.code yX3_empty cX3_empty 1 none ∈ lw_good := mgT 287 (by decide +kernel) rfl
theorem mlL_27 : Cond.methodLink RL 27 yX7_word ∈ lw_good := mgT 288 (by decide +kernel) rfl
theorem im_yX7_word : Cond.instanceMethod yX7_word ∈ lw_good := mgT 289 (by decide +kernel) rfl
theorem se_yX7_word : Cond.selects yX7_word.cls yX7_word yX7_word ∈ lw_good := mgT 290 (by decide +kernel) rfl
theorem co_yX7_word : Cond.code yX7_word cX7_word 3 (some .boolean) ∈ lw_good := mgT 291 (by decide +kernel) rfl
theorem mlL_31 : Cond.methodLink RL 31 yX7_watch ∈ lw_good := mgT 292 (by decide +kernel) rfl
theorem im_yX7_watch : Cond.instanceMethod yX7_watch ∈ lw_good := mgT 293 (by decide +kernel) rfl
theorem se_yX7_watch : Cond.selects yX7_watch.cls yX7_watch yX7_watch ∈ lw_good := mgT 294 (by decide +kernel) rfl
theorem co_yX7_watch : Cond.code yX7_watch cX7_watch 3 (some .boolean) ∈ lw_good := mgT 295 (by decide +kernel) rfl
theorem mlX7_95 : Cond.methodLink RX7 95 yX7_isWidth ∈ lw_good := mgT 296 (by decide +kernel) rfl
theorem sm_yX7_isWidth : Cond.static yX7_isWidth ∈ lw_good := mgT 297 (by decide +kernel) rfl
theorem co_yX7_isWidth : Cond.code yX7_isWidth cX7_isWidth 1 (some .boolean) ∈ lw_good := mgT 298 (by decide +kernel) rfl
theorem mlL_35 : Cond.methodLink RL 35 yX7_even ∈ lw_good := mgT 299 (by decide +kernel) rfl
theorem im_yX7_even : Cond.instanceMethod yX7_even ∈ lw_good := mgT 300 (by decide +kernel) rfl
theorem se_yX7_even : Cond.selects yX7_even.cls yX7_even yX7_even ∈ lw_good := mgT 301 (by decide +kernel) rfl
theorem co_yX7_even : Cond.code yX7_even cX7_even 3 (some .boolean) ∈ lw_good := mgT 302 (by decide +kernel) rfl
theorem mlX7_104 : Cond.methodLink RX7 104 yX6_holdsEven ∈ lw_good := mgT 303 (by decide +kernel) rfl
theorem im_yX6_holdsEven : Cond.instanceMethod yX6_holdsEven ∈ lw_good := mgT 304 (by decide +kernel) rfl
theorem se_yX6_holdsEven : Cond.selects yX6_holdsEven.cls yX6_holdsEven yX6_holdsEven ∈ lw_good := mgT 305 (by decide +kernel) rfl
theorem co_yX6_holdsEven : Cond.code yX6_holdsEven cX6_holdsEven 2 (some .boolean) ∈ lw_good := mgT 306 (by decide +kernel) rfl
theorem mlL_40 : Cond.methodLink RL 40 yX7_price ∈ lw_good := mgT 307 (by decide +kernel) rfl
theorem im_yX7_price : Cond.instanceMethod yX7_price ∈ lw_good := mgT 308 (by decide +kernel) rfl
theorem se_yX7_price : Cond.selects yX7_price.cls yX7_price yX7_price ∈ lw_good := mgT 309 (by decide +kernel) rfl
theorem co_yX7_price : Cond.code yX7_price cX7_price 3 (some .boolean) ∈ lw_good := mgT 310 (by decide +kernel) rfl
theorem mlL_44 : Cond.methodLink RL 44 yX7_look ∈ lw_good := mgT 311 (by decide +kernel) rfl
theorem im_yX7_look : Cond.instanceMethod yX7_look ∈ lw_good := mgT 312 (by decide +kernel) rfl
theorem se_yX7_look : Cond.selects yX7_look.cls yX7_look yX7_look ∈ lw_good := mgT 313 (by decide +kernel) rfl
theorem co_yX7_look : Cond.code yX7_look cX7_look 2 (some .int) ∈ lw_good := mgT 314 (by decide +kernel) rfl
theorem mlX7_113 : Cond.methodLink RX7 113 yX7_lookInRows ∈ lw_good := mgT 315 (by decide +kernel) rfl
theorem im_yX7_lookInRows : Cond.instanceMethod yX7_lookInRows ∈ lw_good := mgT 317 (by decide +kernel) rfl
theorem co_yX7_lookInRows : Cond.code yX7_lookInRows cX7_lookInRows 2 (some .int) ∈ lw_good := mgT 318 (by decide +kernel) rfl
theorem mlL_48 : Cond.methodLink RL 48 yX7_run ∈ lw_good := mgT 319 (by decide +kernel) rfl
theorem im_yX7_run : Cond.instanceMethod yX7_run ∈ lw_good := mgT 320 (by decide +kernel) rfl
theorem se_yX7_run : Cond.selects yX7_run.cls yX7_run yX7_run ∈ lw_good := mgT 321 (by decide +kernel) rfl
theorem co_yX7_run : Cond.code yX7_run cX7_run 4 (some .int) ∈ lw_good := mgT 322 (by decide +kernel) rfl
theorem mlX7_116 : Cond.methodLink RX7 116 yX7_isInput ∈ lw_good := mgT 323 (by decide +kernel) rfl
theorem sm_yX7_isInput : Cond.static yX7_isInput ∈ lw_good := mgT 324 (by decide +kernel) rfl
theorem co_yX7_isInput : Cond.code yX7_isInput cX7_isInput 1 (some .boolean) ∈ lw_good := mgT 325 (by decide +kernel) rfl
theorem mlX7_119 : Cond.methodLink RX7 119 yX7_fillRow ∈ lw_good := mgT 326 (by decide +kernel) rfl
theorem im_yX7_fillRow : Cond.instanceMethod yX7_fillRow ∈ lw_good := mgT 328 (by decide +kernel) rfl
theorem co_yX7_fillRow : Cond.code yX7_fillRow cX7_fillRow 4 none ∈ lw_good := mgT 329 (by decide +kernel) rfl
theorem mlX7_202 : Cond.methodLink RX7 202 yX1_go ∈ lw_good := mgT 330 (by decide +kernel) rfl
theorem im_yX1_go : Cond.instanceMethod yX1_go ∈ lw_good := mgT 331 (by decide +kernel) rfl
theorem se_yX1_go : Cond.selects yX1_go.cls yX1_go yX1_go ∈ lw_good := mgT 332 (by decide +kernel) rfl
theorem co_yX1_go : Cond.code yX1_go cX1_go 7 none ∈ lw_good := mgT 333 (by decide +kernel) rfl
theorem mlX1_22 : Cond.methodLink RX1 22 yX1_begin ∈ lw_good := mgT 334 (by decide +kernel) rfl
theorem im_yX1_begin : Cond.instanceMethod yX1_begin ∈ lw_good := mgT 336 (by decide +kernel) rfl
theorem co_yX1_begin : Cond.code yX1_begin cX1_begin 5 none ∈ lw_good := mgT 337 (by decide +kernel) rfl
theorem mlX1_26 : Cond.methodLink RX1 26 yX5_begin ∈ lw_good := mgT 338 (by decide +kernel) rfl
theorem im_yX5_begin : Cond.instanceMethod yX5_begin ∈ lw_good := mgT 339 (by decide +kernel) rfl
theorem se_yX5_begin : Cond.selects yX5_begin.cls yX5_begin yX5_begin ∈ lw_good := mgT 340 (by decide +kernel) rfl
theorem co_yX5_begin : Cond.code yX5_begin cX5_begin 2 none ∈ lw_good := mgT 341 (by decide +kernel) rfl
theorem mlX1_30 : Cond.methodLink RX1 30 yX3_has ∈ lw_good := mgT 342 (by decide +kernel) rfl
theorem mlX1_45 : Cond.methodLink RX1 45 yX1_doOrder ∈ lw_good := mgT 343 (by decide +kernel) rfl
theorem im_yX1_doOrder : Cond.instanceMethod yX1_doOrder ∈ lw_good := mgT 345 (by decide +kernel) rfl
theorem co_yX1_doOrder : Cond.code yX1_doOrder cX1_doOrder 10 none ∈ lw_good := mgT 346 (by decide +kernel) rfl
theorem mlX1_62 : Cond.methodLink RX1 62 yX1_bitsOf ∈ lw_good := mgT 347 (by decide +kernel) rfl
theorem sm_yX1_bitsOf : Cond.static yX1_bitsOf ∈ lw_good := mgT 348 (by decide +kernel) rfl
theorem co_yX1_bitsOf : Cond.code yX1_bitsOf cX1_bitsOf 1 (some .int) ∈ lw_good := mgT 349 (by decide +kernel) rfl
theorem mlX1_93 : Cond.methodLink RX1 93 yJ6_numberOfLeadingZeros_0f7a4 ∈ lw_good := mgT 350 (by decide +kernel) rfl
theorem sm_yJ6_numberOfLeadingZeros_0f7a4 : Cond.static yJ6_numberOfLeadingZeros_0f7a4 ∈ lw_good := mgT 351 (by decide +kernel) rfl
theorem co_yJ6_numberOfLeadingZeros_0f7a4 : Cond.code yJ6_numberOfLeadingZeros_0f7a4 cJ6_numberOfLeadingZeros_0f7a4 2 (some .int) ∈ lw_good := mgT 352 (by decide +kernel) rfl
theorem kkJ6_264 : Cond.constant RJ6 264 65536 ∈ lw_good := mgT 353 (by decide +kernel) rfl
theorem mlX1_69 : Cond.methodLink RX1 69 yX1_tellOf ∈ lw_good := mgT 354 (by decide +kernel) rfl
theorem im_yX1_tellOf : Cond.instanceMethod yX1_tellOf ∈ lw_good := mgT 356 (by decide +kernel) rfl
theorem co_yX1_tellOf : Cond.code yX1_tellOf cX1_tellOf 7 none ∈ lw_good := mgT 357 (by decide +kernel) rfl
theorem mlX1_89 : Cond.methodLink RX1 89 yX5_tell ∈ lw_good := mgT 358 (by decide +kernel) rfl
theorem im_yX5_tell : Cond.instanceMethod yX5_tell ∈ lw_good := mgT 359 (by decide +kernel) rfl
theorem se_yX5_tell : Cond.selects yX5_tell.cls yX5_tell yX5_tell ∈ lw_good := mgT 360 (by decide +kernel) rfl
theorem co_yX5_tell : Cond.code yX5_tell cX5_tell 4 none ∈ lw_good := mgT 361 (by decide +kernel) rfl
theorem mlX1_73 : Cond.methodLink RX1 73 yX1_next ∈ lw_good := mgT 362 (by decide +kernel) rfl
theorem im_yX1_next : Cond.instanceMethod yX1_next ∈ lw_good := mgT 364 (by decide +kernel) rfl
theorem co_yX1_next : Cond.code yX1_next cX1_next 4 (some .int) ∈ lw_good := mgT 365 (by decide +kernel) rfl
theorem mlX1_77 : Cond.methodLink RX1 77 yX1_work ∈ lw_good := mgT 366 (by decide +kernel) rfl
theorem im_yX1_work : Cond.instanceMethod yX1_work ∈ lw_good := mgT 368 (by decide +kernel) rfl
theorem co_yX1_work : Cond.code yX1_work cX1_work 5 none ∈ lw_good := mgT 369 (by decide +kernel) rfl
theorem mlX7_206 : Cond.methodLink RX7 206 yX4_fill ∈ lw_good := mgT 370 (by decide +kernel) rfl
theorem im_yX4_fill : Cond.instanceMethod yX4_fill ∈ lw_good := mgT 371 (by decide +kernel) rfl
theorem se_yX4_fill : Cond.selects yX4_fill.cls yX4_fill yX4_fill ∈ lw_good := mgT 372 (by decide +kernel) rfl
theorem co_yX4_fill : Cond.code yX4_fill cX4_fill 5 none ∈ lw_good := mgT 373 (by decide +kernel) rfl
theorem mlX4_31 : Cond.methodLink RX4 31 yX4_add ∈ lw_good := mgT 374 (by decide +kernel) rfl
theorem im_yX4_add : Cond.instanceMethod yX4_add ∈ lw_good := mgT 376 (by decide +kernel) rfl
theorem co_yX4_add : Cond.code yX4_add cX4_add 4 none ∈ lw_good := mgT 377 (by decide +kernel) rfl
theorem mlX4_35 : Cond.methodLink RX4 35 yX5_costWith ∈ lw_good := mgT 378 (by decide +kernel) rfl
theorem im_yX5_costWith : Cond.instanceMethod yX5_costWith ∈ lw_good := mgT 379 (by decide +kernel) rfl
theorem se_yX5_costWith : Cond.selects yX5_costWith.cls yX5_costWith yX5_costWith ∈ lw_good := mgT 380 (by decide +kernel) rfl
theorem co_yX5_costWith : Cond.code yX5_costWith cX5_costWith 4 (some .int) ∈ lw_good := mgT 381 (by decide +kernel) rfl
theorem mlX7_126 : Cond.methodLink RX7 126 yX5_costWith ∈ lw_good := mgT 382 (by decide +kernel) rfl
theorem mlL_53 : Cond.methodLink RL 53 yX7_seen ∈ lw_good := mgT 383 (by decide +kernel) rfl
theorem im_yX7_seen : Cond.instanceMethod yX7_seen ∈ lw_good := mgT 384 (by decide +kernel) rfl
theorem se_yX7_seen : Cond.selects yX7_seen.cls yX7_seen yX7_seen ∈ lw_good := mgT 385 (by decide +kernel) rfl
theorem co_yX7_seen : Cond.code yX7_seen cX7_seen 5 (some .int) ∈ lw_good := mgT 386 (by decide +kernel) rfl
theorem mlX7_139 : Cond.methodLink RX7 139 yX4_has ∈ lw_good := mgT 387 (by decide +kernel) rfl
theorem im_yX4_has : Cond.instanceMethod yX4_has ∈ lw_good := mgT 388 (by decide +kernel) rfl
theorem se_yX4_has : Cond.selects yX4_has.cls yX4_has yX4_has ∈ lw_good := mgT 389 (by decide +kernel) rfl
theorem co_yX4_has : Cond.code yX4_has cX4_has 2 (some .boolean) ∈ lw_good := mgT 390 (by decide +kernel) rfl
theorem mlL_58 : Cond.methodLink RL 58 yX7_classes ∈ lw_good := mgT 391 (by decide +kernel) rfl
theorem im_yX7_classes : Cond.instanceMethod yX7_classes ∈ lw_good := mgT 392 (by decide +kernel) rfl
theorem se_yX7_classes : Cond.selects yX7_classes.cls yX7_classes yX7_classes ∈ lw_good := mgT 393 (by decide +kernel) rfl
theorem co_yX7_classes : Cond.code yX7_classes cX7_classes 2 (some .int) ∈ lw_good := mgT 394 (by decide +kernel) rfl
theorem mlX7_149 : Cond.methodLink RX7 149 yX2_learn ∈ lw_good := mgT 395 (by decide +kernel) rfl
theorem im_yX2_learn : Cond.instanceMethod yX2_learn ∈ lw_good := mgT 396 (by decide +kernel) rfl
theorem se_yX2_learn : Cond.selects yX2_learn.cls yX2_learn yX2_learn ∈ lw_good := mgT 397 (by decide +kernel) rfl
theorem co_yX2_learn : Cond.code yX2_learn cX2_learn 9 none ∈ lw_good := mgT 398 (by decide +kernel) rfl
theorem mlX2_34 : Cond.methodLink RX2 34 yX1_go ∈ lw_good := mgT 399 (by decide +kernel) rfl
theorem mlX2_49 : Cond.methodLink RX2 49 yX4_fill ∈ lw_good := mgT 400 (by decide +kernel) rfl
theorem mlX2_53 : Cond.methodLink RX2 53 yX2_classAmong ∈ lw_good := mgT 401 (by decide +kernel) rfl
theorem im_yX2_classAmong : Cond.instanceMethod yX2_classAmong ∈ lw_good := mgT 403 (by decide +kernel) rfl
theorem co_yX2_classAmong : Cond.code yX2_classAmong cX2_classAmong 4 (some .int) ∈ lw_good := mgT 404 (by decide +kernel) rfl
theorem mlX2_57 : Cond.methodLink RX2 57 yX4_firstOtherwise ∈ lw_good := mgT 405 (by decide +kernel) rfl
theorem im_yX4_firstOtherwise : Cond.instanceMethod yX4_firstOtherwise ∈ lw_good := mgT 406 (by decide +kernel) rfl
theorem se_yX4_firstOtherwise : Cond.selects yX4_firstOtherwise.cls yX4_firstOtherwise yX4_firstOtherwise ∈ lw_good := mgT 407 (by decide +kernel) rfl
theorem co_yX4_firstOtherwise : Cond.code yX4_firstOtherwise cX4_firstOtherwise 4 (some .int) ∈ lw_good := mgT 408 (by decide +kernel) rfl
theorem mlX4_46 : Cond.methodLink RX4 46 yJ9_min_7cf53 ∈ lw_good := mgT 409 (by decide +kernel) rfl
theorem sm_yJ9_min_7cf53 : Cond.static yJ9_min_7cf53 ∈ lw_good := mgT 410 (by decide +kernel) rfl
theorem co_yJ9_min_7cf53 : Cond.code yJ9_min_7cf53 cJ9_min_7cf53 2 (some .int) ∈ lw_good := mgT 411 (by decide +kernel) rfl
theorem mlL_62 : Cond.methodLink RL 62 yX7_classOf ∈ lw_good := mgT 412 (by decide +kernel) rfl
theorem im_yX7_classOf : Cond.instanceMethod yX7_classOf ∈ lw_good := mgT 413 (by decide +kernel) rfl
theorem se_yX7_classOf : Cond.selects yX7_classOf.cls yX7_classOf yX7_classOf ∈ lw_good := mgT 414 (by decide +kernel) rfl
theorem co_yX7_classOf : Cond.code yX7_classOf cX7_classOf 3 (some .int) ∈ lw_good := mgT 415 (by decide +kernel) rfl
theorem mlL_67 : Cond.methodLink RL 67 yX7_most ∈ lw_good := mgT 416 (by decide +kernel) rfl
theorem im_yX7_most : Cond.instanceMethod yX7_most ∈ lw_good := mgT 417 (by decide +kernel) rfl
theorem se_yX7_most : Cond.selects yX7_most.cls yX7_most yX7_most ∈ lw_good := mgT 418 (by decide +kernel) rfl
theorem co_yX7_most : Cond.code yX7_most cX7_most 3 (some .int) ∈ lw_good := mgT 419 (by decide +kernel) rfl
theorem mlX7_160 : Cond.methodLink RX7 160 yJ9_max_7cf53 ∈ lw_good := mgT 420 (by decide +kernel) rfl
theorem sm_yJ9_max_7cf53 : Cond.static yJ9_max_7cf53 ∈ lw_good := mgT 421 (by decide +kernel) rfl
theorem co_yJ9_max_7cf53 : Cond.code yJ9_max_7cf53 cJ9_max_7cf53 2 (some .int) ∈ lw_good := mgT 422 (by decide +kernel) rfl
theorem mlL_72 : Cond.methodLink RL 72 yX7_silent ∈ lw_good := mgT 423 (by decide +kernel) rfl
theorem im_yX7_silent : Cond.instanceMethod yX7_silent ∈ lw_good := mgT 424 (by decide +kernel) rfl
theorem se_yX7_silent : Cond.selects yX7_silent.cls yX7_silent yX7_silent ∈ lw_good := mgT 425 (by decide +kernel) rfl
theorem co_yX7_silent : Cond.code yX7_silent cX7_silent 1 (some .boolean) ∈ lw_good := mgT 426 (by decide +kernel) rfl
theorem mlX7_166 : Cond.methodLink RX7 166 yX7_firstToldOpen ∈ lw_good := mgT 427 (by decide +kernel) rfl
theorem im_yX7_firstToldOpen : Cond.instanceMethod yX7_firstToldOpen ∈ lw_good := mgT 429 (by decide +kernel) rfl
theorem co_yX7_firstToldOpen : Cond.code yX7_firstToldOpen cX7_firstToldOpen 2 (some .int) ∈ lw_good := mgT 430 (by decide +kernel) rfl
theorem mlL_77 : Cond.methodLink RL 77 yX7_pair ∈ lw_good := mgT 431 (by decide +kernel) rfl
theorem im_yX7_pair : Cond.instanceMethod yX7_pair ∈ lw_good := mgT 432 (by decide +kernel) rfl
theorem se_yX7_pair : Cond.selects yX7_pair.cls yX7_pair yX7_pair ∈ lw_good := mgT 433 (by decide +kernel) rfl
theorem co_yX7_pair : Cond.code yX7_pair cX7_pair 4 (some .int) ∈ lw_good := mgT 434 (by decide +kernel) rfl
theorem mlX7_170 : Cond.methodLink RX7 170 yX2_firstParted ∈ lw_good := mgT 435 (by decide +kernel) rfl
theorem im_yX2_firstParted : Cond.instanceMethod yX2_firstParted ∈ lw_good := mgT 436 (by decide +kernel) rfl
theorem se_yX2_firstParted : Cond.selects yX2_firstParted.cls yX2_firstParted yX2_firstParted ∈ lw_good := mgT 437 (by decide +kernel) rfl
theorem co_yX2_firstParted : Cond.code yX2_firstParted cX2_firstParted 3 (some .int) ∈ lw_good := mgT 438 (by decide +kernel) rfl
theorem mlX7_173 : Cond.methodLink RX7 173 yX7_firstTold ∈ lw_good := mgT 439 (by decide +kernel) rfl
theorem im_yX7_firstTold : Cond.instanceMethod yX7_firstTold ∈ lw_good := mgT 441 (by decide +kernel) rfl
theorem co_yX7_firstTold : Cond.code yX7_firstTold cX7_firstTold 6 (some .int) ∈ lw_good := mgT 442 (by decide +kernel) rfl
theorem mlX7_210 : Cond.methodLink RX7 210 yX4_firstOtherwise ∈ lw_good := mgT 443 (by decide +kernel) rfl
theorem mlL_81 : Cond.methodLink RL 81 yX7_cure ∈ lw_good := mgT 444 (by decide +kernel) rfl
theorem im_yX7_cure : Cond.instanceMethod yX7_cure ∈ lw_good := mgT 445 (by decide +kernel) rfl
theorem se_yX7_cure : Cond.selects yX7_cure.cls yX7_cure yX7_cure ∈ lw_good := mgT 446 (by decide +kernel) rfl
theorem co_yX7_cure : Cond.code yX7_cure cX7_cure 3 (some .int) ∈ lw_good := mgT 447 (by decide +kernel) rfl
theorem mlX7_177 : Cond.methodLink RX7 177 yX0_learn ∈ lw_good := mgT 448 (by decide +kernel) rfl
theorem im_yX0_learn : Cond.instanceMethod yX0_learn ∈ lw_good := mgT 449 (by decide +kernel) rfl
theorem se_yX0_learn : Cond.selects yX0_learn.cls yX0_learn yX0_learn ∈ lw_good := mgT 450 (by decide +kernel) rfl
theorem co_yX0_learn : Cond.code yX0_learn cX0_learn 8 none ∈ lw_good := mgT 451 (by decide +kernel) rfl
theorem mlX0_42 : Cond.methodLink RX0 42 yX3_placesUnder ∈ lw_good := mgT 452 (by decide +kernel) rfl
theorem im_yX3_placesUnder : Cond.instanceMethod yX3_placesUnder ∈ lw_good := mgT 453 (by decide +kernel) rfl
theorem se_yX3_placesUnder : Cond.selects yX3_placesUnder.cls yX3_placesUnder yX3_placesUnder ∈ lw_good := mgT 454 (by decide +kernel) rfl
theorem co_yX3_placesUnder : Cond.code yX3_placesUnder cX3_placesUnder 4 (some .int) ∈ lw_good := mgT 455 (by decide +kernel) rfl
theorem mlX3_25 : Cond.methodLink RX3 25 yX3_eyeOn ∈ lw_good := mgT 456 (by decide +kernel) rfl
theorem sm_yX3_eyeOn : Cond.static yX3_eyeOn ∈ lw_good := mgT 457 (by decide +kernel) rfl
theorem co_yX3_eyeOn : Cond.code yX3_eyeOn cX3_eyeOn 1 (some .int) ∈ lw_good := mgT 458 (by decide +kernel) rfl
theorem mlX0_48 : Cond.methodLink RX0 48 yX0_gatherRuns ∈ lw_good := mgT 459 (by decide +kernel) rfl
theorem im_yX0_gatherRuns : Cond.instanceMethod yX0_gatherRuns ∈ lw_good := mgT 461 (by decide +kernel) rfl
theorem co_yX0_gatherRuns : Cond.code yX0_gatherRuns cX0_gatherRuns 7 (some .int) ∈ lw_good := mgT 462 (by decide +kernel) rfl
theorem mlX0_56 : Cond.methodLink RX0 56 yX1_go ∈ lw_good := mgT 463 (by decide +kernel) rfl
theorem mlX0_62 : Cond.methodLink RX0 62 yX0_isNew ∈ lw_good := mgT 464 (by decide +kernel) rfl
theorem im_yX0_isNew : Cond.instanceMethod yX0_isNew ∈ lw_good := mgT 466 (by decide +kernel) rfl
theorem co_yX0_isNew : Cond.code yX0_isNew cX0_isNew 4 (some .boolean) ∈ lw_good := mgT 467 (by decide +kernel) rfl
theorem mlX0_66 : Cond.methodLink RX0 66 yX5_alwaysSeenAs ∈ lw_good := mgT 468 (by decide +kernel) rfl
theorem im_yX5_alwaysSeenAs : Cond.instanceMethod yX5_alwaysSeenAs ∈ lw_good := mgT 469 (by decide +kernel) rfl
theorem se_yX5_alwaysSeenAs : Cond.selects yX5_alwaysSeenAs.cls yX5_alwaysSeenAs yX5_alwaysSeenAs ∈ lw_good := mgT 470 (by decide +kernel) rfl
theorem co_yX5_alwaysSeenAs : Cond.code yX5_alwaysSeenAs cX5_alwaysSeenAs 4 (some .boolean) ∈ lw_good := mgT 471 (by decide +kernel) rfl
theorem mlX5_44 : Cond.methodLink RX5 44 yX5_costsAs ∈ lw_good := mgT 472 (by decide +kernel) rfl
theorem im_yX5_costsAs : Cond.instanceMethod yX5_costsAs ∈ lw_good := mgT 474 (by decide +kernel) rfl
theorem co_yX5_costsAs : Cond.code yX5_costsAs cX5_costsAs 3 (some .boolean) ∈ lw_good := mgT 475 (by decide +kernel) rfl
theorem mlX0_52 : Cond.methodLink RX0 52 yX0_sift ∈ lw_good := mgT 476 (by decide +kernel) rfl
theorem im_yX0_sift : Cond.instanceMethod yX0_sift ∈ lw_good := mgT 478 (by decide +kernel) rfl
theorem co_yX0_sift : Cond.code yX0_sift cX0_sift 5 none ∈ lw_good := mgT 479 (by decide +kernel) rfl
theorem mlX0_70 : Cond.methodLink RX0 70 yX0_seenAlike ∈ lw_good := mgT 480 (by decide +kernel) rfl
theorem im_yX0_seenAlike : Cond.instanceMethod yX0_seenAlike ∈ lw_good := mgT 482 (by decide +kernel) rfl
theorem co_yX0_seenAlike : Cond.code yX0_seenAlike cX0_seenAlike 5 (some .boolean) ∈ lw_good := mgT 483 (by decide +kernel) rfl
theorem mlX0_74 : Cond.methodLink RX0 74 yX4_fill ∈ lw_good := mgT 484 (by decide +kernel) rfl
theorem mlX0_78 : Cond.methodLink RX0 78 yX4_firstOtherwise ∈ lw_good := mgT 485 (by decide +kernel) rfl
theorem mlX7_180 : Cond.methodLink RX7 180 yX0_cheapest ∈ lw_good := mgT 486 (by decide +kernel) rfl
theorem im_yX0_cheapest : Cond.instanceMethod yX0_cheapest ∈ lw_good := mgT 487 (by decide +kernel) rfl
theorem se_yX0_cheapest : Cond.selects yX0_cheapest.cls yX0_cheapest yX0_cheapest ∈ lw_good := mgT 488 (by decide +kernel) rfl
theorem co_yX0_cheapest : Cond.code yX0_cheapest cX0_cheapest 5 (some .int) ∈ lw_good := mgT 489 (by decide +kernel) rfl
theorem mlX0_85 : Cond.methodLink RX0 85 yX0_isBetter ∈ lw_good := mgT 490 (by decide +kernel) rfl
theorem sm_yX0_isBetter : Cond.static yX0_isBetter ∈ lw_good := mgT 491 (by decide +kernel) rfl
theorem co_yX0_isBetter : Cond.code yX0_isBetter cX0_isBetter 5 (some .boolean) ∈ lw_good := mgT 492 (by decide +kernel) rfl
theorem mlX0_89 : Cond.methodLink RX0 89 yX3_priceOf ∈ lw_good := mgT 493 (by decide +kernel) rfl
theorem im_yX3_priceOf : Cond.instanceMethod yX3_priceOf ∈ lw_good := mgT 494 (by decide +kernel) rfl
theorem se_yX3_priceOf : Cond.selects yX3_priceOf.cls yX3_priceOf yX3_priceOf ∈ lw_good := mgT 495 (by decide +kernel) rfl
theorem co_yX3_priceOf : Cond.code yX3_priceOf cX3_priceOf 4 (some .int) ∈ lw_good := mgT 496 (by decide +kernel) rfl
theorem mlX0_92 : Cond.methodLink RX0 92 yJ6_bitCount_0f7a4 ∈ lw_good := mgT 497 (by decide +kernel) rfl
theorem sm_yJ6_bitCount_0f7a4 : Cond.static yJ6_bitCount_0f7a4 ∈ lw_good := mgT 498 (by decide +kernel) rfl
theorem co_yJ6_bitCount_0f7a4 : Cond.code yJ6_bitCount_0f7a4 cJ6_bitCount_0f7a4 1 (some .int) ∈ lw_good := mgT 499 (by decide +kernel) rfl
theorem kkJ6_265 : Cond.constant RJ6 265 1431655765 ∈ lw_good := mgT 500 (by decide +kernel) rfl
theorem kkJ6_266 : Cond.constant RJ6 266 858993459 ∈ lw_good := mgT 501 (by decide +kernel) rfl
theorem kkJ6_267 : Cond.constant RJ6 267 252645135 ∈ lw_good := mgT 502 (by decide +kernel) rfl
theorem mlX7_184 : Cond.methodLink RX7 184 yX3_priceOf ∈ lw_good := mgT 503 (by decide +kernel) rfl
theorem mlX7_187 : Cond.methodLink RX7 187 yX0_howMany ∈ lw_good := mgT 504 (by decide +kernel) rfl
theorem im_yX0_howMany : Cond.instanceMethod yX0_howMany ∈ lw_good := mgT 505 (by decide +kernel) rfl
theorem se_yX0_howMany : Cond.selects yX0_howMany.cls yX0_howMany yX0_howMany ∈ lw_good := mgT 506 (by decide +kernel) rfl
theorem co_yX0_howMany : Cond.code yX0_howMany cX0_howMany 5 (some .int) ∈ lw_good := mgT 507 (by decide +kernel) rfl
theorem mlL_85 : Cond.methodLink RL 85 yX7_reached ∈ lw_good := mgT 508 (by decide +kernel) rfl
theorem im_yX7_reached : Cond.instanceMethod yX7_reached ∈ lw_good := mgT 509 (by decide +kernel) rfl
theorem se_yX7_reached : Cond.selects yX7_reached.cls yX7_reached yX7_reached ∈ lw_good := mgT 510 (by decide +kernel) rfl
theorem co_yX7_reached : Cond.code yX7_reached cX7_reached 1 (some .int) ∈ lw_good := mgT 511 (by decide +kernel) rfl
theorem mlX7_190 : Cond.methodLink RX7 190 yX7_visitedByAll ∈ lw_good := mgT 512 (by decide +kernel) rfl
theorem im_yX7_visitedByAll : Cond.instanceMethod yX7_visitedByAll ∈ lw_good := mgT 514 (by decide +kernel) rfl
theorem co_yX7_visitedByAll : Cond.code yX7_visitedByAll cX7_visitedByAll 4 (some .int) ∈ lw_good := mgT 515 (by decide +kernel) rfl
theorem mlL_89 : Cond.methodLink RL 89 yX7_tellers ∈ lw_good := mgT 516 (by decide +kernel) rfl
theorem im_yX7_tellers : Cond.instanceMethod yX7_tellers ∈ lw_good := mgT 517 (by decide +kernel) rfl
theorem se_yX7_tellers : Cond.selects yX7_tellers.cls yX7_tellers yX7_tellers ∈ lw_good := mgT 518 (by decide +kernel) rfl
theorem co_yX7_tellers : Cond.code yX7_tellers cX7_tellers 4 (some .int) ∈ lw_good := mgT 519 (by decide +kernel) rfl
theorem mlX7_193 : Cond.methodLink RX7 193 yX3_allPlaces ∈ lw_good := mgT 520 (by decide +kernel) rfl
theorem im_yX3_allPlaces : Cond.instanceMethod yX3_allPlaces ∈ lw_good := mgT 521 (by decide +kernel) rfl
theorem se_yX3_allPlaces : Cond.selects yX3_allPlaces.cls yX3_allPlaces yX3_allPlaces ∈ lw_good := mgT 522 (by decide +kernel) rfl
theorem co_yX3_allPlaces : Cond.code yX3_allPlaces cX3_allPlaces 1 (some .int) ∈ lw_good := mgT 523 (by decide +kernel) rfl
theorem clL_10 : Cond.classLink RL 10 RX8 ∈ lw_good := mgT 524 (by decide +kernel) rfl
theorem ins_X8 : Cond.instantiable RX8 23 ∈ lw_good := mgT 525 (by decide +kernel) rfl
theorem mlL_12 : Cond.methodLink RL 12 yX8_init ∈ lw_good := mgT 526 (by decide +kernel) rfl
theorem im_yX8_init : Cond.instanceMethod yX8_init ∈ lw_good := mgT 527 (by decide +kernel) rfl
theorem co_yX8_init : Cond.code yX8_init cX8_init 1 none ∈ lw_good := mgT 528 (by decide +kernel) rfl
theorem mlX8_1 : Cond.methodLink RX8 1 objectInit ∈ lw_good := mgT 529 (by decide +kernel) rfl
theorem flX8_66 : Cond.fieldLink RX8 66 (TX8 0).1 (TX8 0).2.1 (TX8 0).2.2.1 ∈ lw_good := mgT 530 (by decide +kernel) rfl
theorem flX8_70 : Cond.fieldLink RX8 70 (TX8 1).1 (TX8 1).2.1 (TX8 1).2.2.1 ∈ lw_good := mgT 531 (by decide +kernel) rfl
theorem flX8_7 : Cond.fieldLink RX8 7 (TX8 2).1 (TX8 2).2.1 (TX8 2).2.2.1 ∈ lw_good := mgT 532 (by decide +kernel) rfl
theorem flX8_13 : Cond.fieldLink RX8 13 (TX8 3).1 (TX8 3).2.1 (TX8 3).2.2.1 ∈ lw_good := mgT 533 (by decide +kernel) rfl
theorem flX8_16 : Cond.fieldLink RX8 16 (TX8 4).1 (TX8 4).2.1 (TX8 4).2.2.1 ∈ lw_good := mgT 534 (by decide +kernel) rfl
theorem flX8_19 : Cond.fieldLink RX8 19 (TX8 5).1 (TX8 5).2.1 (TX8 5).2.2.1 ∈ lw_good := mgT 535 (by decide +kernel) rfl
theorem flX8_23 : Cond.fieldLink RX8 23 (TX8 6).1 (TX8 6).2.1 (TX8 6).2.2.1 ∈ lw_good := mgT 536 (by decide +kernel) rfl
theorem flX8_80 : Cond.fieldLink RX8 80 (TX8 7).1 (TX8 7).2.1 (TX8 7).2.2.1 ∈ lw_good := mgT 537 (by decide +kernel) rfl
theorem flX8_26 : Cond.fieldLink RX8 26 (TX8 8).1 (TX8 8).2.1 (TX8 8).2.2.1 ∈ lw_good := mgT 538 (by decide +kernel) rfl
theorem flX8_29 : Cond.fieldLink RX8 29 (TX8 9).1 (TX8 9).2.1 (TX8 9).2.2.1 ∈ lw_good := mgT 539 (by decide +kernel) rfl
theorem flX8_32 : Cond.fieldLink RX8 32 (TX8 10).1 (TX8 10).2.1 (TX8 10).2.2.1 ∈ lw_good := mgT 540 (by decide +kernel) rfl
theorem flX8_35 : Cond.fieldLink RX8 35 (TX8 11).1 (TX8 11).2.1 (TX8 11).2.2.1 ∈ lw_good := mgT 541 (by decide +kernel) rfl
theorem flX8_38 : Cond.fieldLink RX8 38 (TX8 12).1 (TX8 12).2.1 (TX8 12).2.2.1 ∈ lw_good := mgT 542 (by decide +kernel) rfl
theorem flX8_42 : Cond.fieldLink RX8 42 (TX8 13).1 (TX8 13).2.1 (TX8 13).2.2.1 ∈ lw_good := mgT 543 (by decide +kernel) rfl
theorem flX8_45 : Cond.fieldLink RX8 45 (TX8 14).1 (TX8 14).2.1 (TX8 14).2.2.1 ∈ lw_good := mgT 544 (by decide +kernel) rfl
theorem flX8_48 : Cond.fieldLink RX8 48 (TX8 15).1 (TX8 15).2.1 (TX8 15).2.2.1 ∈ lw_good := mgT 545 (by decide +kernel) rfl
theorem flX8_51 : Cond.fieldLink RX8 51 (TX8 16).1 (TX8 16).2.1 (TX8 16).2.2.1 ∈ lw_good := mgT 546 (by decide +kernel) rfl
theorem flX8_54 : Cond.fieldLink RX8 54 (TX8 17).1 (TX8 17).2.1 (TX8 17).2.2.1 ∈ lw_good := mgT 547 (by decide +kernel) rfl
theorem flX8_57 : Cond.fieldLink RX8 57 (TX8 18).1 (TX8 18).2.1 (TX8 18).2.2.1 ∈ lw_good := mgT 548 (by decide +kernel) rfl
theorem flX8_60 : Cond.fieldLink RX8 60 (TX8 19).1 (TX8 19).2.1 (TX8 19).2.2.1 ∈ lw_good := mgT 549 (by decide +kernel) rfl
theorem flX8_63 : Cond.fieldLink RX8 63 (TX8 20).1 (TX8 20).2.1 (TX8 20).2.2.1 ∈ lw_good := mgT 550 (by decide +kernel) rfl
theorem flX8_121 : Cond.fieldLink RX8 121 (TX8 21).1 (TX8 21).2.1 (TX8 21).2.2.1 ∈ lw_good := mgT 551 (by decide +kernel) rfl
theorem flX8_124 : Cond.fieldLink RX8 124 (TX8 22).1 (TX8 22).2.1 (TX8 22).2.2.1 ∈ lw_good := mgT 552 (by decide +kernel) rfl
theorem mlL_17 : Cond.methodLink RL 17 yX8_order ∈ lw_good := mgT 600 (by decide +kernel) rfl
theorem im_yX8_order : Cond.instanceMethod yX8_order ∈ lw_good := mgT 601 (by decide +kernel) rfl
theorem se_yX8_order : Cond.selects yX8_order.cls yX8_order yX8_order ∈ lw_good := mgT 602 (by decide +kernel) rfl
theorem co_yX8_order : Cond.code yX8_order cX8_order 2 (some .int) ∈ lw_good := mgT 603 (by decide +kernel) rfl
theorem mlX8_73 : Cond.methodLink RX8 73 yX8_isOrder ∈ lw_good := mgT 604 (by decide +kernel) rfl
theorem im_yX8_isOrder : Cond.instanceMethod yX8_isOrder ∈ lw_good := mgT 606 (by decide +kernel) rfl
theorem co_yX8_isOrder : Cond.code yX8_isOrder cX8_isOrder 2 (some .boolean) ∈ lw_good := mgT 607 (by decide +kernel) rfl
theorem kkX8_69 : Cond.constant RX8 69 40960 ∈ lw_good := mgT 608 (by decide +kernel) rfl
theorem mlL_22 : Cond.methodLink RL 22 yX8_change ∈ lw_good := mgT 609 (by decide +kernel) rfl
theorem im_yX8_change : Cond.instanceMethod yX8_change ∈ lw_good := mgT 610 (by decide +kernel) rfl
theorem se_yX8_change : Cond.selects yX8_change.cls yX8_change yX8_change ∈ lw_good := mgT 611 (by decide +kernel) rfl
theorem co_yX8_change : Cond.code yX8_change cX8_change 3 (some .boolean) ∈ lw_good := mgT 612 (by decide +kernel) rfl
theorem mlX8_77 : Cond.methodLink RX8 77 yX8_isPlace ∈ lw_good := mgT 613 (by decide +kernel) rfl
theorem im_yX8_isPlace : Cond.instanceMethod yX8_isPlace ∈ lw_good := mgT 615 (by decide +kernel) rfl
theorem co_yX8_isPlace : Cond.code yX8_isPlace cX8_isPlace 2 (some .boolean) ∈ lw_good := mgT 616 (by decide +kernel) rfl
theorem mlL_26 : Cond.methodLink RL 26 yX8_clear ∈ lw_good := mgT 617 (by decide +kernel) rfl
theorem im_yX8_clear : Cond.instanceMethod yX8_clear ∈ lw_good := mgT 618 (by decide +kernel) rfl
theorem se_yX8_clear : Cond.selects yX8_clear.cls yX8_clear yX8_clear ∈ lw_good := mgT 619 (by decide +kernel) rfl
theorem co_yX8_clear : Cond.code yX8_clear cX8_clear 2 none ∈ lw_good := mgT 620 (by decide +kernel) rfl
theorem mlL_30 : Cond.methodLink RL 30 yX8_word ∈ lw_good := mgT 621 (by decide +kernel) rfl
theorem im_yX8_word : Cond.instanceMethod yX8_word ∈ lw_good := mgT 622 (by decide +kernel) rfl
theorem se_yX8_word : Cond.selects yX8_word.cls yX8_word yX8_word ∈ lw_good := mgT 623 (by decide +kernel) rfl
theorem co_yX8_word : Cond.code yX8_word cX8_word 3 (some .boolean) ∈ lw_good := mgT 624 (by decide +kernel) rfl
theorem mlL_34 : Cond.methodLink RL 34 yX8_watch ∈ lw_good := mgT 625 (by decide +kernel) rfl
theorem im_yX8_watch : Cond.instanceMethod yX8_watch ∈ lw_good := mgT 626 (by decide +kernel) rfl
theorem se_yX8_watch : Cond.selects yX8_watch.cls yX8_watch yX8_watch ∈ lw_good := mgT 627 (by decide +kernel) rfl
theorem co_yX8_watch : Cond.code yX8_watch cX8_watch 3 (some .boolean) ∈ lw_good := mgT 628 (by decide +kernel) rfl
theorem mlL_39 : Cond.methodLink RL 39 yX8_even ∈ lw_good := mgT 629 (by decide +kernel) rfl
theorem im_yX8_even : Cond.instanceMethod yX8_even ∈ lw_good := mgT 630 (by decide +kernel) rfl
theorem se_yX8_even : Cond.selects yX8_even.cls yX8_even yX8_even ∈ lw_good := mgT 631 (by decide +kernel) rfl
theorem co_yX8_even : Cond.code yX8_even cX8_even 3 (some .boolean) ∈ lw_good := mgT 632 (by decide +kernel) rfl
theorem mlL_43 : Cond.methodLink RL 43 yX8_price ∈ lw_good := mgT 633 (by decide +kernel) rfl
theorem im_yX8_price : Cond.instanceMethod yX8_price ∈ lw_good := mgT 634 (by decide +kernel) rfl
theorem se_yX8_price : Cond.selects yX8_price.cls yX8_price yX8_price ∈ lw_good := mgT 635 (by decide +kernel) rfl
theorem co_yX8_price : Cond.code yX8_price cX8_price 3 (some .boolean) ∈ lw_good := mgT 636 (by decide +kernel) rfl
theorem mlL_47 : Cond.methodLink RL 47 yX8_look ∈ lw_good := mgT 637 (by decide +kernel) rfl
theorem im_yX8_look : Cond.instanceMethod yX8_look ∈ lw_good := mgT 638 (by decide +kernel) rfl
theorem se_yX8_look : Cond.selects yX8_look.cls yX8_look yX8_look ∈ lw_good := mgT 639 (by decide +kernel) rfl
theorem co_yX8_look : Cond.code yX8_look cX8_look 2 (some .int) ∈ lw_good := mgT 640 (by decide +kernel) rfl
theorem mlL_52 : Cond.methodLink RL 52 yX8_run ∈ lw_good := mgT 641 (by decide +kernel) rfl
theorem im_yX8_run : Cond.instanceMethod yX8_run ∈ lw_good := mgT 642 (by decide +kernel) rfl
theorem se_yX8_run : Cond.selects yX8_run.cls yX8_run yX8_run ∈ lw_good := mgT 643 (by decide +kernel) rfl
theorem co_yX8_run : Cond.code yX8_run cX8_run 5 (some .int) ∈ lw_good := mgT 644 (by decide +kernel) rfl
theorem mlX8_108 : Cond.methodLink RX8 108 yX8_isInput ∈ lw_good := mgT 645 (by decide +kernel) rfl
theorem im_yX8_isInput : Cond.instanceMethod yX8_isInput ∈ lw_good := mgT 647 (by decide +kernel) rfl
theorem co_yX8_isInput : Cond.code yX8_isInput cX8_isInput 2 (some .boolean) ∈ lw_good := mgT 648 (by decide +kernel) rfl
theorem mlX8_91 : Cond.methodLink RX8 91 yX8_goes ∈ lw_good := mgT 649 (by decide +kernel) rfl
theorem im_yX8_goes : Cond.instanceMethod yX8_goes ∈ lw_good := mgT 651 (by decide +kernel) rfl
theorem co_yX8_goes : Cond.code yX8_goes cX8_goes 5 none ∈ lw_good := mgT 652 (by decide +kernel) rfl
theorem mlX8_83 : Cond.methodLink RX8 83 yX8_step ∈ lw_good := mgT 653 (by decide +kernel) rfl
theorem im_yX8_step : Cond.instanceMethod yX8_step ∈ lw_good := mgT 655 (by decide +kernel) rfl
theorem co_yX8_step : Cond.code yX8_step cX8_step 8 (some .int) ∈ lw_good := mgT 656 (by decide +kernel) rfl
theorem mlX8_87 : Cond.methodLink RX8 87 yX8_bits ∈ lw_good := mgT 657 (by decide +kernel) rfl
theorem im_yX8_bits : Cond.instanceMethod yX8_bits ∈ lw_good := mgT 659 (by decide +kernel) rfl
theorem co_yX8_bits : Cond.code yX8_bits cX8_bits 4 (some .int) ∈ lw_good := mgT 660 (by decide +kernel) rfl
theorem mlX8_102 : Cond.methodLink RX8 102 yX8_cost ∈ lw_good := mgT 661 (by decide +kernel) rfl
theorem im_yX8_cost : Cond.instanceMethod yX8_cost ∈ lw_good := mgT 663 (by decide +kernel) rfl
theorem co_yX8_cost : Cond.code yX8_cost cX8_cost 6 (some .int) ∈ lw_good := mgT 664 (by decide +kernel) rfl
theorem mlX8_95 : Cond.methodLink RX8 95 yX8_kindAt ∈ lw_good := mgT 665 (by decide +kernel) rfl
theorem im_yX8_kindAt : Cond.instanceMethod yX8_kindAt ∈ lw_good := mgT 667 (by decide +kernel) rfl
theorem co_yX8_kindAt : Cond.code yX8_kindAt cX8_kindAt 2 (some .int) ∈ lw_good := mgT 668 (by decide +kernel) rfl
theorem mlX8_105 : Cond.methodLink RX8 105 yX8_look_ ∈ lw_good := mgT 669 (by decide +kernel) rfl
theorem im_yX8_look_ : Cond.instanceMethod yX8_look_ ∈ lw_good := mgT 671 (by decide +kernel) rfl
theorem co_yX8_look_ : Cond.code yX8_look_ cX8_look_ 7 none ∈ lw_good := mgT 672 (by decide +kernel) rfl
theorem mlX8_98 : Cond.methodLink RX8 98 yX8_sees ∈ lw_good := mgT 673 (by decide +kernel) rfl
theorem im_yX8_sees : Cond.instanceMethod yX8_sees ∈ lw_good := mgT 675 (by decide +kernel) rfl
theorem co_yX8_sees : Cond.code yX8_sees cX8_sees 6 none ∈ lw_good := mgT 676 (by decide +kernel) rfl
theorem mlL_57 : Cond.methodLink RL 57 yX8_seen ∈ lw_good := mgT 677 (by decide +kernel) rfl
theorem im_yX8_seen : Cond.instanceMethod yX8_seen ∈ lw_good := mgT 678 (by decide +kernel) rfl
theorem se_yX8_seen : Cond.selects yX8_seen.cls yX8_seen yX8_seen ∈ lw_good := mgT 679 (by decide +kernel) rfl
theorem co_yX8_seen : Cond.code yX8_seen cX8_seen 6 (some .int) ∈ lw_good := mgT 680 (by decide +kernel) rfl
theorem mlL_61 : Cond.methodLink RL 61 yX8_classes ∈ lw_good := mgT 681 (by decide +kernel) rfl
theorem im_yX8_classes : Cond.instanceMethod yX8_classes ∈ lw_good := mgT 682 (by decide +kernel) rfl
theorem se_yX8_classes : Cond.selects yX8_classes.cls yX8_classes yX8_classes ∈ lw_good := mgT 683 (by decide +kernel) rfl
theorem co_yX8_classes : Cond.code yX8_classes cX8_classes 2 (some .int) ∈ lw_good := mgT 684 (by decide +kernel) rfl
theorem mlX8_115 : Cond.methodLink RX8 115 yX8_goAll ∈ lw_good := mgT 685 (by decide +kernel) rfl
theorem im_yX8_goAll : Cond.instanceMethod yX8_goAll ∈ lw_good := mgT 687 (by decide +kernel) rfl
theorem co_yX8_goAll : Cond.code yX8_goAll cX8_goAll 2 none ∈ lw_good := mgT 688 (by decide +kernel) rfl
theorem mlX8_118 : Cond.methodLink RX8 118 yX8_classesOf ∈ lw_good := mgT 689 (by decide +kernel) rfl
theorem im_yX8_classesOf : Cond.instanceMethod yX8_classesOf ∈ lw_good := mgT 691 (by decide +kernel) rfl
theorem co_yX8_classesOf : Cond.code yX8_classesOf cX8_classesOf 5 (some .int) ∈ lw_good := mgT 692 (by decide +kernel) rfl
theorem mlX8_111 : Cond.methodLink RX8 111 yX8_unlike ∈ lw_good := mgT 693 (by decide +kernel) rfl
theorem im_yX8_unlike : Cond.instanceMethod yX8_unlike ∈ lw_good := mgT 695 (by decide +kernel) rfl
theorem co_yX8_unlike : Cond.code yX8_unlike cX8_unlike 6 (some .int) ∈ lw_good := mgT 696 (by decide +kernel) rfl
theorem mlL_66 : Cond.methodLink RL 66 yX8_classOf ∈ lw_good := mgT 697 (by decide +kernel) rfl
theorem im_yX8_classOf : Cond.instanceMethod yX8_classOf ∈ lw_good := mgT 698 (by decide +kernel) rfl
theorem se_yX8_classOf : Cond.selects yX8_classOf.cls yX8_classOf yX8_classOf ∈ lw_good := mgT 699 (by decide +kernel) rfl
theorem co_yX8_classOf : Cond.code yX8_classOf cX8_classOf 3 (some .int) ∈ lw_good := mgT 700 (by decide +kernel) rfl
theorem mlL_71 : Cond.methodLink RL 71 yX8_most ∈ lw_good := mgT 701 (by decide +kernel) rfl
theorem im_yX8_most : Cond.instanceMethod yX8_most ∈ lw_good := mgT 702 (by decide +kernel) rfl
theorem se_yX8_most : Cond.selects yX8_most.cls yX8_most yX8_most ∈ lw_good := mgT 703 (by decide +kernel) rfl
theorem co_yX8_most : Cond.code yX8_most cX8_most 4 (some .int) ∈ lw_good := mgT 704 (by decide +kernel) rfl
theorem mlL_76 : Cond.methodLink RL 76 yX8_silent ∈ lw_good := mgT 705 (by decide +kernel) rfl
theorem im_yX8_silent : Cond.instanceMethod yX8_silent ∈ lw_good := mgT 706 (by decide +kernel) rfl
theorem se_yX8_silent : Cond.selects yX8_silent.cls yX8_silent yX8_silent ∈ lw_good := mgT 707 (by decide +kernel) rfl
theorem co_yX8_silent : Cond.code yX8_silent cX8_silent 1 (some .boolean) ∈ lw_good := mgT 708 (by decide +kernel) rfl
theorem mlX8_127 : Cond.methodLink RX8 127 yX8_isSilent ∈ lw_good := mgT 709 (by decide +kernel) rfl
theorem im_yX8_isSilent : Cond.instanceMethod yX8_isSilent ∈ lw_good := mgT 711 (by decide +kernel) rfl
theorem co_yX8_isSilent : Cond.code yX8_isSilent cX8_isSilent 4 (some .boolean) ∈ lw_good := mgT 712 (by decide +kernel) rfl
theorem mlL_80 : Cond.methodLink RL 80 yX8_pair ∈ lw_good := mgT 713 (by decide +kernel) rfl
theorem im_yX8_pair : Cond.instanceMethod yX8_pair ∈ lw_good := mgT 714 (by decide +kernel) rfl
theorem se_yX8_pair : Cond.selects yX8_pair.cls yX8_pair yX8_pair ∈ lw_good := mgT 715 (by decide +kernel) rfl
theorem co_yX8_pair : Cond.code yX8_pair cX8_pair 4 (some .int) ∈ lw_good := mgT 716 (by decide +kernel) rfl
theorem mlL_84 : Cond.methodLink RL 84 yX8_cure ∈ lw_good := mgT 717 (by decide +kernel) rfl
theorem im_yX8_cure : Cond.instanceMethod yX8_cure ∈ lw_good := mgT 718 (by decide +kernel) rfl
theorem se_yX8_cure : Cond.selects yX8_cure.cls yX8_cure yX8_cure ∈ lw_good := mgT 719 (by decide +kernel) rfl
theorem co_yX8_cure : Cond.code yX8_cure cX8_cure 6 (some .int) ∈ lw_good := mgT 720 (by decide +kernel) rfl
theorem mlX8_131 : Cond.methodLink RX8 131 yX8_priceOf ∈ lw_good := mgT 721 (by decide +kernel) rfl
theorem im_yX8_priceOf : Cond.instanceMethod yX8_priceOf ∈ lw_good := mgT 723 (by decide +kernel) rfl
theorem co_yX8_priceOf : Cond.code yX8_priceOf cX8_priceOf 4 (some .int) ∈ lw_good := mgT 724 (by decide +kernel) rfl
theorem mlX8_134 : Cond.methodLink RX8 134 yX8_ones ∈ lw_good := mgT 725 (by decide +kernel) rfl
theorem im_yX8_ones : Cond.instanceMethod yX8_ones ∈ lw_good := mgT 727 (by decide +kernel) rfl
theorem co_yX8_ones : Cond.code yX8_ones cX8_ones 4 (some .int) ∈ lw_good := mgT 728 (by decide +kernel) rfl
theorem mlL_88 : Cond.methodLink RL 88 yX8_reached ∈ lw_good := mgT 729 (by decide +kernel) rfl
theorem im_yX8_reached : Cond.instanceMethod yX8_reached ∈ lw_good := mgT 730 (by decide +kernel) rfl
theorem se_yX8_reached : Cond.selects yX8_reached.cls yX8_reached yX8_reached ∈ lw_good := mgT 731 (by decide +kernel) rfl
theorem co_yX8_reached : Cond.code yX8_reached cX8_reached 4 (some .int) ∈ lw_good := mgT 732 (by decide +kernel) rfl
theorem mlL_92 : Cond.methodLink RL 92 yX8_tellers ∈ lw_good := mgT 733 (by decide +kernel) rfl
theorem im_yX8_tellers : Cond.instanceMethod yX8_tellers ∈ lw_good := mgT 734 (by decide +kernel) rfl
theorem se_yX8_tellers : Cond.selects yX8_tellers.cls yX8_tellers yX8_tellers ∈ lw_good := mgT 735 (by decide +kernel) rfl
theorem co_yX8_tellers : Cond.code yX8_tellers cX8_tellers 4 (some .int) ∈ lw_good := mgT 736 (by decide +kernel) rfl
theorem se_yX7_forgetRuns : Cond.selects yX7_forgetRuns.cls yX7_forgetRuns yX7_forgetRuns ∈ lw_good := mgS 0 (q := (yX7_forgetRuns, 9)) (by decide +kernel) rfl
theorem se_yX7_lookInRows : Cond.selects yX7_lookInRows.cls yX7_lookInRows yX7_lookInRows ∈ lw_good := mgS 1 (q := (yX7_lookInRows, 9)) (by decide +kernel) rfl
theorem se_yX7_fillRow : Cond.selects yX7_fillRow.cls yX7_fillRow yX7_fillRow ∈ lw_good := mgS 2 (q := (yX7_fillRow, 9)) (by decide +kernel) rfl
theorem se_yX1_begin : Cond.selects yX1_begin.cls yX1_begin yX1_begin ∈ lw_good := mgS 3 (q := (yX1_begin, 3)) (by decide +kernel) rfl
theorem se_yX1_doOrder : Cond.selects yX1_doOrder.cls yX1_doOrder yX1_doOrder ∈ lw_good := mgS 4 (q := (yX1_doOrder, 3)) (by decide +kernel) rfl
theorem se_yX1_tellOf : Cond.selects yX1_tellOf.cls yX1_tellOf yX1_tellOf ∈ lw_good := mgS 5 (q := (yX1_tellOf, 3)) (by decide +kernel) rfl
theorem se_yX1_next : Cond.selects yX1_next.cls yX1_next yX1_next ∈ lw_good := mgS 6 (q := (yX1_next, 3)) (by decide +kernel) rfl
theorem se_yX1_work : Cond.selects yX1_work.cls yX1_work yX1_work ∈ lw_good := mgS 7 (q := (yX1_work, 3)) (by decide +kernel) rfl
theorem se_yX4_add : Cond.selects yX4_add.cls yX4_add yX4_add ∈ lw_good := mgS 8 (q := (yX4_add, 4)) (by decide +kernel) rfl
theorem se_yX2_classAmong : Cond.selects yX2_classAmong.cls yX2_classAmong yX2_classAmong ∈ lw_good := mgS 9 (q := (yX2_classAmong, 4)) (by decide +kernel) rfl
theorem se_yX7_firstToldOpen : Cond.selects yX7_firstToldOpen.cls yX7_firstToldOpen yX7_firstToldOpen ∈ lw_good := mgS 10 (q := (yX7_firstToldOpen, 9)) (by decide +kernel) rfl
theorem se_yX7_firstTold : Cond.selects yX7_firstTold.cls yX7_firstTold yX7_firstTold ∈ lw_good := mgS 11 (q := (yX7_firstTold, 9)) (by decide +kernel) rfl
theorem se_yX0_gatherRuns : Cond.selects yX0_gatherRuns.cls yX0_gatherRuns yX0_gatherRuns ∈ lw_good := mgS 12 (q := (yX0_gatherRuns, 5)) (by decide +kernel) rfl
theorem se_yX0_isNew : Cond.selects yX0_isNew.cls yX0_isNew yX0_isNew ∈ lw_good := mgS 13 (q := (yX0_isNew, 5)) (by decide +kernel) rfl
theorem se_yX5_costsAs : Cond.selects yX5_costsAs.cls yX5_costsAs yX5_costsAs ∈ lw_good := mgS 14 (q := (yX5_costsAs, 10)) (by decide +kernel) rfl
theorem se_yX0_sift : Cond.selects yX0_sift.cls yX0_sift yX0_sift ∈ lw_good := mgS 15 (q := (yX0_sift, 5)) (by decide +kernel) rfl
theorem se_yX0_seenAlike : Cond.selects yX0_seenAlike.cls yX0_seenAlike yX0_seenAlike ∈ lw_good := mgS 16 (q := (yX0_seenAlike, 5)) (by decide +kernel) rfl
theorem se_yX7_visitedByAll : Cond.selects yX7_visitedByAll.cls yX7_visitedByAll yX7_visitedByAll ∈ lw_good := mgS 17 (q := (yX7_visitedByAll, 9)) (by decide +kernel) rfl
theorem se_yX8_isOrder : Cond.selects yX8_isOrder.cls yX8_isOrder yX8_isOrder ∈ lw_good := mgS 18 (q := (yX8_isOrder, 23)) (by decide +kernel) rfl
theorem se_yX8_isPlace : Cond.selects yX8_isPlace.cls yX8_isPlace yX8_isPlace ∈ lw_good := mgS 19 (q := (yX8_isPlace, 23)) (by decide +kernel) rfl
theorem se_yX8_isInput : Cond.selects yX8_isInput.cls yX8_isInput yX8_isInput ∈ lw_good := mgS 20 (q := (yX8_isInput, 23)) (by decide +kernel) rfl
theorem se_yX8_goes : Cond.selects yX8_goes.cls yX8_goes yX8_goes ∈ lw_good := mgS 21 (q := (yX8_goes, 23)) (by decide +kernel) rfl
theorem se_yX8_step : Cond.selects yX8_step.cls yX8_step yX8_step ∈ lw_good := mgS 22 (q := (yX8_step, 23)) (by decide +kernel) rfl
theorem se_yX8_bits : Cond.selects yX8_bits.cls yX8_bits yX8_bits ∈ lw_good := mgS 23 (q := (yX8_bits, 23)) (by decide +kernel) rfl
theorem se_yX8_cost : Cond.selects yX8_cost.cls yX8_cost yX8_cost ∈ lw_good := mgS 24 (q := (yX8_cost, 23)) (by decide +kernel) rfl
theorem se_yX8_kindAt : Cond.selects yX8_kindAt.cls yX8_kindAt yX8_kindAt ∈ lw_good := mgS 25 (q := (yX8_kindAt, 23)) (by decide +kernel) rfl
theorem se_yX8_look_ : Cond.selects yX8_look_.cls yX8_look_ yX8_look_ ∈ lw_good := mgS 26 (q := (yX8_look_, 23)) (by decide +kernel) rfl
theorem se_yX8_sees : Cond.selects yX8_sees.cls yX8_sees yX8_sees ∈ lw_good := mgS 27 (q := (yX8_sees, 23)) (by decide +kernel) rfl
theorem se_yX8_goAll : Cond.selects yX8_goAll.cls yX8_goAll yX8_goAll ∈ lw_good := mgS 28 (q := (yX8_goAll, 23)) (by decide +kernel) rfl
theorem se_yX8_classesOf : Cond.selects yX8_classesOf.cls yX8_classesOf yX8_classesOf ∈ lw_good := mgS 29 (q := (yX8_classesOf, 23)) (by decide +kernel) rfl
theorem se_yX8_unlike : Cond.selects yX8_unlike.cls yX8_unlike yX8_unlike ∈ lw_good := mgS 30 (q := (yX8_unlike, 23)) (by decide +kernel) rfl
theorem se_yX8_isSilent : Cond.selects yX8_isSilent.cls yX8_isSilent yX8_isSilent ∈ lw_good := mgS 31 (q := (yX8_isSilent, 23)) (by decide +kernel) rfl
theorem se_yX8_priceOf : Cond.selects yX8_priceOf.cls yX8_priceOf yX8_priceOf ∈ lw_good := mgS 32 (q := (yX8_priceOf, 23)) (by decide +kernel) rfl
theorem se_yX8_ones : Cond.selects yX8_ones.cls yX8_ones yX8_ones ∈ lw_good := mgS 33 (q := (yX8_ones, 23)) (by decide +kernel) rfl
theorem mf_yX7_init : MF yX7_init cX7_init 1 none 0 := ⟨ini_X7, co_yX7_init, by decide +kernel, by decide +kernel, by decide +kernel⟩
theorem mf_yX3_init : MF yX3_init cX3_init 1 none 0 := ⟨ini_X3, co_yX3_init, by decide +kernel, by decide +kernel, by decide +kernel⟩
theorem mf_yX6_init : MF yX6_init cX6_init 1 none 0 := ⟨ini_X6, co_yX6_init, by decide +kernel, by decide +kernel, by decide +kernel⟩
theorem mf_yX1_init : MF yX1_init cX1_init 1 none 0 := ⟨ini_X1, co_yX1_init, by decide +kernel, by decide +kernel, by decide +kernel⟩
theorem mf_yX5_init : MF yX5_init cX5_init 1 none 0 := ⟨ini_X5, co_yX5_init, by decide +kernel, by decide +kernel, by decide +kernel⟩
theorem mf_yX4_init : MF yX4_init cX4_init 1 none 0 := ⟨ini_X4, co_yX4_init, by decide +kernel, by decide +kernel, by decide +kernel⟩
theorem mf_yX2_init : MF yX2_init cX2_init 2 none 0 := ⟨ini_X2, co_yX2_init, by decide +kernel, by decide +kernel, by decide +kernel⟩
theorem mf_yX0_init : MF yX0_init cX0_init 2 none 0 := ⟨ini_X0, co_yX0_init, by decide +kernel, by decide +kernel, by decide +kernel⟩
theorem mf_yX7_order : MF yX7_order cX7_order 3 (some .int) 1 := ⟨ini_X7, co_yX7_order, by decide +kernel, by decide +kernel, by decide +kernel⟩
theorem mf_yX7_isOrder : MF yX7_isOrder cX7_isOrder 1 (some .boolean) 1 := ⟨ini_X7, co_yX7_isOrder, by decide +kernel, by decide +kernel, by decide +kernel⟩
theorem mf_yX3_append : MF yX3_append cX3_append 2 (some .int) 1 := ⟨ini_X3, co_yX3_append, by decide +kernel, by decide +kernel, by decide +kernel⟩
theorem mf_yX7_forgetRuns : MF yX7_forgetRuns cX7_forgetRuns 1 none 0 := ⟨ini_X7, co_yX7_forgetRuns, by decide +kernel, by decide +kernel, by decide +kernel⟩
theorem mf_yX2_forget : MF yX2_forget cX2_forget 2 none 0 := ⟨ini_X2, co_yX2_forget, by decide +kernel, by decide +kernel, by decide +kernel⟩
theorem mf_yX0_forget : MF yX0_forget cX0_forget 1 none 0 := ⟨ini_X0, co_yX0_forget, by decide +kernel, by decide +kernel, by decide +kernel⟩
theorem mf_yX7_change : MF yX7_change cX7_change 3 (some .boolean) 2 := ⟨ini_X7, co_yX7_change, by decide +kernel, by decide +kernel, by decide +kernel⟩
theorem mf_yX3_has : MF yX3_has cX3_has 2 (some .boolean) 1 := ⟨ini_X3, co_yX3_has, by decide +kernel, by decide +kernel, by decide +kernel⟩
theorem mf_yX7_clear : MF yX7_clear cX7_clear 1 none 0 := ⟨ini_X7, co_yX7_clear, by decide +kernel, by decide +kernel, by decide +kernel⟩
theorem mf_yX3_empty : MF yX3_empty cX3_empty 1 none 0 := ⟨ini_X3, co_yX3_empty, by decide +kernel, by decide +kernel, by decide +kernel⟩
theorem mf_yX7_word : MF yX7_word cX7_word 3 (some .boolean) 2 := ⟨ini_X7, co_yX7_word, by decide +kernel, by decide +kernel, by decide +kernel⟩
theorem mf_yX7_watch : MF yX7_watch cX7_watch 3 (some .boolean) 2 := ⟨ini_X7, co_yX7_watch, by decide +kernel, by decide +kernel, by decide +kernel⟩
theorem mf_yX7_isWidth : MF yX7_isWidth cX7_isWidth 1 (some .boolean) 1 := ⟨ini_X7, co_yX7_isWidth, by decide +kernel, by decide +kernel, by decide +kernel⟩
theorem mf_yX7_even : MF yX7_even cX7_even 3 (some .boolean) 2 := ⟨ini_X7, co_yX7_even, by decide +kernel, by decide +kernel, by decide +kernel⟩
theorem mf_yX6_holdsEven : MF yX6_holdsEven cX6_holdsEven 2 (some .boolean) 1 := ⟨ini_X6, co_yX6_holdsEven, by decide +kernel, by decide +kernel, by decide +kernel⟩
theorem mf_yX7_price : MF yX7_price cX7_price 3 (some .boolean) 2 := ⟨ini_X7, co_yX7_price, by decide +kernel, by decide +kernel, by decide +kernel⟩
theorem mf_yX7_look : MF yX7_look cX7_look 2 (some .int) 1 := ⟨ini_X7, co_yX7_look, by decide +kernel, by decide +kernel, by decide +kernel⟩
theorem mf_yX7_lookInRows : MF yX7_lookInRows cX7_lookInRows 2 (some .int) 1 := ⟨ini_X7, co_yX7_lookInRows, by decide +kernel, by decide +kernel, by decide +kernel⟩
theorem mf_yX7_run : MF yX7_run cX7_run 4 (some .int) 3 := ⟨ini_X7, co_yX7_run, by decide +kernel, by decide +kernel, by decide +kernel⟩
theorem mf_yX7_isInput : MF yX7_isInput cX7_isInput 1 (some .boolean) 1 := ⟨ini_X7, co_yX7_isInput, by decide +kernel, by decide +kernel, by decide +kernel⟩
theorem mf_yX7_fillRow : MF yX7_fillRow cX7_fillRow 4 none 3 := ⟨ini_X7, co_yX7_fillRow, by decide +kernel, by decide +kernel, by decide +kernel⟩
theorem mf_yX1_go : MF yX1_go cX1_go 7 none 5 := ⟨ini_X1, co_yX1_go, by decide +kernel, by decide +kernel, by decide +kernel⟩
theorem mf_yX1_begin : MF yX1_begin cX1_begin 5 none 3 := ⟨ini_X1, co_yX1_begin, by decide +kernel, by decide +kernel, by decide +kernel⟩
theorem mf_yX5_begin : MF yX5_begin cX5_begin 2 none 0 := ⟨ini_X5, co_yX5_begin, by decide +kernel, by decide +kernel, by decide +kernel⟩
theorem mf_yX1_doOrder : MF yX1_doOrder cX1_doOrder 10 none 3 := ⟨ini_X1, co_yX1_doOrder, by decide +kernel, by decide +kernel, by decide +kernel⟩
theorem mf_yX1_bitsOf : MF yX1_bitsOf cX1_bitsOf 1 (some .int) 1 := ⟨ini_X1, co_yX1_bitsOf, by decide +kernel, by decide +kernel, by decide +kernel⟩
theorem mf_yJ6_numberOfLeadingZeros_0f7a4 : MF yJ6_numberOfLeadingZeros_0f7a4 cJ6_numberOfLeadingZeros_0f7a4 2 (some .int) 1 := ⟨ini_J6, co_yJ6_numberOfLeadingZeros_0f7a4, by decide +kernel, by decide +kernel, by decide +kernel⟩
theorem mf_yX1_tellOf : MF yX1_tellOf cX1_tellOf 7 none 5 := ⟨ini_X1, co_yX1_tellOf, by decide +kernel, by decide +kernel, by decide +kernel⟩
theorem mf_yX5_tell : MF yX5_tell cX5_tell 4 none 3 := ⟨ini_X5, co_yX5_tell, by decide +kernel, by decide +kernel, by decide +kernel⟩
theorem mf_yX1_next : MF yX1_next cX1_next 4 (some .int) 3 := ⟨ini_X1, co_yX1_next, by decide +kernel, by decide +kernel, by decide +kernel⟩
theorem mf_yX1_work : MF yX1_work cX1_work 5 none 4 := ⟨ini_X1, co_yX1_work, by decide +kernel, by decide +kernel, by decide +kernel⟩
theorem mf_yX4_fill : MF yX4_fill cX4_fill 5 none 3 := ⟨ini_X4, co_yX4_fill, by decide +kernel, by decide +kernel, by decide +kernel⟩
theorem mf_yX4_add : MF yX4_add cX4_add 4 none 3 := ⟨ini_X4, co_yX4_add, by decide +kernel, by decide +kernel, by decide +kernel⟩
theorem mf_yX5_costWith : MF yX5_costWith cX5_costWith 4 (some .int) 1 := ⟨ini_X5, co_yX5_costWith, by decide +kernel, by decide +kernel, by decide +kernel⟩
theorem mf_yX7_seen : MF yX7_seen cX7_seen 5 (some .int) 4 := ⟨ini_X7, co_yX7_seen, by decide +kernel, by decide +kernel, by decide +kernel⟩
theorem mf_yX4_has : MF yX4_has cX4_has 2 (some .boolean) 1 := ⟨ini_X4, co_yX4_has, by decide +kernel, by decide +kernel, by decide +kernel⟩
theorem mf_yX7_classes : MF yX7_classes cX7_classes 2 (some .int) 1 := ⟨ini_X7, co_yX7_classes, by decide +kernel, by decide +kernel, by decide +kernel⟩
theorem mf_yX2_learn : MF yX2_learn cX2_learn 9 none 4 := ⟨ini_X2, co_yX2_learn, by decide +kernel, by decide +kernel, by decide +kernel⟩
theorem mf_yX2_classAmong : MF yX2_classAmong cX2_classAmong 4 (some .int) 2 := ⟨ini_X2, co_yX2_classAmong, by decide +kernel, by decide +kernel, by decide +kernel⟩
theorem mf_yX4_firstOtherwise : MF yX4_firstOtherwise cX4_firstOtherwise 4 (some .int) 1 := ⟨ini_X4, co_yX4_firstOtherwise, by decide +kernel, by decide +kernel, by decide +kernel⟩
theorem mf_yJ9_min_7cf53 : MF yJ9_min_7cf53 cJ9_min_7cf53 2 (some .int) 2 := ⟨ini_J9, co_yJ9_min_7cf53, by decide +kernel, by decide +kernel, by decide +kernel⟩
theorem mf_yX7_classOf : MF yX7_classOf cX7_classOf 3 (some .int) 2 := ⟨ini_X7, co_yX7_classOf, by decide +kernel, by decide +kernel, by decide +kernel⟩
theorem mf_yX7_most : MF yX7_most cX7_most 3 (some .int) 0 := ⟨ini_X7, co_yX7_most, by decide +kernel, by decide +kernel, by decide +kernel⟩
theorem mf_yJ9_max_7cf53 : MF yJ9_max_7cf53 cJ9_max_7cf53 2 (some .int) 2 := ⟨ini_J9, co_yJ9_max_7cf53, by decide +kernel, by decide +kernel, by decide +kernel⟩
theorem mf_yX7_silent : MF yX7_silent cX7_silent 1 (some .boolean) 0 := ⟨ini_X7, co_yX7_silent, by decide +kernel, by decide +kernel, by decide +kernel⟩
theorem mf_yX7_firstToldOpen : MF yX7_firstToldOpen cX7_firstToldOpen 2 (some .int) 0 := ⟨ini_X7, co_yX7_firstToldOpen, by decide +kernel, by decide +kernel, by decide +kernel⟩
theorem mf_yX7_pair : MF yX7_pair cX7_pair 4 (some .int) 1 := ⟨ini_X7, co_yX7_pair, by decide +kernel, by decide +kernel, by decide +kernel⟩
theorem mf_yX2_firstParted : MF yX2_firstParted cX2_firstParted 3 (some .int) 1 := ⟨ini_X2, co_yX2_firstParted, by decide +kernel, by decide +kernel, by decide +kernel⟩
theorem mf_yX7_firstTold : MF yX7_firstTold cX7_firstTold 6 (some .int) 3 := ⟨ini_X7, co_yX7_firstTold, by decide +kernel, by decide +kernel, by decide +kernel⟩
theorem mf_yX7_cure : MF yX7_cure cX7_cure 3 (some .int) 1 := ⟨ini_X7, co_yX7_cure, by decide +kernel, by decide +kernel, by decide +kernel⟩
theorem mf_yX0_learn : MF yX0_learn cX0_learn 8 none 3 := ⟨ini_X0, co_yX0_learn, by decide +kernel, by decide +kernel, by decide +kernel⟩
theorem mf_yX3_placesUnder : MF yX3_placesUnder cX3_placesUnder 4 (some .int) 1 := ⟨ini_X3, co_yX3_placesUnder, by decide +kernel, by decide +kernel, by decide +kernel⟩
theorem mf_yX3_eyeOn : MF yX3_eyeOn cX3_eyeOn 1 (some .int) 1 := ⟨ini_X3, co_yX3_eyeOn, by decide +kernel, by decide +kernel, by decide +kernel⟩
theorem mf_yX0_gatherRuns : MF yX0_gatherRuns cX0_gatherRuns 7 (some .int) 4 := ⟨ini_X0, co_yX0_gatherRuns, by decide +kernel, by decide +kernel, by decide +kernel⟩
theorem mf_yX0_isNew : MF yX0_isNew cX0_isNew 4 (some .boolean) 2 := ⟨ini_X0, co_yX0_isNew, by decide +kernel, by decide +kernel, by decide +kernel⟩
theorem mf_yX5_alwaysSeenAs : MF yX5_alwaysSeenAs cX5_alwaysSeenAs 4 (some .boolean) 2 := ⟨ini_X5, co_yX5_alwaysSeenAs, by decide +kernel, by decide +kernel, by decide +kernel⟩
theorem mf_yX5_costsAs : MF yX5_costsAs cX5_costsAs 3 (some .boolean) 1 := ⟨ini_X5, co_yX5_costsAs, by decide +kernel, by decide +kernel, by decide +kernel⟩
theorem mf_yX0_sift : MF yX0_sift cX0_sift 5 none 3 := ⟨ini_X0, co_yX0_sift, by decide +kernel, by decide +kernel, by decide +kernel⟩
theorem mf_yX0_seenAlike : MF yX0_seenAlike cX0_seenAlike 5 (some .boolean) 3 := ⟨ini_X0, co_yX0_seenAlike, by decide +kernel, by decide +kernel, by decide +kernel⟩
theorem mf_yX0_cheapest : MF yX0_cheapest cX0_cheapest 5 (some .int) 1 := ⟨ini_X0, co_yX0_cheapest, by decide +kernel, by decide +kernel, by decide +kernel⟩
theorem mf_yX0_isBetter : MF yX0_isBetter cX0_isBetter 5 (some .boolean) 3 := ⟨ini_X0, co_yX0_isBetter, by decide +kernel, by decide +kernel, by decide +kernel⟩
theorem mf_yX3_priceOf : MF yX3_priceOf cX3_priceOf 4 (some .int) 1 := ⟨ini_X3, co_yX3_priceOf, by decide +kernel, by decide +kernel, by decide +kernel⟩
theorem mf_yJ6_bitCount_0f7a4 : MF yJ6_bitCount_0f7a4 cJ6_bitCount_0f7a4 1 (some .int) 1 := ⟨ini_J6, co_yJ6_bitCount_0f7a4, by decide +kernel, by decide +kernel, by decide +kernel⟩
theorem mf_yX0_howMany : MF yX0_howMany cX0_howMany 5 (some .int) 1 := ⟨ini_X0, co_yX0_howMany, by decide +kernel, by decide +kernel, by decide +kernel⟩
theorem mf_yX7_reached : MF yX7_reached cX7_reached 1 (some .int) 0 := ⟨ini_X7, co_yX7_reached, by decide +kernel, by decide +kernel, by decide +kernel⟩
theorem mf_yX7_visitedByAll : MF yX7_visitedByAll cX7_visitedByAll 4 (some .int) 0 := ⟨ini_X7, co_yX7_visitedByAll, by decide +kernel, by decide +kernel, by decide +kernel⟩
theorem mf_yX7_tellers : MF yX7_tellers cX7_tellers 4 (some .int) 0 := ⟨ini_X7, co_yX7_tellers, by decide +kernel, by decide +kernel, by decide +kernel⟩
theorem mf_yX3_allPlaces : MF yX3_allPlaces cX3_allPlaces 1 (some .int) 0 := ⟨ini_X3, co_yX3_allPlaces, by decide +kernel, by decide +kernel, by decide +kernel⟩
theorem mf_yX8_init : MF yX8_init cX8_init 1 none 0 := ⟨ini_X8, co_yX8_init, by decide +kernel, by decide +kernel, by decide +kernel⟩
theorem mf_yX8_order : MF yX8_order cX8_order 2 (some .int) 1 := ⟨ini_X8, co_yX8_order, by decide +kernel, by decide +kernel, by decide +kernel⟩
theorem mf_yX8_isOrder : MF yX8_isOrder cX8_isOrder 2 (some .boolean) 1 := ⟨ini_X8, co_yX8_isOrder, by decide +kernel, by decide +kernel, by decide +kernel⟩
theorem mf_yX8_change : MF yX8_change cX8_change 3 (some .boolean) 2 := ⟨ini_X8, co_yX8_change, by decide +kernel, by decide +kernel, by decide +kernel⟩
theorem mf_yX8_isPlace : MF yX8_isPlace cX8_isPlace 2 (some .boolean) 1 := ⟨ini_X8, co_yX8_isPlace, by decide +kernel, by decide +kernel, by decide +kernel⟩
theorem mf_yX8_clear : MF yX8_clear cX8_clear 2 none 0 := ⟨ini_X8, co_yX8_clear, by decide +kernel, by decide +kernel, by decide +kernel⟩
theorem mf_yX8_word : MF yX8_word cX8_word 3 (some .boolean) 2 := ⟨ini_X8, co_yX8_word, by decide +kernel, by decide +kernel, by decide +kernel⟩
theorem mf_yX8_watch : MF yX8_watch cX8_watch 3 (some .boolean) 2 := ⟨ini_X8, co_yX8_watch, by decide +kernel, by decide +kernel, by decide +kernel⟩
theorem mf_yX8_even : MF yX8_even cX8_even 3 (some .boolean) 2 := ⟨ini_X8, co_yX8_even, by decide +kernel, by decide +kernel, by decide +kernel⟩
theorem mf_yX8_price : MF yX8_price cX8_price 3 (some .boolean) 2 := ⟨ini_X8, co_yX8_price, by decide +kernel, by decide +kernel, by decide +kernel⟩
theorem mf_yX8_look : MF yX8_look cX8_look 2 (some .int) 1 := ⟨ini_X8, co_yX8_look, by decide +kernel, by decide +kernel, by decide +kernel⟩
theorem mf_yX8_run : MF yX8_run cX8_run 5 (some .int) 3 := ⟨ini_X8, co_yX8_run, by decide +kernel, by decide +kernel, by decide +kernel⟩
theorem mf_yX8_isInput : MF yX8_isInput cX8_isInput 2 (some .boolean) 1 := ⟨ini_X8, co_yX8_isInput, by decide +kernel, by decide +kernel, by decide +kernel⟩
theorem mf_yX8_goes : MF yX8_goes cX8_goes 5 none 1 := ⟨ini_X8, co_yX8_goes, by decide +kernel, by decide +kernel, by decide +kernel⟩
theorem mf_yX8_step : MF yX8_step cX8_step 8 (some .int) 2 := ⟨ini_X8, co_yX8_step, by decide +kernel, by decide +kernel, by decide +kernel⟩
theorem mf_yX8_bits : MF yX8_bits cX8_bits 4 (some .int) 1 := ⟨ini_X8, co_yX8_bits, by decide +kernel, by decide +kernel, by decide +kernel⟩
theorem mf_yX8_cost : MF yX8_cost cX8_cost 6 (some .int) 2 := ⟨ini_X8, co_yX8_cost, by decide +kernel, by decide +kernel, by decide +kernel⟩
theorem mf_yX8_kindAt : MF yX8_kindAt cX8_kindAt 2 (some .int) 1 := ⟨ini_X8, co_yX8_kindAt, by decide +kernel, by decide +kernel, by decide +kernel⟩
theorem mf_yX8_look_ : MF yX8_look_ cX8_look_ 7 none 4 := ⟨ini_X8, co_yX8_look_, by decide +kernel, by decide +kernel, by decide +kernel⟩
theorem mf_yX8_sees : MF yX8_sees cX8_sees 6 none 4 := ⟨ini_X8, co_yX8_sees, by decide +kernel, by decide +kernel, by decide +kernel⟩
theorem mf_yX8_seen : MF yX8_seen cX8_seen 6 (some .int) 4 := ⟨ini_X8, co_yX8_seen, by decide +kernel, by decide +kernel, by decide +kernel⟩
theorem mf_yX8_classes : MF yX8_classes cX8_classes 2 (some .int) 1 := ⟨ini_X8, co_yX8_classes, by decide +kernel, by decide +kernel, by decide +kernel⟩
theorem mf_yX8_goAll : MF yX8_goAll cX8_goAll 2 none 0 := ⟨ini_X8, co_yX8_goAll, by decide +kernel, by decide +kernel, by decide +kernel⟩
theorem mf_yX8_classesOf : MF yX8_classesOf cX8_classesOf 5 (some .int) 1 := ⟨ini_X8, co_yX8_classesOf, by decide +kernel, by decide +kernel, by decide +kernel⟩
theorem mf_yX8_unlike : MF yX8_unlike cX8_unlike 6 (some .int) 4 := ⟨ini_X8, co_yX8_unlike, by decide +kernel, by decide +kernel, by decide +kernel⟩
theorem mf_yX8_classOf : MF yX8_classOf cX8_classOf 3 (some .int) 2 := ⟨ini_X8, co_yX8_classOf, by decide +kernel, by decide +kernel, by decide +kernel⟩
theorem mf_yX8_most : MF yX8_most cX8_most 4 (some .int) 0 := ⟨ini_X8, co_yX8_most, by decide +kernel, by decide +kernel, by decide +kernel⟩
theorem mf_yX8_silent : MF yX8_silent cX8_silent 1 (some .boolean) 0 := ⟨ini_X8, co_yX8_silent, by decide +kernel, by decide +kernel, by decide +kernel⟩
theorem mf_yX8_isSilent : MF yX8_isSilent cX8_isSilent 4 (some .boolean) 2 := ⟨ini_X8, co_yX8_isSilent, by decide +kernel, by decide +kernel, by decide +kernel⟩
theorem mf_yX8_pair : MF yX8_pair cX8_pair 4 (some .int) 1 := ⟨ini_X8, co_yX8_pair, by decide +kernel, by decide +kernel, by decide +kernel⟩
theorem mf_yX8_cure : MF yX8_cure cX8_cure 6 (some .int) 1 := ⟨ini_X8, co_yX8_cure, by decide +kernel, by decide +kernel, by decide +kernel⟩
theorem mf_yX8_priceOf : MF yX8_priceOf cX8_priceOf 4 (some .int) 1 := ⟨ini_X8, co_yX8_priceOf, by decide +kernel, by decide +kernel, by decide +kernel⟩
theorem mf_yX8_ones : MF yX8_ones cX8_ones 4 (some .int) 1 := ⟨ini_X8, co_yX8_ones, by decide +kernel, by decide +kernel, by decide +kernel⟩
theorem mf_yX8_reached : MF yX8_reached cX8_reached 4 (some .int) 0 := ⟨ini_X8, co_yX8_reached, by decide +kernel, by decide +kernel, by decide +kernel⟩
theorem mf_yX8_tellers : MF yX8_tellers cX8_tellers 4 (some .int) 0 := ⟨ini_X8, co_yX8_tellers, by decide +kernel, by decide +kernel, by decide +kernel⟩
set_option maxRecDepth 20000 in
theorem wk0 : ∀ w ∈ u_ws RX0 TX0 5, w ∈ lw_good := fun w hw => mg ((show ∀ w ∈ u_ws RX0 TX0 5, w ∈ lw_tbl by decide +kernel) w hw) ((show ∀ w ∈ u_ws RX0 TX0 5, goodWord w = true by decide +kernel) w hw)
theorem ck0 : CK 0 RX0 TX0 5 tyX0 := ⟨rfl, wk0, tyX0_ok, nmX0⟩
set_option maxRecDepth 20000 in
theorem wk1 : ∀ w ∈ u_ws RX1 TX1 3, w ∈ lw_good := fun w hw => mg ((show ∀ w ∈ u_ws RX1 TX1 3, w ∈ lw_tbl by decide +kernel) w hw) ((show ∀ w ∈ u_ws RX1 TX1 3, goodWord w = true by decide +kernel) w hw)
theorem ck1 : CK 1 RX1 TX1 3 tyX1 := ⟨rfl, wk1, tyX1_ok, nmX1⟩
set_option maxRecDepth 20000 in
theorem wk2 : ∀ w ∈ u_ws RX2 TX2 4, w ∈ lw_good := fun w hw => mg ((show ∀ w ∈ u_ws RX2 TX2 4, w ∈ lw_tbl by decide +kernel) w hw) ((show ∀ w ∈ u_ws RX2 TX2 4, goodWord w = true by decide +kernel) w hw)
theorem ck2 : CK 2 RX2 TX2 4 tyX2 := ⟨rfl, wk2, tyX2_ok, nmX2⟩
set_option maxRecDepth 20000 in
theorem wk3 : ∀ w ∈ u_ws RX3 TX3 4, w ∈ lw_good := fun w hw => mg ((show ∀ w ∈ u_ws RX3 TX3 4, w ∈ lw_tbl by decide +kernel) w hw) ((show ∀ w ∈ u_ws RX3 TX3 4, goodWord w = true by decide +kernel) w hw)
theorem ck3 : CK 3 RX3 TX3 4 tyX3 := ⟨rfl, wk3, tyX3_ok, nmX3⟩
set_option maxRecDepth 20000 in
theorem wk4 : ∀ w ∈ u_ws RX4 TX4 4, w ∈ lw_good := fun w hw => mg ((show ∀ w ∈ u_ws RX4 TX4 4, w ∈ lw_tbl by decide +kernel) w hw) ((show ∀ w ∈ u_ws RX4 TX4 4, goodWord w = true by decide +kernel) w hw)
theorem ck4 : CK 4 RX4 TX4 4 tyX4 := ⟨rfl, wk4, tyX4_ok, nmX4⟩
set_option maxRecDepth 20000 in
theorem wk5 : ∀ w ∈ u_ws RX5 TX5 10, w ∈ lw_good := fun w hw => mg ((show ∀ w ∈ u_ws RX5 TX5 10, w ∈ lw_tbl by decide +kernel) w hw) ((show ∀ w ∈ u_ws RX5 TX5 10, goodWord w = true by decide +kernel) w hw)
theorem ck5 : CK 5 RX5 TX5 10 tyX5 := ⟨rfl, wk5, tyX5_ok, nmX5⟩
set_option maxRecDepth 20000 in
theorem wk6 : ∀ w ∈ u_ws RX6 TX6 3, w ∈ lw_good := fun w hw => mg ((show ∀ w ∈ u_ws RX6 TX6 3, w ∈ lw_tbl by decide +kernel) w hw) ((show ∀ w ∈ u_ws RX6 TX6 3, goodWord w = true by decide +kernel) w hw)
theorem ck6 : CK 6 RX6 TX6 3 tyX6 := ⟨rfl, wk6, tyX6_ok, nmX6⟩
set_option maxRecDepth 20000 in
theorem wk7 : ∀ w ∈ u_ws RX7 TX7 9, w ∈ lw_good := fun w hw => mg ((show ∀ w ∈ u_ws RX7 TX7 9, w ∈ lw_tbl by decide +kernel) w hw) ((show ∀ w ∈ u_ws RX7 TX7 9, goodWord w = true by decide +kernel) w hw)
theorem ck7 : CK 7 RX7 TX7 9 tyX7 := ⟨rfl, wk7, tyX7_ok, nmX7⟩
set_option maxRecDepth 20000 in
theorem wk8 : ∀ w ∈ u_ws RX8 TX8 23, w ∈ lw_good := fun w hw => mg ((show ∀ w ∈ u_ws RX8 TX8 23, w ∈ lw_tbl by decide +kernel) w hw) ((show ∀ w ∈ u_ws RX8 TX8 23, goodWord w = true by decide +kernel) w hw)
theorem ck8 : CK 8 RX8 TX8 23 tyX8 := ⟨rfl, wk8, tyX8_ok, nmX8⟩
end
section
/-! the objects as they lie: an object's arrays follow it -/
theorem fit_z {v : Int32} (h : v = 0 ∨ v = 1) : fits .boolean (.int v) = true := by
  rcases h with h | h <;> subst h <;> rfl
section TP
variable {p : Program} {l : Launch} {e : Env} {R : Room} {s : State} {m : MethodId} {args : Array Value} {below : List Frame} {meth : Method} {c : Code} {H : Heap} {locs : List Loc} {cells slots : Nat} {Q : State → Prop} {pc : Nat} {ls : Array Slot} {rest : List Value}
theorem r_top {x y : Int32} (h : x = y) (k : W p l e R s m args below meth c H locs cells slots Q (F0 m pc ls (.int y :: rest))) : W p l e R s m args below meth c H locs cells slots Q (F0 m pc ls (.int x :: rest)) := h ▸ k
end TP
def isProg (t : Gx) (B : Nat) (g : Nat → va_E) (i : Nat) (o pr w : Nat → Int32) (n : Nat) : Prop := g i = .inr (3, [.ref (B + (i + 1)), .ref (B + (i + 2)), .ref (B + (i + 3)), .int (nI n)]) ∧ g (i + 1) = .inl (t.1, 8, .inl o) ∧ g (i + 2) = .inl (t.1, 8, .inl pr) ∧ g (i + 3) = .inl (t.1, 8, .inl w)
def isWat (g : Nat → va_E) (i : Nat) (ey wi ev : Int32) : Prop := g i = .inr (6, [.int ey, .int wi, .int ev])
def isMach (t : Gx) (B : Nat) (g : Nat → va_E) (i : Nat) (rg mm : Nat → Int32) (pt : Int32) : Prop := g i = .inr (1, [.ref (B + (i + 1)), .ref (B + (i + 2)), .int pt]) ∧ g (i + 1) = .inl (t.1, 4, .inl rg) ∧ g (i + 2) = .inl (t.1, 8, .inl mm)
/-- a run: the events' places, kinds, numbers; the costs; how many events; steps, places come to, answer, spent -/
def isRun (t : Gx) (B : Nat) (g : Nat → va_E) (i : Nat) (ep ew en ct ec : Nat → Int32) (len : Nat) (st vi an sp : Int32) : Prop := g i = .inr (5, [.ref (B + (i + 1)), .ref (B + (i + 2)), .ref (B + (i + 3)), .ref (B + (i + 4)), .ref (B + (i + 5)), .int (nI len), .int st, .int vi, .int an, .int sp]) ∧ g (i + 1) = .inl (t.1, 40, .inl ep) ∧ g (i + 2) = .inl (t.1, 40, .inl ew) ∧ g (i + 3) = .inl (t.1, 40, .inl en) ∧ g (i + 4) = .inl (t.1, 8, .inl ct) ∧ g (i + 5) = .inl (t.1, 8, .inl ec)
def isRow (t : Gx) (B : Nat) (g : Nat → va_E) (i : Nat) (ep ew en : Nat → Int32) (len : Nat) : Prop := g i = .inr (4, [.ref (B + (i + 1)), .ref (B + (i + 2)), .ref (B + (i + 3)), .int (nI len)]) ∧ g (i + 1) = .inl (t.1, 42, .inl ep) ∧ g (i + 2) = .inl (t.1, 42, .inl ew) ∧ g (i + 3) = .inl (t.1, 42, .inl en)
theorem isProg.keep {t : Gx} {B : Nat} {g g' : Nat → va_E} {i : Nat} {o pr w : Nat → Int32} {n : Nat} (h : isProg t B g i o pr w n) (k : ∀ j, i ≤ j → j ≤ i + 3 → g' j = g j) : isProg t B g' i o pr w n := ⟨(k _ (by omega) (by omega)).trans h.1, (k _ (by omega) (by omega)).trans h.2.1, (k _ (by omega) (by omega)).trans h.2.2.1, (k _ (by omega) (by omega)).trans h.2.2.2⟩
theorem isMach.keep {t : Gx} {B : Nat} {g g' : Nat → va_E} {i : Nat} {rg mm : Nat → Int32} {pt : Int32} (h : isMach t B g i rg mm pt) (k : ∀ j, i ≤ j → j ≤ i + 2 → g' j = g j) : isMach t B g' i rg mm pt := ⟨(k _ (by omega) (by omega)).trans h.1, (k _ (by omega) (by omega)).trans h.2.1, (k _ (by omega) (by omega)).trans h.2.2⟩
theorem isRun.keep {t : Gx} {B : Nat} {g g' : Nat → va_E} {i : Nat} {ep ew en ct ec : Nat → Int32} {len : Nat} {st vi an sp : Int32} (h : isRun t B g i ep ew en ct ec len st vi an sp) (k : ∀ j, i ≤ j → j ≤ i + 5 → g' j = g j) : isRun t B g' i ep ew en ct ec len st vi an sp := ⟨(k _ (by omega) (by omega)).trans h.1, (k _ (by omega) (by omega)).trans h.2.1, (k _ (by omega) (by omega)).trans h.2.2.1, (k _ (by omega) (by omega)).trans h.2.2.2.1, (k _ (by omega) (by omega)).trans h.2.2.2.2.1, (k _ (by omega) (by omega)).trans h.2.2.2.2.2⟩
theorem isRow.keep {t : Gx} {B : Nat} {g g' : Nat → va_E} {i : Nat} {ep ew en : Nat → Int32} {len : Nat} (h : isRow t B g i ep ew en len) (k : ∀ j, i ≤ j → j ≤ i + 3 → g' j = g j) : isRow t B g' i ep ew en len := ⟨(k _ (by omega) (by omega)).trans h.1, (k _ (by omega) (by omega)).trans h.2.1, (k _ (by omega) (by omega)).trans h.2.2.1, (k _ (by omega) (by omega)).trans h.2.2.2⟩
theorem isWat.keep {g g' : Nat → va_E} {i : Nat} {ey wi ev : Int32} (h : isWat g i ey wi ev) (k : g' i = g i) : isWat g' i ey wi ev := k.trans h
end
section
noncomputable def bz (c : Prop) : Int32 := @ite _ c (Classical.propDecidable c) 1 0
theorem bz_t {c : Prop} (h : c) : bz c = 1 := if_pos h
theorem bz_f {c : Prop} (h : ¬ c) : bz c = 0 := if_neg h
theorem bz_01 (c : Prop) : bz c = 0 ∨ bz c = 1 := (Classical.em c).elim (fun h => Or.inr (bz_t h)) (fun h => Or.inl (bz_f h))
theorem bz_iff {c : Prop} : bz c = 1 ↔ c := ⟨fun h => Classical.byContradiction fun q => by rw [bz_f q] at h; exact absurd h (by decide), bz_t⟩
theorem bz_0 {c : Prop} : bz c = 0 ↔ ¬ c := ⟨fun h q => by rw [bz_t q] at h; exact absurd h (by decide), bz_f⟩
theorem bz_congr {a b : Prop} (h : a ↔ b) : bz a = bz b := by rw [propext h]
abbrev inP (n : Nat) (x : Int32) : Prop := ¬ x < 0 ∧ ¬ nI n ≤ x
/-- the price of the places of x below k -/
def prcOf (pr : Nat → Int32) (x : Int32) : Nat → Int32
  | 0 => 0
  | k + 1 => if ((x >>> (nI k &&& 31)) &&& 1) = 0 then prcOf pr x k else prcOf pr x k + pr k
def eyeOnF (x : Int32) : Int32 := if x = 4 then 1 else if x = 5 then 2 else if x = 6 then 2 else if x = 7 then 4 else 0
/-- the places below k whose order matters to the eyes x -/
def undF (o : Nat → Int32) (x : Int32) : Nat → Int32
  | 0 => 0
  | k + 1 => if (eyeOnF (o k >>> (12 &&& 31)) &&& x) = 0 then undF o x k else undF o x k ||| (1 <<< (nI k &&& 31))
theorem i32_ne {x k : Int32} (h : ¬ x = k) : x.toInt ≠ k.toInt := fun q => h (Int32.toInt_inj.mp q)
theorem sw_out4 {x : Int32} (h1 : ¬ x = 4) (h2 : ¬ x = 5) (h3 : ¬ x = 6) (h4 : ¬ x = 7) : x.toInt < 4 ∨ 7 < x.toInt := by
  have a1 := i32_ne h1
  have a2 := i32_ne h2
  have a3 := i32_ne h3
  have a4 := i32_ne h4
  have b1 : (4 : Int32).toInt = 4 := by decide
  have b2 : (5 : Int32).toInt = 5 := by decide
  have b3 : (6 : Int32).toInt = 6 := by decide
  have b4 : (7 : Int32).toInt = 7 := by decide
  omega
set_option maxHeartbeats 4000000 in
set_option maxRecDepth 100000 in
/-- Program.has -/
theorem c_X3_has (l : Launch) (D : va_G) (t : Gx) (B N : Nat) (g : Nat → va_E) (i : Nat) (o pr w : Nat → Int32) (n : Nat) (x : Int32) (hi : i + 3 < N) (hP : isProg t B g i o pr w n) : Ci l D t B N yX3_has cX3_has 2 (some .boolean) 0 0 g [.ref (B + i), .int x] (fun r g' => g = g' ∧ r = bz (inP n x)) := by
  refine Ci.start (by decide) (Nat.le_of_ble_eq_true rfl) ?_
  intro p e s m below meth c ls C hr hlocks hS hl
  replace C : Cx D t p s m [.ref (B + i), .int x].toArray c cX3_has 2 RX3 := C
  replace hl : lv_has ls 2 [(0, .ref (B + i)), (1, .int x)] := hl
  obtain ⟨e0, e1, e2, e3⟩ := hP
  refine lv_iload_n C.x C.b dX3_has_0 rfl (lv_at hl 1 rfl) ?_
  refine lv_if_lt (tgt := 16) C.x C.b dX3_has_1 (by decide) (fun c_1 => ?_) (fun c_1 => ?_)
  · skip
    refine lv_iconst (v := 0) C.x C.b dX3_has_16 (by decide) ?_
    exact r_zret C hr hlocks hS (by decide) ⟨rfl, (bz_f (fun q => q.1 c_1)).symm⟩ dX3_has_17
  · skip
    refine lv_iload_n C.x C.b dX3_has_4 rfl (lv_at hl 1 rfl) ?_
    refine lv_aload_n C.x C.b dX3_has_5 rfl (lv_at hl 0 rfl) ?_
    refine r_get ck3 flX3_21 C hS (by omega) e0 (by decide) rfl dX3_has_6 ?_
    refine lv_icmp_ge (tgt := 16) C.x C.b dX3_has_9 (by decide) (fun c_2 => ?_) (fun c_2 => ?_)
    · skip
      refine lv_iconst (v := 0) C.x C.b dX3_has_16 (by decide) ?_
      exact r_zret C hr hlocks hS (by decide) ⟨rfl, (bz_f (fun q => q.2 c_2)).symm⟩ dX3_has_17
    · skip
      refine lv_iconst (v := 1) C.x C.b dX3_has_12 (by decide) ?_
      refine lv_goto (tgt := 17) C.x C.b dX3_has_13 (by decide) ?_
      exact r_zret C hr hlocks hS (by decide) ⟨rfl, (bz_t ⟨c_1, c_2⟩).symm⟩ dX3_has_17
set_option maxHeartbeats 4000000 in
set_option maxRecDepth 100000 in
/-- Program.append, where it fits -/
theorem c_X3_append (l : Launch) (D : va_G) (t : Gx) (B N : Nat) (g : Nat → va_E) (i : Nat) (o pr w : Nat → Int32) (n : Nat) (x : Int32) (hi : i + 3 < N) (hP : isProg t B g i o pr w n) (hn : n < 8) : Ci l D t B N yX3_append cX3_append 2 (some .int) 0 0 g [.ref (B + i), .int x] (fun r g' => r = nI n ∧ isProg t B g' i (upd o n x) (upd pr n 1) w (n + 1) ∧ ∀ j, (j < i ∨ i + 3 < j) → g' j = g j) := by
  refine Ci.start (by decide) (Nat.le_of_ble_eq_true rfl) ?_
  intro p e s m below meth c ls C hr hlocks hS hl
  replace C : Cx D t p s m [.ref (B + i), .int x].toArray c cX3_append 2 RX3 := C
  replace hl : lv_has ls 2 [(0, .ref (B + i)), (1, .int x)] := hl
  obtain ⟨e0, e1, e2, e3⟩ := hP
  refine lv_aload_n C.x C.b dX3_append_0 rfl (lv_at hl 0 rfl) ?_
  refine r_get ck3 flX3_21 C hS (by omega) e0 (by decide) rfl dX3_append_1 ?_
  refine lv_bipush (v := 8) C.x C.b dX3_append_4 (by decide) ?_
  refine lv_icmp_lt (tgt := 11) C.x C.b dX3_append_6 (by decide) (fun c_1 => ?_) (fun c_1 => absurd (nI_lt hn (by decide)) c_1)
  refine lv_aload_n C.x C.b dX3_append_11 rfl (lv_at hl 0 rfl) ?_
  refine r_get ck3 flX3_9 C hS (by omega) e0 (by decide) rfl dX3_append_12 ?_
  refine lv_aload_n C.x C.b dX3_append_15 rfl (lv_at hl 0 rfl) ?_
  refine r_get ck3 flX3_21 C hS (by omega) e0 (by decide) rfl dX3_append_16 ?_
  refine lv_iload_n C.x C.b dX3_append_19 rfl (lv_at hl 1 rfl) ?_
  refine r_iastN n rfl (by omega) (by decide) C hS (by omega) e1 dX3_append_20 (fun g_2 H locs e_3 o_4 hS => ?_)
  replace e_3 : g_2 (i + 1) = .inl (t.1, 8, .inl (upd o n x)) := e_3
  refine lv_aload_n C.x C.b dX3_append_21 rfl (lv_at hl 0 rfl) ?_
  have e_5 : g_2 i = .inr (3, [.ref (B + (i + 1)), .ref (B + (i + 2)), .ref (B + (i + 3)), .int (nI n)]) := (o_4 _ (by omega)).trans e0
  refine r_get ck3 flX3_15 C hS (by omega) e_5 (by decide) rfl dX3_append_22 ?_
  refine lv_aload_n C.x C.b dX3_append_25 rfl (lv_at hl 0 rfl) ?_
  refine r_get ck3 flX3_21 C hS (by omega) e_5 (by decide) rfl dX3_append_26 ?_
  refine lv_iconst (v := 1) C.x C.b dX3_append_29 (by decide) ?_
  have e_6 : g_2 (i + 2) = .inl (t.1, 8, .inl pr) := (o_4 _ (by omega)).trans e2
  refine r_iastN n rfl (by omega) (by decide) C hS (by omega) e_6 dX3_append_30 (fun g_7 H locs e_8 o_9 hS => ?_)
  replace e_8 : g_7 (i + 2) = .inl (t.1, 8, .inl (upd pr n 1)) := e_8
  refine lv_aload_n C.x C.b dX3_append_31 rfl (lv_at hl 0 rfl) ?_
  refine lv_dup C.x C.b dX3_append_32 rfl ?_
  have e_10 : g_7 i = .inr (3, [.ref (B + (i + 1)), .ref (B + (i + 2)), .ref (B + (i + 3)), .int (nI n)]) := (o_9 _ (by omega)).trans e_5
  refine r_get ck3 flX3_21 C hS (by omega) e_10 (by decide) rfl dX3_append_33 ?_
  refine lv_iconst (v := 1) C.x C.b dX3_append_36 (by decide) ?_
  refine lv_iadd C.x C.b dX3_append_37 ?_
  refine r_top (y := nI (n + 1)) (nI_1 n) ?_
  refine r_put ck3 flX3_21 C hS (by omega) e_10 (by decide) rfl rfl rfl (Nat.le_of_ble_eq_true rfl) dX3_append_38 (fun g_11 H locs e_12 o_13 hS => ?_)
  replace e_12 : g_11 i = .inr (3, [.ref (B + (i + 1)), .ref (B + (i + 2)), .ref (B + (i + 3)), .int (nI (n + 1))]) := e_12
  refine lv_aload_n C.x C.b dX3_append_41 rfl (lv_at hl 0 rfl) ?_
  refine r_get ck3 flX3_21 C hS (by omega) e_12 (by decide) rfl dX3_append_42 ?_
  refine lv_iconst (v := 1) C.x C.b dX3_append_45 (by decide) ?_
  refine lv_isub C.x C.b dX3_append_46 ?_
  refine r_top (y := nI n) (nI_pred n) ?_
  have e_14 : g_7 (i + 1) = .inl (t.1, 8, .inl (upd o n x)) := (o_9 _ (by omega)).trans e_3
  have e_15 : g_11 (i + 1) = .inl (t.1, 8, .inl (upd o n x)) := (o_13 _ (by omega)).trans e_14
  have e_16 : g_11 (i + 2) = .inl (t.1, 8, .inl (upd pr n 1)) := (o_13 _ (by omega)).trans e_8
  have e_17 : g_2 (i + 3) = .inl (t.1, 8, .inl w) := (o_4 _ (by omega)).trans e3
  have e_18 : g_7 (i + 3) = .inl (t.1, 8, .inl w) := (o_9 _ (by omega)).trans e_17
  have e_19 : g_11 (i + 3) = .inl (t.1, 8, .inl w) := (o_13 _ (by omega)).trans e_18
  exact r_iret C hr hlocks hS ⟨rfl, ⟨e_12, e_15, e_16, e_19⟩, fun j hj => (o_13 j (by omega)).trans ((o_9 j (by omega)).trans (o_4 j (by omega)))⟩ dX3_append_47
set_option maxHeartbeats 4000000 in
set_option maxRecDepth 100000 in
theorem c_X3_empty (l : Launch) (D : va_G) (t : Gx) (B N : Nat) (g : Nat → va_E) (i : Nat) (o pr w : Nat → Int32) (n : Nat) (hi : i + 3 < N) (hP : isProg t B g i o pr w n) : Cv l D t B N N 0 0 yX3_empty cX3_empty 1 0 0 g [.ref (B + i)] (fun g' => isProg t B g' i o pr w 0 ∧ ∀ j, j ≠ i → g' j = g j) := by
  refine Cv.start (by decide) (Nat.le_of_ble_eq_true rfl) ?_
  intro p e s m below meth c ls C hr hlocks hnm hS hl
  replace C : Cx D t p s m [.ref (B + i)].toArray c cX3_empty 1 RX3 := C
  replace hl : lv_has ls 1 [(0, .ref (B + i))] := hl
  obtain ⟨e0, e1, e2, e3⟩ := hP
  refine lv_aload_n C.x C.b dX3_empty_0 rfl (lv_at hl 0 rfl) ?_
  refine lv_iconst (v := 0) C.x C.b dX3_empty_1 (by decide) ?_
  refine r_put ck3 flX3_21 C hS (by omega) e0 (by decide) rfl rfl rfl (Nat.le_of_ble_eq_true rfl) dX3_empty_2 (fun g_1 H locs e_2 o_3 hS => ?_)
  replace e_2 : g_1 i = .inr (3, [.ref (B + (i + 1)), .ref (B + (i + 2)), .ref (B + (i + 3)), .int 0]) := e_2
  have e_4 : g_1 (i + 1) = .inl (t.1, 8, .inl o) := (o_3 _ (by omega)).trans e1
  have e_5 : g_1 (i + 2) = .inl (t.1, 8, .inl pr) := (o_3 _ (by omega)).trans e2
  have e_6 : g_1 (i + 3) = .inl (t.1, 8, .inl w) := (o_3 _ (by omega)).trans e3
  exact r_vret C hr hlocks hS ⟨⟨e_2, e_4, e_5, e_6⟩, fun j hj => (o_3 j (by omega))⟩ dX3_empty_5
set_option maxHeartbeats 4000000 in
set_option maxRecDepth 100000 in
theorem c_X3_allPlaces (l : Launch) (D : va_G) (t : Gx) (B N : Nat) (g : Nat → va_E) (i : Nat) (o pr w : Nat → Int32) (n : Nat) (hi : i + 3 < N) (hP : isProg t B g i o pr w n) : Ci l D t B N yX3_allPlaces cX3_allPlaces 1 (some .int) 0 0 g [.ref (B + i)] (fun r g' => g = g' ∧ r = (1 <<< (nI n &&& 31)) - 1) := by
  refine Ci.start (by decide) (Nat.le_of_ble_eq_true rfl) ?_
  intro p e s m below meth c ls C hr hlocks hS hl
  replace C : Cx D t p s m [.ref (B + i)].toArray c cX3_allPlaces 1 RX3 := C
  replace hl : lv_has ls 1 [(0, .ref (B + i))] := hl
  obtain ⟨e0, e1, e2, e3⟩ := hP
  refine lv_iconst (v := 1) C.x C.b dX3_allPlaces_0 (by decide) ?_
  refine lv_aload_n C.x C.b dX3_allPlaces_1 rfl (lv_at hl 0 rfl) ?_
  refine r_get ck3 flX3_21 C hS (by omega) e0 (by decide) rfl dX3_allPlaces_2 ?_
  refine lv_ishl C.x C.b dX3_allPlaces_5 ?_
  refine lv_iconst (v := 1) C.x C.b dX3_allPlaces_6 (by decide) ?_
  refine lv_isub C.x C.b dX3_allPlaces_7 ?_
  exact r_iret C hr hlocks hS ⟨rfl, rfl⟩ dX3_allPlaces_8
set_option maxHeartbeats 4000000 in
set_option maxRecDepth 100000 in
/-- Program.priceOf -/
theorem c_X3_priceOf (l : Launch) (D : va_G) (t : Gx) (B N : Nat) (g : Nat → va_E) (i : Nat) (o pr w : Nat → Int32) (n : Nat) (x : Int32) (hi : i + 3 < N) (hP : isProg t B g i o pr w n) (hn : n ≤ 8) : Ci l D t B N yX3_priceOf cX3_priceOf 4 (some .int) 0 0 g [.ref (B + i), .int x] (fun r g' => g = g' ∧ r = prcOf pr x n) := by
  refine Ci.start (by decide) (Nat.le_of_ble_eq_true rfl) ?_
  intro p e s m below meth c ls C hr hlocks hS hl
  replace C : Cx D t p s m [.ref (B + i), .int x].toArray c cX3_priceOf 4 RX3 := C
  replace hl : lv_has ls 4 [(0, .ref (B + i)), (1, .int x)] := hl
  obtain ⟨e0, e1, e2, e3⟩ := hP
  refine lv_iconst (v := 0) C.x C.b dX3_priceOf_0 (by decide) ?_
  refine lv_istore_n (lv' := [(2, .int 0), (0, .ref (B + i)), (1, .int x)]) C.x C.b dX3_priceOf_1 rfl hl (by decide) rfl (fun ls hl => ?_)
  refine lv_iconst (v := 0) C.x C.b dX3_priceOf_2 (by decide) ?_
  refine lv_istore_n (lv' := [(3, .int 0), (2, .int 0), (0, .ref (B + i)), (1, .int x)]) C.x C.b dX3_priceOf_3 rfl hl (by decide) rfl (fun ls hl => ?_)
  have lp_1 : ∀ (u_2 k_3 : Nat) (H : Heap) (locs : List Loc) (ls : Array Slot), k_3 + u_2 = n → St D B s.heap N g H locs → lv_has ls 4 [(0, .ref (B + i)), (1, .int x), (2, .int (prcOf pr x k_3)), (3, .int (nI k_3))] → W p l e (rmOf 0 0 0 0) s m [.ref (B + i), .int x].toArray below meth c H locs 0 0 (MQ below (qI D B N (fun r g' => g = g' ∧ r = prcOf pr x n)) [.ref (B + i), .int x].toArray s 0 0 (fun q => B ≤ q)) (F0 m 4 ls []) := by
    intro u_2
    induction u_2 with
    | zero =>
      intro k_3 H locs ls hk_4 hS hl
      obtain rfl : n = k_3 := by omega
      refine lv_iload_n C.x C.b dX3_priceOf_4 rfl (lv_at hl 3 rfl) ?_
      refine lv_aload_n C.x C.b dX3_priceOf_5 rfl (lv_at hl 0 rfl) ?_
      refine r_get ck3 flX3_21 C hS (by omega) e0 (by decide) rfl dX3_priceOf_6 ?_
      refine lv_icmp_ge (tgt := 35) C.x C.b dX3_priceOf_9 (by decide) (fun c_7 => ?_) (fun c_7 => absurd (nI_le (Nat.le_refl _) (by omega)) c_7)
      refine lv_iload_n C.x C.b dX3_priceOf_35 rfl (lv_at hl 2 rfl) ?_
      exact r_iret C hr hlocks hS ⟨rfl, rfl⟩ dX3_priceOf_36
    | succ u_2 ih_5 =>
      intro k_3 H locs ls hk_4 hS hl
      refine lv_iload_n C.x C.b dX3_priceOf_4 rfl (lv_at hl 3 rfl) ?_
      refine lv_aload_n C.x C.b dX3_priceOf_5 rfl (lv_at hl 0 rfl) ?_
      refine r_get ck3 flX3_21 C hS (by omega) e0 (by decide) rfl dX3_priceOf_6 ?_
      refine lv_icmp_ge (tgt := 35) C.x C.b dX3_priceOf_9 (by decide) (fun c_8 => absurd c_8 (nI_ge (a := k_3) (b := n) (by omega) (by omega))) (fun c_8 => ?_)
      refine lv_iload_n C.x C.b dX3_priceOf_12 rfl (lv_at hl 1 rfl) ?_
      refine lv_iload_n C.x C.b dX3_priceOf_13 rfl (lv_at hl 3 rfl) ?_
      refine lv_ishr C.x C.b dX3_priceOf_14 ?_
      refine lv_iconst (v := 1) C.x C.b dX3_priceOf_15 (by decide) ?_
      refine lv_iand C.x C.b dX3_priceOf_16 ?_
      refine lv_if_eq (tgt := 29) C.x C.b dX3_priceOf_17 (by decide) (fun c_9 => ?_) (fun c_9 => ?_)
      · skip
        refine lv_iinc (v := nI (k_3 + 1)) (lv' := [(3, .int (nI (k_3 + 1))), (0, .ref (B + i)), (1, .int x), (2, .int (prcOf pr x k_3))]) C.x C.b dX3_priceOf_29 hl (k := 3) rfl (nI_1 k_3) (by decide) rfl (fun ls hl => ?_)
        refine lv_goto (tgt := 4) C.x C.b dX3_priceOf_32 (by decide) ?_
        have z_10 : prcOf pr x (k_3 + 1) = prcOf pr x k_3 := by simp only [prcOf, c_9, not_true_eq_false, not_false_eq_true, and_true, true_and, and_false, false_and, and_self, or_true, or_false, true_or, false_or, ite_true, ite_false, if_true, if_false, ↓reduceIte, reduceCtorEq]
        exact ih_5 (k_3 + 1) _ _ _ (by omega)  hS (by rw [z_10]; exact lv_sub hl [1, 2, 3, 0] rfl)
      · skip
        refine lv_iload_n C.x C.b dX3_priceOf_20 rfl (lv_at hl 2 rfl) ?_
        refine lv_aload_n C.x C.b dX3_priceOf_21 rfl (lv_at hl 0 rfl) ?_
        refine r_get ck3 flX3_15 C hS (by omega) e0 (by decide) rfl dX3_priceOf_22 ?_
        refine lv_iload_n C.x C.b dX3_priceOf_25 rfl (lv_at hl 3 rfl) ?_
        refine r_ialdN k_3 rfl (by omega) (by decide) C hS (by omega) e2 dX3_priceOf_26 ?_
        refine lv_iadd C.x C.b dX3_priceOf_27 ?_
        refine lv_istore_n (lv' := [(2, .int ((prcOf pr x k_3) + (pr k_3))), (0, .ref (B + i)), (1, .int x), (3, .int (nI k_3))]) C.x C.b dX3_priceOf_28 rfl hl (by decide) rfl (fun ls hl => ?_)
        refine lv_iinc (v := nI (k_3 + 1)) (lv' := [(3, .int (nI (k_3 + 1))), (2, .int ((prcOf pr x k_3) + (pr k_3))), (0, .ref (B + i)), (1, .int x)]) C.x C.b dX3_priceOf_29 hl (k := 3) rfl (nI_1 k_3) (by decide) rfl (fun ls hl => ?_)
        refine lv_goto (tgt := 4) C.x C.b dX3_priceOf_32 (by decide) ?_
        have z_11 : prcOf pr x (k_3 + 1) = ((prcOf pr x k_3) + (pr k_3)) := by simp only [prcOf, c_9, not_true_eq_false, not_false_eq_true, and_true, true_and, and_false, false_and, and_self, or_true, or_false, true_or, false_or, ite_true, ite_false, if_true, if_false, ↓reduceIte, reduceCtorEq]
        exact ih_5 (k_3 + 1) _ _ _ (by omega)  hS (by rw [z_11]; exact lv_sub hl [2, 3, 1, 0] rfl)
  exact lp_1 n 0 _ _ _ (by omega)  hS (lv_sub hl [2, 3, 1, 0] rfl)
set_option maxHeartbeats 4000000 in
set_option maxRecDepth 100000 in
/-- Program.eyeOn -/
theorem c_X3_eyeOn (l : Launch) (D : va_G) (t : Gx) (B N : Nat) (g : Nat → va_E) (x : Int32)  : Ci l D t B N yX3_eyeOn cX3_eyeOn 1 (some .int) 0 0 g [.int x] (fun r g' => g = g' ∧ r = eyeOnF x) := by
  refine Ci.start (by decide) (Nat.le_of_ble_eq_true rfl) ?_
  intro p e s m below meth c ls C hr hlocks hS hl
  replace C : Cx D t p s m [.int x].toArray c cX3_eyeOn 1 RX3 := C
  replace hl : lv_has ls 1 [(0, .int x)] := hl
  refine lv_iload_n C.x C.b dX3_eyeOn_0 rfl (lv_at hl 0 rfl) ?_
  by_cases h_1 : x = 4
  · subst h_1
    refine lv_tableIn (tgt := 32) C.x C.b dX3_eyeOn_1 (by decide) (by decide) rfl (by decide) ?_
    refine lv_iconst (v := 1) C.x C.b dX3_eyeOn_32 (by decide) ?_
    exact r_iret C hr hlocks hS ⟨rfl, rfl⟩ dX3_eyeOn_33
  by_cases h_2 : x = 5
  · subst h_2
    refine lv_tableIn (tgt := 34) C.x C.b dX3_eyeOn_1 (by decide) (by decide) rfl (by decide) ?_
    refine lv_iconst (v := 2) C.x C.b dX3_eyeOn_34 (by decide) ?_
    exact r_iret C hr hlocks hS ⟨rfl, rfl⟩ dX3_eyeOn_35
  by_cases h_3 : x = 6
  · subst h_3
    refine lv_tableIn (tgt := 34) C.x C.b dX3_eyeOn_1 (by decide) (by decide) rfl (by decide) ?_
    refine lv_iconst (v := 2) C.x C.b dX3_eyeOn_34 (by decide) ?_
    exact r_iret C hr hlocks hS ⟨rfl, rfl⟩ dX3_eyeOn_35
  by_cases h_4 : x = 7
  · subst h_4
    refine lv_tableIn (tgt := 36) C.x C.b dX3_eyeOn_1 (by decide) (by decide) rfl (by decide) ?_
    refine lv_iconst (v := 4) C.x C.b dX3_eyeOn_36 (by decide) ?_
    exact r_iret C hr hlocks hS ⟨rfl, rfl⟩ dX3_eyeOn_37
  refine lv_tableOut (tgt := 38) C.x C.b dX3_eyeOn_1 (sw_out4 h_1 h_2 h_3 h_4) (by decide) ?_
  refine lv_iconst (v := 0) C.x C.b dX3_eyeOn_38 (by decide) ?_
  exact r_iret C hr hlocks hS ⟨rfl, by simp only [eyeOnF, h_1, h_2, h_3, h_4, not_true_eq_false, not_false_eq_true, and_true, true_and, and_false, false_and, and_self, or_true, or_false, true_or, false_or, ite_true, ite_false, if_true, if_false, ↓reduceIte, reduceCtorEq]⟩ dX3_eyeOn_39
set_option maxHeartbeats 4000000 in
set_option maxRecDepth 100000 in
/-- Program.placesUnder -/
theorem c_X3_placesUnder (l : Launch) (D : va_G) (t : Gx) (B N : Nat) (g : Nat → va_E) (i : Nat) (o pr w : Nat → Int32) (n : Nat) (x : Int32) (hi : i + 3 < N) (hP : isProg t B g i o pr w n) (hn : n ≤ 8) : Ci l D t B N yX3_placesUnder cX3_placesUnder 4 (some .int) 1 20 g [.ref (B + i), .int x] (fun r g' => g = g' ∧ r = undF o x n) := by
  refine Ci.start (by decide) (Nat.le_of_ble_eq_true rfl) ?_
  intro p e s m below meth c ls C hr hlocks hS hl
  replace C : Cx D t p s m [.ref (B + i), .int x].toArray c cX3_placesUnder 4 RX3 := C
  replace hl : lv_has ls 4 [(0, .ref (B + i)), (1, .int x)] := hl
  obtain ⟨e0, e1, e2, e3⟩ := hP
  refine lv_iconst (v := 0) C.x C.b dX3_placesUnder_0 (by decide) ?_
  refine lv_istore_n (lv' := [(2, .int 0), (0, .ref (B + i)), (1, .int x)]) C.x C.b dX3_placesUnder_1 rfl hl (by decide) rfl (fun ls hl => ?_)
  refine lv_iconst (v := 0) C.x C.b dX3_placesUnder_2 (by decide) ?_
  refine lv_istore_n (lv' := [(3, .int 0), (2, .int 0), (0, .ref (B + i)), (1, .int x)]) C.x C.b dX3_placesUnder_3 rfl hl (by decide) rfl (fun ls hl => ?_)
  have lp_1 : ∀ (u_2 k_3 : Nat) (H : Heap) (locs : List Loc) (ls : Array Slot), k_3 + u_2 = n → St D B s.heap N g H locs → lv_has ls 4 [(0, .ref (B + i)), (1, .int x), (2, .int (undF o x k_3)), (3, .int (nI k_3))] → W p l e (rmOf 1 20 0 0) s m [.ref (B + i), .int x].toArray below meth c H locs 0 0 (MQ below (qI D B N (fun r g' => g = g' ∧ r = undF o x n)) [.ref (B + i), .int x].toArray s 0 0 (fun q => B ≤ q)) (F0 m 4 ls []) := by
    intro u_2
    induction u_2 with
    | zero =>
      intro k_3 H locs ls hk_4 hS hl
      obtain rfl : n = k_3 := by omega
      refine lv_iload_n C.x C.b dX3_placesUnder_4 rfl (lv_at hl 3 rfl) ?_
      refine lv_aload_n C.x C.b dX3_placesUnder_5 rfl (lv_at hl 0 rfl) ?_
      refine r_get ck3 flX3_21 C hS (by omega) e0 (by decide) rfl dX3_placesUnder_6 ?_
      refine lv_icmp_ge (tgt := 41) C.x C.b dX3_placesUnder_9 (by decide) (fun c_7 => ?_) (fun c_7 => absurd (nI_le (Nat.le_refl _) (by omega)) c_7)
      refine lv_iload_n C.x C.b dX3_placesUnder_41 rfl (lv_at hl 2 rfl) ?_
      exact r_iret C hr hlocks hS ⟨rfl, rfl⟩ dX3_placesUnder_42
    | succ u_2 ih_5 =>
      intro k_3 H locs ls hk_4 hS hl
      refine lv_iload_n C.x C.b dX3_placesUnder_4 rfl (lv_at hl 3 rfl) ?_
      refine lv_aload_n C.x C.b dX3_placesUnder_5 rfl (lv_at hl 0 rfl) ?_
      refine r_get ck3 flX3_21 C hS (by omega) e0 (by decide) rfl dX3_placesUnder_6 ?_
      refine lv_icmp_ge (tgt := 41) C.x C.b dX3_placesUnder_9 (by decide) (fun c_8 => absurd c_8 (nI_ge (a := k_3) (b := n) (by omega) (by omega))) (fun c_8 => ?_)
      refine lv_aload_n C.x C.b dX3_placesUnder_12 rfl (lv_at hl 0 rfl) ?_
      refine r_get ck3 flX3_9 C hS (by omega) e0 (by decide) rfl dX3_placesUnder_13 ?_
      refine lv_iload_n C.x C.b dX3_placesUnder_16 rfl (lv_at hl 3 rfl) ?_
      refine r_ialdN k_3 rfl (by omega) (by decide) C hS (by omega) e1 dX3_placesUnder_17 ?_
      refine lv_bipush (v := 12) C.x C.b dX3_placesUnder_18 (by decide) ?_
      refine lv_ishr C.x C.b dX3_placesUnder_20 ?_
      refine r_callS (As := [.int ((o k_3) >>> (12 &&& 31))]) (rest := []) (c_X3_eyeOn l D t B N g ((o k_3) >>> (12 &&& 31))) mf_yX3_eyeOn mlX3_25 sm_yX3_eyeOn (by decide) C hS rfl hl.1 rfl (Nat.le_of_ble_eq_true rfl) dX3_placesUnder_21 ⟨Nat.zero_le _, Nat.zero_le _⟩ (fun r_11 g_9 H locs w_10 hS => ?_)
      obtain ⟨rfl, er_11⟩ := w_10
      subst er_11
      refine lv_iload_n C.x C.b dX3_placesUnder_24 rfl (lv_at hl 1 rfl) ?_
      refine lv_iand C.x C.b dX3_placesUnder_25 ?_
      refine lv_if_eq (tgt := 35) C.x C.b dX3_placesUnder_26 (by decide) (fun c_12 => ?_) (fun c_12 => ?_)
      · skip
        refine lv_iinc (v := nI (k_3 + 1)) (lv' := [(3, .int (nI (k_3 + 1))), (0, .ref (B + i)), (1, .int x), (2, .int (undF o x k_3))]) C.x C.b dX3_placesUnder_35 hl (k := 3) rfl (nI_1 k_3) (by decide) rfl (fun ls hl => ?_)
        refine lv_goto (tgt := 4) C.x C.b dX3_placesUnder_38 (by decide) ?_
        have z_13 : undF o x (k_3 + 1) = undF o x k_3 := by simp only [undF, c_12, not_true_eq_false, not_false_eq_true, and_true, true_and, and_false, false_and, and_self, or_true, or_false, true_or, false_or, ite_true, ite_false, if_true, if_false, ↓reduceIte, reduceCtorEq]
        exact ih_5 (k_3 + 1) _ _ _ (by omega)  hS (by rw [z_13]; exact lv_sub hl [1, 2, 3, 0] rfl)
      · skip
        refine lv_iload_n C.x C.b dX3_placesUnder_29 rfl (lv_at hl 2 rfl) ?_
        refine lv_iconst (v := 1) C.x C.b dX3_placesUnder_30 (by decide) ?_
        refine lv_iload_n C.x C.b dX3_placesUnder_31 rfl (lv_at hl 3 rfl) ?_
        refine lv_ishl C.x C.b dX3_placesUnder_32 ?_
        refine lv_ior C.x C.b dX3_placesUnder_33 ?_
        refine lv_istore_n (lv' := [(2, .int ((undF o x k_3) ||| (1 <<< ((nI k_3) &&& 31)))), (0, .ref (B + i)), (1, .int x), (3, .int (nI k_3))]) C.x C.b dX3_placesUnder_34 rfl hl (by decide) rfl (fun ls hl => ?_)
        refine lv_iinc (v := nI (k_3 + 1)) (lv' := [(3, .int (nI (k_3 + 1))), (2, .int ((undF o x k_3) ||| (1 <<< ((nI k_3) &&& 31)))), (0, .ref (B + i)), (1, .int x)]) C.x C.b dX3_placesUnder_35 hl (k := 3) rfl (nI_1 k_3) (by decide) rfl (fun ls hl => ?_)
        refine lv_goto (tgt := 4) C.x C.b dX3_placesUnder_38 (by decide) ?_
        have z_14 : undF o x (k_3 + 1) = ((undF o x k_3) ||| (1 <<< ((nI k_3) &&& 31))) := by simp only [undF, c_12, not_true_eq_false, not_false_eq_true, and_true, true_and, and_false, false_and, and_self, or_true, or_false, true_or, false_or, ite_true, ite_false, if_true, if_false, ↓reduceIte, reduceCtorEq]
        exact ih_5 (k_3 + 1) _ _ _ (by omega)  hS (by rw [z_14]; exact lv_sub hl [2, 3, 1, 0] rfl)
  exact lp_1 n 0 _ _ _ (by omega)  hS (lv_sub hl [2, 3, 1, 0] rfl)
end
section
def zf (f : Nat → Int32) : Nat → Nat → Int32
  | 0 => f
  | k + 1 => upd (zf f k) k 0
/-- the cost of a run, the places of x even, below k -/
def cwF (ct ec : Nat → Int32) (x : Int32) : Nat → Int32
  | 0 => 0
  | k + 1 => cwF ct ec x k + if ((x >>> (nI k &&& 31)) &&& 1) = 0 then ct k else ec k
abbrev alike (x : Int32) (ep ew en ct ec : Nat → Int32) (len : Nat) (sp : Int32) (ep2 ew2 en2 ct2 ec2 : Nat → Int32) (len2 : Nat) (sp2 : Int32) : Prop := (¬ (x &&& 1) = 0 → (sp = sp2 ∧ ∀ q, q < 8 → ct q = ct2 q ∧ ec q = ec2 q)) ∧ len = len2 ∧ ∀ q, q < len → ep q = ep2 q ∧ ew q = ew2 q ∧ en q = en2 q
set_option maxHeartbeats 4000000 in
set_option maxRecDepth 100000 in
theorem c_X6_holdsEven (l : Launch) (D : va_G) (t : Gx) (B N : Nat) (g : Nat → va_E) (i : Nat) (ey wi ev x : Int32) (hi : i < N) (hW : isWat g i ey wi ev) : Ci l D t B N yX6_holdsEven cX6_holdsEven 2 (some .boolean) 0 0 g [.ref (B + i), .int x] (fun r g' => g = g' ∧ r = if ((ev >>> (x &&& 31)) &&& 1) = 0 then 0 else 1) := by
  refine Ci.start (by decide) (Nat.le_of_ble_eq_true rfl) ?_
  intro p e s m below meth c ls C hr hlocks hS hl
  replace C : Cx D t p s m [.ref (B + i), .int x].toArray c cX6_holdsEven 2 RX6 := C
  replace hl : lv_has ls 2 [(0, .ref (B + i)), (1, .int x)] := hl
  refine lv_aload_n C.x C.b dX6_holdsEven_0 rfl (lv_at hl 0 rfl) ?_
  refine r_get ck6 flX6_18 C hS (by omega) hW (by decide) rfl dX6_holdsEven_1 ?_
  refine lv_iload_n C.x C.b dX6_holdsEven_4 rfl (lv_at hl 1 rfl) ?_
  refine lv_ishr C.x C.b dX6_holdsEven_5 ?_
  refine lv_iconst (v := 1) C.x C.b dX6_holdsEven_6 (by decide) ?_
  refine lv_iand C.x C.b dX6_holdsEven_7 ?_
  refine lv_if_eq (tgt := 15) C.x C.b dX6_holdsEven_8 (by decide) (fun c_1 => ?_) (fun c_1 => ?_)
  · skip
    refine lv_iconst (v := 0) C.x C.b dX6_holdsEven_15 (by decide) ?_
    exact r_zret C hr hlocks hS (by decide) ⟨rfl, by simp only [c_1, not_true_eq_false, not_false_eq_true, and_true, true_and, and_false, false_and, and_self, or_true, or_false, true_or, false_or, ite_true, ite_false, if_true, if_false, ↓reduceIte, reduceCtorEq]⟩ dX6_holdsEven_16
  · skip
    refine lv_iconst (v := 1) C.x C.b dX6_holdsEven_11 (by decide) ?_
    refine lv_goto (tgt := 16) C.x C.b dX6_holdsEven_12 (by decide) ?_
    exact r_zret C hr hlocks hS (by decide) ⟨rfl, by simp only [c_1, not_true_eq_false, not_false_eq_true, and_true, true_and, and_false, false_and, and_self, or_true, or_false, true_or, false_or, ite_true, ite_false, if_true, if_false, ↓reduceIte, reduceCtorEq]⟩ dX6_holdsEven_16
set_option maxHeartbeats 4000000 in
set_option maxRecDepth 100000 in
/-- Run.begin -/
theorem c_X5_begin (l : Launch) (D : va_G) (t : Gx) (B N : Nat) (g : Nat → va_E) (i : Nat) (ep ew en ct ec : Nat → Int32) (len : Nat) (st vi an sp : Int32) (hi : i + 5 < N) (hR : isRun t B g i ep ew en ct ec len st vi an sp) : Cv l D t B N N 0 0 yX5_begin cX5_begin 2 0 0 g [.ref (B + i)] (fun g' => isRun t B g' i ep ew en (zf ct 8) (zf ec 8) 0 0 0 an sp ∧ ∀ j, (j < i ∨ i + 5 < j) → g' j = g j) := by
  refine Cv.start (by decide) (Nat.le_of_ble_eq_true rfl) ?_
  intro p e s m below meth c ls C hr hlocks hnm hS hl
  replace C : Cx D t p s m [.ref (B + i)].toArray c cX5_begin 2 RX5 := C
  replace hl : lv_has ls 2 [(0, .ref (B + i))] := hl
  obtain ⟨e0, e1, e2, e3, e4, e5⟩ := hR
  refine lv_aload_n C.x C.b dX5_begin_0 rfl (lv_at hl 0 rfl) ?_
  refine lv_iconst (v := 0) C.x C.b dX5_begin_1 (by decide) ?_
  refine r_put ck5 flX5_27 C hS (by omega) e0 (by decide) rfl rfl rfl (Nat.le_of_ble_eq_true rfl) dX5_begin_2 (fun g_1 H locs e_2 o_3 hS => ?_)
  replace e_2 : g_1 i = .inr (5, [.ref (B + (i + 1)), .ref (B + (i + 2)), .ref (B + (i + 3)), .ref (B + (i + 4)), .ref (B + (i + 5)), .int 0, .int st, .int vi, .int an, .int sp]) := e_2
  refine lv_aload_n C.x C.b dX5_begin_5 rfl (lv_at hl 0 rfl) ?_
  refine lv_iconst (v := 0) C.x C.b dX5_begin_6 (by decide) ?_
  refine r_put ck5 flX5_31 C hS (by omega) e_2 (by decide) rfl rfl rfl (Nat.le_of_ble_eq_true rfl) dX5_begin_7 (fun g_4 H locs e_5 o_6 hS => ?_)
  replace e_5 : g_4 i = .inr (5, [.ref (B + (i + 1)), .ref (B + (i + 2)), .ref (B + (i + 3)), .ref (B + (i + 4)), .ref (B + (i + 5)), .int 0, .int 0, .int vi, .int an, .int sp]) := e_5
  refine lv_aload_n C.x C.b dX5_begin_10 rfl (lv_at hl 0 rfl) ?_
  refine lv_iconst (v := 0) C.x C.b dX5_begin_11 (by decide) ?_
  refine r_put ck5 flX5_34 C hS (by omega) e_5 (by decide) rfl rfl rfl (Nat.le_of_ble_eq_true rfl) dX5_begin_12 (fun g_7 H locs e_8 o_9 hS => ?_)
  replace e_8 : g_7 i = .inr (5, [.ref (B + (i + 1)), .ref (B + (i + 2)), .ref (B + (i + 3)), .ref (B + (i + 4)), .ref (B + (i + 5)), .int 0, .int 0, .int 0, .int an, .int sp]) := e_8
  refine lv_iconst (v := 0) C.x C.b dX5_begin_15 (by decide) ?_
  refine lv_istore_n (lv' := [(1, .int 0), (0, .ref (B + i))]) C.x C.b dX5_begin_16 rfl hl (by decide) rfl (fun ls hl => ?_)
  have lp_10 : ∀ (u_11 k_12 : Nat) (g_16 : Nat → va_E) (H : Heap) (locs : List Loc) (ls : Array Slot), k_12 + u_11 = 8 → (g_16 (i + 4) = .inl (t.1, 8, .inl (zf ct k_12))) → (g_16 (i + 5) = .inl (t.1, 8, .inl (zf ec k_12))) → (∀ j, (j ≠ i + 4 ∧ j ≠ i + 5) → g_16 j = g_7 j) → St D B s.heap N g_16 H locs → lv_has ls 2 [(0, .ref (B + i)), (1, .int (nI k_12))] → W p l e (rmOf 0 0 0 0) s m [.ref (B + i)].toArray below meth c H locs 0 0 (MQ below (qV D B N (fun g' => isRun t B g' i ep ew en (zf ct 8) (zf ec 8) 0 0 0 an sp ∧ ∀ j, (j < i ∨ i + 5 < j) → g' j = g j)) [.ref (B + i)].toArray s 0 0 (fun q => B ≤ q)) (F0 m 17 ls []) := by
    intro u_11
    induction u_11 with
    | zero =>
      intro k_12 g_16 H locs ls hk_13 e_17 e_18 hf_15 hS hl
      obtain rfl : 8 = k_12 := by omega
      refine lv_iload_n C.x C.b dX5_begin_17 rfl (lv_at hl 1 rfl) ?_
      refine lv_bipush (v := 8) C.x C.b dX5_begin_18 (by decide) ?_
      refine lv_icmp_ge (tgt := 43) C.x C.b dX5_begin_20 (by decide) (fun c_19 => ?_) (fun c_19 => absurd (by decide) c_19)
      have e_20 : g_16 i = .inr (5, [.ref (B + (i + 1)), .ref (B + (i + 2)), .ref (B + (i + 3)), .ref (B + (i + 4)), .ref (B + (i + 5)), .int 0, .int 0, .int 0, .int an, .int sp]) := (hf_15 _ (by omega)).trans e_8
      have e_21 : g_1 (i + 1) = .inl (t.1, 40, .inl ep) := (o_3 _ (by omega)).trans e1
      have e_22 : g_4 (i + 1) = .inl (t.1, 40, .inl ep) := (o_6 _ (by omega)).trans e_21
      have e_23 : g_7 (i + 1) = .inl (t.1, 40, .inl ep) := (o_9 _ (by omega)).trans e_22
      have e_24 : g_16 (i + 1) = .inl (t.1, 40, .inl ep) := (hf_15 _ (by omega)).trans e_23
      have e_25 : g_1 (i + 2) = .inl (t.1, 40, .inl ew) := (o_3 _ (by omega)).trans e2
      have e_26 : g_4 (i + 2) = .inl (t.1, 40, .inl ew) := (o_6 _ (by omega)).trans e_25
      have e_27 : g_7 (i + 2) = .inl (t.1, 40, .inl ew) := (o_9 _ (by omega)).trans e_26
      have e_28 : g_16 (i + 2) = .inl (t.1, 40, .inl ew) := (hf_15 _ (by omega)).trans e_27
      have e_29 : g_1 (i + 3) = .inl (t.1, 40, .inl en) := (o_3 _ (by omega)).trans e3
      have e_30 : g_4 (i + 3) = .inl (t.1, 40, .inl en) := (o_6 _ (by omega)).trans e_29
      have e_31 : g_7 (i + 3) = .inl (t.1, 40, .inl en) := (o_9 _ (by omega)).trans e_30
      have e_32 : g_16 (i + 3) = .inl (t.1, 40, .inl en) := (hf_15 _ (by omega)).trans e_31
      exact r_vret C hr hlocks hS ⟨⟨e_20, e_24, e_28, e_32, e_17, e_18⟩, fun j hj => (hf_15 j (by omega)).trans ((o_9 j (by omega)).trans ((o_6 j (by omega)).trans (o_3 j (by omega))))⟩ dX5_begin_43
    | succ u_11 ih_14 =>
      intro k_12 g_16 H locs ls hk_13 e_17 e_18 hf_15 hS hl
      refine lv_iload_n C.x C.b dX5_begin_17 rfl (lv_at hl 1 rfl) ?_
      refine lv_bipush (v := 8) C.x C.b dX5_begin_18 (by decide) ?_
      refine lv_icmp_ge (tgt := 43) C.x C.b dX5_begin_20 (by decide) (fun c_33 => absurd c_33 (nI_ge (a := k_12) (b := 8) (by omega) (by decide))) (fun c_33 => ?_)
      refine lv_aload_n C.x C.b dX5_begin_23 rfl (lv_at hl 0 rfl) ?_
      have e_34 : g_16 i = .inr (5, [.ref (B + (i + 1)), .ref (B + (i + 2)), .ref (B + (i + 3)), .ref (B + (i + 4)), .ref (B + (i + 5)), .int 0, .int 0, .int 0, .int an, .int sp]) := (hf_15 _ (by omega)).trans e_8
      refine r_get ck5 flX5_21 C hS (by omega) e_34 (by decide) rfl dX5_begin_24 ?_
      refine lv_iload_n C.x C.b dX5_begin_27 rfl (lv_at hl 1 rfl) ?_
      refine lv_iconst (v := 0) C.x C.b dX5_begin_28 (by decide) ?_
      refine r_iastN k_12 rfl (by omega) (by decide) C hS (by omega) e_17 dX5_begin_29 (fun g_35 H locs e_36 o_37 hS => ?_)
      replace e_36 : g_35 (i + 4) = .inl (t.1, 8, .inl (upd (zf ct k_12) k_12 0)) := e_36
      refine lv_aload_n C.x C.b dX5_begin_30 rfl (lv_at hl 0 rfl) ?_
      have e_38 : g_35 i = .inr (5, [.ref (B + (i + 1)), .ref (B + (i + 2)), .ref (B + (i + 3)), .ref (B + (i + 4)), .ref (B + (i + 5)), .int 0, .int 0, .int 0, .int an, .int sp]) := (o_37 _ (by omega)).trans e_34
      refine r_get ck5 flX5_24 C hS (by omega) e_38 (by decide) rfl dX5_begin_31 ?_
      refine lv_iload_n C.x C.b dX5_begin_34 rfl (lv_at hl 1 rfl) ?_
      refine lv_iconst (v := 0) C.x C.b dX5_begin_35 (by decide) ?_
      have e_39 : g_35 (i + 5) = .inl (t.1, 8, .inl (zf ec k_12)) := (o_37 _ (by omega)).trans e_18
      refine r_iastN k_12 rfl (by omega) (by decide) C hS (by omega) e_39 dX5_begin_36 (fun g_40 H locs e_41 o_42 hS => ?_)
      replace e_41 : g_40 (i + 5) = .inl (t.1, 8, .inl (upd (zf ec k_12) k_12 0)) := e_41
      refine lv_iinc (v := nI (k_12 + 1)) (lv' := [(1, .int (nI (k_12 + 1))), (0, .ref (B + i))]) C.x C.b dX5_begin_37 hl (k := 1) rfl (nI_1 k_12) (by decide) rfl (fun ls hl => ?_)
      refine lv_goto (tgt := 17) C.x C.b dX5_begin_40 (by decide) ?_
      have e_43 : g_40 (i + 4) = .inl (t.1, 8, .inl (upd (zf ct k_12) k_12 0)) := (o_42 _ (by omega)).trans e_36
      exact ih_14 (k_12 + 1) g_40 _ _ _ (by omega) e_43 e_41 (fun j hj => (o_42 j (by omega)).trans ((o_37 j (by omega)).trans (hf_15 j hj))) hS (lv_sub hl [1, 0] rfl)
  have e_44 : g_1 (i + 4) = .inl (t.1, 8, .inl ct) := (o_3 _ (by omega)).trans e4
  have e_45 : g_4 (i + 4) = .inl (t.1, 8, .inl ct) := (o_6 _ (by omega)).trans e_44
  have e_46 : g_7 (i + 4) = .inl (t.1, 8, .inl ct) := (o_9 _ (by omega)).trans e_45
  have e_47 : g_1 (i + 5) = .inl (t.1, 8, .inl ec) := (o_3 _ (by omega)).trans e5
  have e_48 : g_4 (i + 5) = .inl (t.1, 8, .inl ec) := (o_6 _ (by omega)).trans e_47
  have e_49 : g_7 (i + 5) = .inl (t.1, 8, .inl ec) := (o_9 _ (by omega)).trans e_48
  exact lp_10 8 0 g_7 _ _ _ (by omega) e_46 e_49 (fun _ _ => rfl) hS (lv_sub hl [1, 0] rfl)
set_option maxHeartbeats 4000000 in
set_option maxRecDepth 100000 in
/-- Run.tell, where there is room -/
theorem c_X5_tell (l : Launch) (D : va_G) (t : Gx) (B N : Nat) (g : Nat → va_E) (i : Nat) (ep ew en ct ec : Nat → Int32) (len : Nat) (st vi an sp : Int32) (x y z : Int32) (hi : i + 5 < N) (hR : isRun t B g i ep ew en ct ec len st vi an sp) (hn : len < 40) : Cv l D t B N N 0 0 yX5_tell cX5_tell 4 0 0 g [.ref (B + i), .int x, .int y, .int z] (fun g' => isRun t B g' i (upd ep len x) (upd ew len y) (upd en len z) ct ec (len + 1) st vi an sp ∧ ∀ j, (j < i ∨ i + 5 < j) → g' j = g j) := by
  refine Cv.start (by decide) (Nat.le_of_ble_eq_true rfl) ?_
  intro p e s m below meth c ls C hr hlocks hnm hS hl
  replace C : Cx D t p s m [.ref (B + i), .int x, .int y, .int z].toArray c cX5_tell 4 RX5 := C
  replace hl : lv_has ls 4 [(0, .ref (B + i)), (1, .int x), (2, .int y), (3, .int z)] := hl
  obtain ⟨e0, e1, e2, e3, e4, e5⟩ := hR
  refine lv_aload_n C.x C.b dX5_tell_0 rfl (lv_at hl 0 rfl) ?_
  refine r_get ck5 flX5_27 C hS (by omega) e0 (by decide) rfl dX5_tell_1 ?_
  refine lv_bipush (v := 40) C.x C.b dX5_tell_4 (by decide) ?_
  refine lv_icmp_lt (tgt := 10) C.x C.b dX5_tell_6 (by decide) (fun c_1 => ?_) (fun c_1 => absurd (nI_lt hn (by decide)) c_1)
  refine lv_aload_n C.x C.b dX5_tell_10 rfl (lv_at hl 0 rfl) ?_
  refine r_get ck5 flX5_9 C hS (by omega) e0 (by decide) rfl dX5_tell_11 ?_
  refine lv_aload_n C.x C.b dX5_tell_14 rfl (lv_at hl 0 rfl) ?_
  refine r_get ck5 flX5_27 C hS (by omega) e0 (by decide) rfl dX5_tell_15 ?_
  refine lv_iload_n C.x C.b dX5_tell_18 rfl (lv_at hl 1 rfl) ?_
  refine r_iastN len rfl (by omega) (by decide) C hS (by omega) e1 dX5_tell_19 (fun g_2 H locs e_3 o_4 hS => ?_)
  replace e_3 : g_2 (i + 1) = .inl (t.1, 40, .inl (upd ep len x)) := e_3
  refine lv_aload_n C.x C.b dX5_tell_20 rfl (lv_at hl 0 rfl) ?_
  have e_5 : g_2 i = .inr (5, [.ref (B + (i + 1)), .ref (B + (i + 2)), .ref (B + (i + 3)), .ref (B + (i + 4)), .ref (B + (i + 5)), .int (nI len), .int st, .int vi, .int an, .int sp]) := (o_4 _ (by omega)).trans e0
  refine r_get ck5 flX5_15 C hS (by omega) e_5 (by decide) rfl dX5_tell_21 ?_
  refine lv_aload_n C.x C.b dX5_tell_24 rfl (lv_at hl 0 rfl) ?_
  refine r_get ck5 flX5_27 C hS (by omega) e_5 (by decide) rfl dX5_tell_25 ?_
  refine lv_iload_n C.x C.b dX5_tell_28 rfl (lv_at hl 2 rfl) ?_
  have e_6 : g_2 (i + 2) = .inl (t.1, 40, .inl ew) := (o_4 _ (by omega)).trans e2
  refine r_iastN len rfl (by omega) (by decide) C hS (by omega) e_6 dX5_tell_29 (fun g_7 H locs e_8 o_9 hS => ?_)
  replace e_8 : g_7 (i + 2) = .inl (t.1, 40, .inl (upd ew len y)) := e_8
  refine lv_aload_n C.x C.b dX5_tell_30 rfl (lv_at hl 0 rfl) ?_
  have e_10 : g_7 i = .inr (5, [.ref (B + (i + 1)), .ref (B + (i + 2)), .ref (B + (i + 3)), .ref (B + (i + 4)), .ref (B + (i + 5)), .int (nI len), .int st, .int vi, .int an, .int sp]) := (o_9 _ (by omega)).trans e_5
  refine r_get ck5 flX5_18 C hS (by omega) e_10 (by decide) rfl dX5_tell_31 ?_
  refine lv_aload_n C.x C.b dX5_tell_34 rfl (lv_at hl 0 rfl) ?_
  refine r_get ck5 flX5_27 C hS (by omega) e_10 (by decide) rfl dX5_tell_35 ?_
  refine lv_iload_n C.x C.b dX5_tell_38 rfl (lv_at hl 3 rfl) ?_
  have e_11 : g_2 (i + 3) = .inl (t.1, 40, .inl en) := (o_4 _ (by omega)).trans e3
  have e_12 : g_7 (i + 3) = .inl (t.1, 40, .inl en) := (o_9 _ (by omega)).trans e_11
  refine r_iastN len rfl (by omega) (by decide) C hS (by omega) e_12 dX5_tell_39 (fun g_13 H locs e_14 o_15 hS => ?_)
  replace e_14 : g_13 (i + 3) = .inl (t.1, 40, .inl (upd en len z)) := e_14
  refine lv_aload_n C.x C.b dX5_tell_40 rfl (lv_at hl 0 rfl) ?_
  refine lv_dup C.x C.b dX5_tell_41 rfl ?_
  have e_16 : g_13 i = .inr (5, [.ref (B + (i + 1)), .ref (B + (i + 2)), .ref (B + (i + 3)), .ref (B + (i + 4)), .ref (B + (i + 5)), .int (nI len), .int st, .int vi, .int an, .int sp]) := (o_15 _ (by omega)).trans e_10
  refine r_get ck5 flX5_27 C hS (by omega) e_16 (by decide) rfl dX5_tell_42 ?_
  refine lv_iconst (v := 1) C.x C.b dX5_tell_45 (by decide) ?_
  refine lv_iadd C.x C.b dX5_tell_46 ?_
  refine r_top (y := nI (len + 1)) (nI_1 len) ?_
  refine r_put ck5 flX5_27 C hS (by omega) e_16 (by decide) rfl rfl rfl (Nat.le_of_ble_eq_true rfl) dX5_tell_47 (fun g_17 H locs e_18 o_19 hS => ?_)
  replace e_18 : g_17 i = .inr (5, [.ref (B + (i + 1)), .ref (B + (i + 2)), .ref (B + (i + 3)), .ref (B + (i + 4)), .ref (B + (i + 5)), .int (nI (len + 1)), .int st, .int vi, .int an, .int sp]) := e_18
  have e_20 : g_7 (i + 1) = .inl (t.1, 40, .inl (upd ep len x)) := (o_9 _ (by omega)).trans e_3
  have e_21 : g_13 (i + 1) = .inl (t.1, 40, .inl (upd ep len x)) := (o_15 _ (by omega)).trans e_20
  have e_22 : g_17 (i + 1) = .inl (t.1, 40, .inl (upd ep len x)) := (o_19 _ (by omega)).trans e_21
  have e_23 : g_13 (i + 2) = .inl (t.1, 40, .inl (upd ew len y)) := (o_15 _ (by omega)).trans e_8
  have e_24 : g_17 (i + 2) = .inl (t.1, 40, .inl (upd ew len y)) := (o_19 _ (by omega)).trans e_23
  have e_25 : g_17 (i + 3) = .inl (t.1, 40, .inl (upd en len z)) := (o_19 _ (by omega)).trans e_14
  have e_26 : g_2 (i + 4) = .inl (t.1, 8, .inl ct) := (o_4 _ (by omega)).trans e4
  have e_27 : g_7 (i + 4) = .inl (t.1, 8, .inl ct) := (o_9 _ (by omega)).trans e_26
  have e_28 : g_13 (i + 4) = .inl (t.1, 8, .inl ct) := (o_15 _ (by omega)).trans e_27
  have e_29 : g_17 (i + 4) = .inl (t.1, 8, .inl ct) := (o_19 _ (by omega)).trans e_28
  have e_30 : g_2 (i + 5) = .inl (t.1, 8, .inl ec) := (o_4 _ (by omega)).trans e5
  have e_31 : g_7 (i + 5) = .inl (t.1, 8, .inl ec) := (o_9 _ (by omega)).trans e_30
  have e_32 : g_13 (i + 5) = .inl (t.1, 8, .inl ec) := (o_15 _ (by omega)).trans e_31
  have e_33 : g_17 (i + 5) = .inl (t.1, 8, .inl ec) := (o_19 _ (by omega)).trans e_32
  exact r_vret C hr hlocks hS ⟨⟨e_18, e_22, e_24, e_25, e_29, e_33⟩, fun j hj => (o_19 j (by omega)).trans ((o_15 j (by omega)).trans ((o_9 j (by omega)).trans (o_4 j (by omega))))⟩ dX5_tell_50
set_option maxHeartbeats 4000000 in
set_option maxRecDepth 100000 in
/-- Run.costWith -/
theorem c_X5_costWith (l : Launch) (D : va_G) (t : Gx) (B N : Nat) (g : Nat → va_E) (i : Nat) (ep ew en ct ec : Nat → Int32) (len : Nat) (st vi an sp : Int32) (x : Int32) (hi : i + 5 < N) (hR : isRun t B g i ep ew en ct ec len st vi an sp) : Ci l D t B N yX5_costWith cX5_costWith 4 (some .int) 0 0 g [.ref (B + i), .int x] (fun r g' => g = g' ∧ r = cwF ct ec x 8) := by
  refine Ci.start (by decide) (Nat.le_of_ble_eq_true rfl) ?_
  intro p e s m below meth c ls C hr hlocks hS hl
  replace C : Cx D t p s m [.ref (B + i), .int x].toArray c cX5_costWith 4 RX5 := C
  replace hl : lv_has ls 4 [(0, .ref (B + i)), (1, .int x)] := hl
  obtain ⟨e0, e1, e2, e3, e4, e5⟩ := hR
  refine lv_iconst (v := 0) C.x C.b dX5_costWith_0 (by decide) ?_
  refine lv_istore_n (lv' := [(2, .int 0), (0, .ref (B + i)), (1, .int x)]) C.x C.b dX5_costWith_1 rfl hl (by decide) rfl (fun ls hl => ?_)
  refine lv_iconst (v := 0) C.x C.b dX5_costWith_2 (by decide) ?_
  refine lv_istore_n (lv' := [(3, .int 0), (2, .int 0), (0, .ref (B + i)), (1, .int x)]) C.x C.b dX5_costWith_3 rfl hl (by decide) rfl (fun ls hl => ?_)
  have lp_1 : ∀ (u_2 k_3 : Nat) (H : Heap) (locs : List Loc) (ls : Array Slot), k_3 + u_2 = 8 → St D B s.heap N g H locs → lv_has ls 4 [(0, .ref (B + i)), (1, .int x), (2, .int (cwF ct ec x k_3)), (3, .int (nI k_3))] → W p l e (rmOf 0 0 0 0) s m [.ref (B + i), .int x].toArray below meth c H locs 0 0 (MQ below (qI D B N (fun r g' => g = g' ∧ r = cwF ct ec x 8)) [.ref (B + i), .int x].toArray s 0 0 (fun q => B ≤ q)) (F0 m 4 ls []) := by
    intro u_2
    induction u_2 with
    | zero =>
      intro k_3 H locs ls hk_4 hS hl
      obtain rfl : 8 = k_3 := by omega
      refine lv_iload_n C.x C.b dX5_costWith_4 rfl (lv_at hl 3 rfl) ?_
      refine lv_bipush (v := 8) C.x C.b dX5_costWith_5 (by decide) ?_
      refine lv_icmp_ge (tgt := 42) C.x C.b dX5_costWith_7 (by decide) (fun c_7 => ?_) (fun c_7 => absurd (by decide) c_7)
      refine lv_iload_n C.x C.b dX5_costWith_42 rfl (lv_at hl 2 rfl) ?_
      exact r_iret C hr hlocks hS ⟨rfl, rfl⟩ dX5_costWith_43
    | succ u_2 ih_5 =>
      intro k_3 H locs ls hk_4 hS hl
      refine lv_iload_n C.x C.b dX5_costWith_4 rfl (lv_at hl 3 rfl) ?_
      refine lv_bipush (v := 8) C.x C.b dX5_costWith_5 (by decide) ?_
      refine lv_icmp_ge (tgt := 42) C.x C.b dX5_costWith_7 (by decide) (fun c_8 => absurd c_8 (nI_ge (a := k_3) (b := 8) (by omega) (by decide))) (fun c_8 => ?_)
      refine lv_iload_n C.x C.b dX5_costWith_10 rfl (lv_at hl 2 rfl) ?_
      refine lv_iload_n C.x C.b dX5_costWith_11 rfl (lv_at hl 1 rfl) ?_
      refine lv_iload_n C.x C.b dX5_costWith_12 rfl (lv_at hl 3 rfl) ?_
      refine lv_ishr C.x C.b dX5_costWith_13 ?_
      refine lv_iconst (v := 1) C.x C.b dX5_costWith_14 (by decide) ?_
      refine lv_iand C.x C.b dX5_costWith_15 ?_
      refine lv_if_eq (tgt := 28) C.x C.b dX5_costWith_16 (by decide) (fun c_9 => ?_) (fun c_9 => ?_)
      · skip
        refine lv_aload_n C.x C.b dX5_costWith_28 rfl (lv_at hl 0 rfl) ?_
        refine r_get ck5 flX5_21 C hS (by omega) e0 (by decide) rfl dX5_costWith_29 ?_
        refine lv_iload_n C.x C.b dX5_costWith_32 rfl (lv_at hl 3 rfl) ?_
        refine r_ialdN k_3 rfl (by omega) (by decide) C hS (by omega) e4 dX5_costWith_33 ?_
        refine lv_iadd C.x C.b dX5_costWith_34 ?_
        refine lv_istore_n (lv' := [(2, .int ((cwF ct ec x k_3) + (ct k_3))), (0, .ref (B + i)), (1, .int x), (3, .int (nI k_3))]) C.x C.b dX5_costWith_35 rfl hl (by decide) rfl (fun ls hl => ?_)
        refine lv_iinc (v := nI (k_3 + 1)) (lv' := [(3, .int (nI (k_3 + 1))), (2, .int ((cwF ct ec x k_3) + (ct k_3))), (0, .ref (B + i)), (1, .int x)]) C.x C.b dX5_costWith_36 hl (k := 3) rfl (nI_1 k_3) (by decide) rfl (fun ls hl => ?_)
        refine lv_goto (tgt := 4) C.x C.b dX5_costWith_39 (by decide) ?_
        have z_10 : cwF ct ec x (k_3 + 1) = ((cwF ct ec x k_3) + (ct k_3)) := by simp only [cwF, c_9, not_true_eq_false, not_false_eq_true, and_true, true_and, and_false, false_and, and_self, or_true, or_false, true_or, false_or, ite_true, ite_false, if_true, if_false, ↓reduceIte, reduceCtorEq]
        exact ih_5 (k_3 + 1) _ _ _ (by omega)  hS (by rw [z_10]; exact lv_sub hl [2, 3, 1, 0] rfl)
      · skip
        refine lv_aload_n C.x C.b dX5_costWith_19 rfl (lv_at hl 0 rfl) ?_
        refine r_get ck5 flX5_24 C hS (by omega) e0 (by decide) rfl dX5_costWith_20 ?_
        refine lv_iload_n C.x C.b dX5_costWith_23 rfl (lv_at hl 3 rfl) ?_
        refine r_ialdN k_3 rfl (by omega) (by decide) C hS (by omega) e5 dX5_costWith_24 ?_
        refine lv_goto (tgt := 34) C.x C.b dX5_costWith_25 (by decide) ?_
        refine lv_iadd C.x C.b dX5_costWith_34 ?_
        refine lv_istore_n (lv' := [(2, .int ((cwF ct ec x k_3) + (ec k_3))), (0, .ref (B + i)), (1, .int x), (3, .int (nI k_3))]) C.x C.b dX5_costWith_35 rfl hl (by decide) rfl (fun ls hl => ?_)
        refine lv_iinc (v := nI (k_3 + 1)) (lv' := [(3, .int (nI (k_3 + 1))), (2, .int ((cwF ct ec x k_3) + (ec k_3))), (0, .ref (B + i)), (1, .int x)]) C.x C.b dX5_costWith_36 hl (k := 3) rfl (nI_1 k_3) (by decide) rfl (fun ls hl => ?_)
        refine lv_goto (tgt := 4) C.x C.b dX5_costWith_39 (by decide) ?_
        have z_11 : cwF ct ec x (k_3 + 1) = ((cwF ct ec x k_3) + (ec k_3)) := by simp only [cwF, c_9, not_true_eq_false, not_false_eq_true, and_true, true_and, and_false, false_and, and_self, or_true, or_false, true_or, false_or, ite_true, ite_false, if_true, if_false, ↓reduceIte, reduceCtorEq]
        exact ih_5 (k_3 + 1) _ _ _ (by omega)  hS (by rw [z_11]; exact lv_sub hl [2, 3, 1, 0] rfl)
  exact lp_1 8 0 _ _ _ (by omega)  hS (lv_sub hl [2, 3, 1, 0] rfl)
set_option maxHeartbeats 4000000 in
set_option maxRecDepth 100000 in
/-- Run.costsAs -/
theorem c_X5_costsAs (l : Launch) (D : va_G) (t : Gx) (B N : Nat) (g : Nat → va_E) (i : Nat) (ep ew en ct ec : Nat → Int32) (len : Nat) (st vi an sp : Int32) (i2 : Nat) (ep2 ew2 en2 ct2 ec2 : Nat → Int32) (len2 : Nat) (st2 vi2 an2 sp2 : Int32) (hi : i + 5 < N) (hR : isRun t B g i ep ew en ct ec len st vi an sp) (hi2 : i2 + 5 < N) (hR2 : isRun t B g i2 ep2 ew2 en2 ct2 ec2 len2 st2 vi2 an2 sp2) : Ci l D t B N yX5_costsAs cX5_costsAs 3 (some .boolean) 0 0 g [.ref (B + i), .ref (B + i2)] (fun r g' => g = g' ∧ r = bz (sp = sp2 ∧ ∀ q, q < 8 → ct q = ct2 q ∧ ec q = ec2 q)) := by
  refine Ci.start (by decide) (Nat.le_of_ble_eq_true rfl) ?_
  intro p e s m below meth c ls C hr hlocks hS hl
  replace C : Cx D t p s m [.ref (B + i), .ref (B + i2)].toArray c cX5_costsAs 3 RX5 := C
  replace hl : lv_has ls 3 [(0, .ref (B + i)), (1, .ref (B + i2))] := hl
  obtain ⟨e0, e1, e2, e3, e4, e5⟩ := hR
  obtain ⟨f0, f1, f2, f3, f4, f5⟩ := hR2
  refine lv_aload_n C.x C.b dX5_costsAs_0 rfl (lv_at hl 0 rfl) ?_
  refine r_get ck5 flX5_40 C hS (by omega) e0 (by decide) rfl dX5_costsAs_1 ?_
  refine lv_aload_n C.x C.b dX5_costsAs_4 rfl (lv_at hl 1 rfl) ?_
  refine r_get ck5 flX5_40 C hS (by omega) f0 (by decide) rfl dX5_costsAs_5 ?_
  refine lv_icmp_eq (tgt := 13) C.x C.b dX5_costsAs_8 (by decide) (fun c_1 => ?_) (fun c_1 => ?_)
  · skip
    refine lv_iconst (v := 0) C.x C.b dX5_costsAs_13 (by decide) ?_
    refine lv_istore_n (lv' := [(2, .int 0), (0, .ref (B + i)), (1, .ref (B + i2))]) C.x C.b dX5_costsAs_14 rfl hl (by decide) rfl (fun ls hl => ?_)
    have lp_2 : ∀ (u_3 k_4 : Nat) (H : Heap) (locs : List Loc) (ls : Array Slot), k_4 + u_3 = 8 → (∀ q, q < k_4 → ct q = ct2 q ∧ ec q = ec2 q) → St D B s.heap N g H locs → lv_has ls 3 [(0, .ref (B + i)), (1, .ref (B + i2)), (2, .int (nI k_4))] → W p l e (rmOf 0 0 0 0) s m [.ref (B + i), .ref (B + i2)].toArray below meth c H locs 0 0 (MQ below (qI D B N (fun r g' => g = g' ∧ r = bz (sp = sp2 ∧ ∀ q, q < 8 → ct q = ct2 q ∧ ec q = ec2 q))) [.ref (B + i), .ref (B + i2)].toArray s 0 0 (fun q => B ≤ q)) (F0 m 15 ls []) := by
      intro u_3
      induction u_3 with
      | zero =>
        intro k_4 H locs ls hk_5 hq hS hl
        obtain rfl : 8 = k_4 := by omega
        refine lv_iload_n C.x C.b dX5_costsAs_15 rfl (lv_at hl 2 rfl) ?_
        refine lv_bipush (v := 8) C.x C.b dX5_costsAs_16 (by decide) ?_
        refine lv_icmp_ge (tgt := 59) C.x C.b dX5_costsAs_18 (by decide) (fun c_8 => ?_) (fun c_8 => absurd (by decide) c_8)
        refine lv_iconst (v := 1) C.x C.b dX5_costsAs_59 (by decide) ?_
        exact r_zret C hr hlocks hS (by decide) ⟨rfl, (bz_t ⟨c_1, hq⟩).symm⟩ dX5_costsAs_60
      | succ u_3 ih_6 =>
        intro k_4 H locs ls hk_5 hq hS hl
        refine lv_iload_n C.x C.b dX5_costsAs_15 rfl (lv_at hl 2 rfl) ?_
        refine lv_bipush (v := 8) C.x C.b dX5_costsAs_16 (by decide) ?_
        refine lv_icmp_ge (tgt := 59) C.x C.b dX5_costsAs_18 (by decide) (fun c_9 => absurd c_9 (nI_ge (a := k_4) (b := 8) (by omega) (by decide))) (fun c_9 => ?_)
        refine lv_aload_n C.x C.b dX5_costsAs_21 rfl (lv_at hl 0 rfl) ?_
        refine r_get ck5 flX5_21 C hS (by omega) e0 (by decide) rfl dX5_costsAs_22 ?_
        refine lv_iload_n C.x C.b dX5_costsAs_25 rfl (lv_at hl 2 rfl) ?_
        refine r_ialdN k_4 rfl (by omega) (by decide) C hS (by omega) e4 dX5_costsAs_26 ?_
        refine lv_aload_n C.x C.b dX5_costsAs_27 rfl (lv_at hl 1 rfl) ?_
        refine r_get ck5 flX5_21 C hS (by omega) f0 (by decide) rfl dX5_costsAs_28 ?_
        refine lv_iload_n C.x C.b dX5_costsAs_31 rfl (lv_at hl 2 rfl) ?_
        refine r_ialdN k_4 rfl (by omega) (by decide) C hS (by omega) f4 dX5_costsAs_32 ?_
        refine lv_icmp_ne (tgt := 51) C.x C.b dX5_costsAs_33 (by decide) (fun c_10 => ?_) (fun c_10 => ?_)
        · skip
          refine lv_iconst (v := 0) C.x C.b dX5_costsAs_51 (by decide) ?_
          exact r_zret C hr hlocks hS (by decide) ⟨rfl, (bz_f (fun q => c_10 (q.2 k_4 (by omega)).1)).symm⟩ dX5_costsAs_52
        · skip
          refine lv_aload_n C.x C.b dX5_costsAs_36 rfl (lv_at hl 0 rfl) ?_
          refine r_get ck5 flX5_24 C hS (by omega) e0 (by decide) rfl dX5_costsAs_37 ?_
          refine lv_iload_n C.x C.b dX5_costsAs_40 rfl (lv_at hl 2 rfl) ?_
          refine r_ialdN k_4 rfl (by omega) (by decide) C hS (by omega) e5 dX5_costsAs_41 ?_
          refine lv_aload_n C.x C.b dX5_costsAs_42 rfl (lv_at hl 1 rfl) ?_
          refine r_get ck5 flX5_24 C hS (by omega) f0 (by decide) rfl dX5_costsAs_43 ?_
          refine lv_iload_n C.x C.b dX5_costsAs_46 rfl (lv_at hl 2 rfl) ?_
          refine r_ialdN k_4 rfl (by omega) (by decide) C hS (by omega) f5 dX5_costsAs_47 ?_
          refine lv_icmp_eq (tgt := 53) C.x C.b dX5_costsAs_48 (by decide) (fun c_11 => ?_) (fun c_11 => ?_)
          · skip
            refine lv_iinc (v := nI (k_4 + 1)) (lv' := [(2, .int (nI (k_4 + 1))), (0, .ref (B + i)), (1, .ref (B + i2))]) C.x C.b dX5_costsAs_53 hl (k := 2) rfl (nI_1 k_4) (by decide) rfl (fun ls hl => ?_)
            refine lv_goto (tgt := 15) C.x C.b dX5_costsAs_56 (by decide) ?_
            exact ih_6 (k_4 + 1) _ _ _ (by omega) (lt_s hq ⟨c_10, c_11⟩) hS (lv_sub hl [1, 2, 0] rfl)
          · skip
            refine lv_iconst (v := 0) C.x C.b dX5_costsAs_51 (by decide) ?_
            exact r_zret C hr hlocks hS (by decide) ⟨rfl, (bz_f (fun q => c_11 (q.2 k_4 (by omega)).2)).symm⟩ dX5_costsAs_52
    exact lp_2 8 0 _ _ _ (by omega) (fun _ h => absurd h (Nat.not_lt_zero _)) hS (lv_sub hl [1, 2, 0] rfl)
  · skip
    refine lv_iconst (v := 0) C.x C.b dX5_costsAs_11 (by decide) ?_
    exact r_zret C hr hlocks hS (by decide) ⟨rfl, (bz_f (fun q => c_1 q.1)).symm⟩ dX5_costsAs_12
set_option maxHeartbeats 4000000 in
set_option maxRecDepth 100000 in
/-- Run.alwaysSeenAs -/
theorem c_X5_alwaysSeenAs (l : Launch) (D : va_G) (t : Gx) (B N : Nat) (g : Nat → va_E) (i : Nat) (ep ew en ct ec : Nat → Int32) (len : Nat) (st vi an sp : Int32) (i2 : Nat) (ep2 ew2 en2 ct2 ec2 : Nat → Int32) (len2 : Nat) (st2 vi2 an2 sp2 : Int32) (x : Int32) (hi : i + 5 < N) (hR : isRun t B g i ep ew en ct ec len st vi an sp) (hi2 : i2 + 5 < N) (hR2 : isRun t B g i2 ep2 ew2 en2 ct2 ec2 len2 st2 vi2 an2 sp2) (hn : len ≤ 40) (hn2 : len2 ≤ 40) : Ci l D t B N yX5_alwaysSeenAs cX5_alwaysSeenAs 4 (some .boolean) 1 22 g [.ref (B + i), .ref (B + i2), .int x] (fun r g' => g = g' ∧ r = bz (alike x ep ew en ct ec len sp ep2 ew2 en2 ct2 ec2 len2 sp2)) := by
  refine Ci.start (by decide) (Nat.le_of_ble_eq_true rfl) ?_
  intro p e s m below meth c ls C hr hlocks hS hl
  replace C : Cx D t p s m [.ref (B + i), .ref (B + i2), .int x].toArray c cX5_alwaysSeenAs 4 RX5 := C
  replace hl : lv_has ls 4 [(0, .ref (B + i)), (1, .ref (B + i2)), (2, .int x)] := hl
  obtain ⟨e0, e1, e2, e3, e4, e5⟩ := hR
  obtain ⟨f0, f1, f2, f3, f4, f5⟩ := hR2
  refine lv_iload_n C.x C.b dX5_alwaysSeenAs_0 rfl (lv_at hl 2 rfl) ?_
  refine lv_iconst (v := 1) C.x C.b dX5_alwaysSeenAs_1 (by decide) ?_
  refine lv_iand C.x C.b dX5_alwaysSeenAs_2 ?_
  refine lv_if_eq (tgt := 16) C.x C.b dX5_alwaysSeenAs_3 (by decide) (fun c_1 => ?_) (fun c_1 => ?_)
  · skip
    refine lv_aload_n C.x C.b dX5_alwaysSeenAs_16 rfl (lv_at hl 0 rfl) ?_
    refine r_get ck5 flX5_27 C hS (by omega) e0 (by decide) rfl dX5_alwaysSeenAs_17 ?_
    refine lv_aload_n C.x C.b dX5_alwaysSeenAs_20 rfl (lv_at hl 1 rfl) ?_
    refine r_get ck5 flX5_27 C hS (by omega) f0 (by decide) rfl dX5_alwaysSeenAs_21 ?_
    refine lv_icmp_eq (tgt := 29) C.x C.b dX5_alwaysSeenAs_24 (by decide) (fun c_2 => ?_) (fun c_2 => ?_)
    · skip
      have hlen : len = len2 := (nI_eq (by omega) (by omega)).mp c_2
      refine lv_iconst (v := 0) C.x C.b dX5_alwaysSeenAs_29 (by decide) ?_
      refine lv_istore_n (lv' := [(3, .int 0), (0, .ref (B + i)), (1, .ref (B + i2)), (2, .int x)]) C.x C.b dX5_alwaysSeenAs_30 rfl hl (by decide) rfl (fun ls hl => ?_)
      have lp_3 : ∀ (u_4 k_5 : Nat) (H : Heap) (locs : List Loc) (ls : Array Slot), k_5 + u_4 = len → (∀ q, q < k_5 → ep q = ep2 q ∧ ew q = ew2 q ∧ en q = en2 q) → St D B s.heap N g H locs → lv_has ls 4 [(0, .ref (B + i)), (1, .ref (B + i2)), (2, .int x), (3, .int (nI k_5))] → W p l e (rmOf 1 22 0 0) s m [.ref (B + i), .ref (B + i2), .int x].toArray below meth c H locs 0 0 (MQ below (qI D B N (fun r g' => g = g' ∧ r = bz (alike x ep ew en ct ec len sp ep2 ew2 en2 ct2 ec2 len2 sp2))) [.ref (B + i), .ref (B + i2), .int x].toArray s 0 0 (fun q => B ≤ q)) (F0 m 31 ls []) := by
        intro u_4
        induction u_4 with
        | zero =>
          intro k_5 H locs ls hk_6 hq hS hl
          obtain rfl : len = k_5 := by omega
          refine lv_iload_n C.x C.b dX5_alwaysSeenAs_31 rfl (lv_at hl 3 rfl) ?_
          refine lv_aload_n C.x C.b dX5_alwaysSeenAs_32 rfl (lv_at hl 0 rfl) ?_
          refine r_get ck5 flX5_27 C hS (by omega) e0 (by decide) rfl dX5_alwaysSeenAs_33 ?_
          refine lv_icmp_ge (tgt := 92) C.x C.b dX5_alwaysSeenAs_36 (by decide) (fun c_9 => ?_) (fun c_9 => absurd (nI_le (Nat.le_refl _) (by omega)) c_9)
          refine lv_iconst (v := 1) C.x C.b dX5_alwaysSeenAs_92 (by decide) ?_
          exact r_zret C hr hlocks hS (by decide) ⟨rfl, (bz_t ⟨(fun q => absurd c_1 q), hlen, hq⟩).symm⟩ dX5_alwaysSeenAs_93
        | succ u_4 ih_7 =>
          intro k_5 H locs ls hk_6 hq hS hl
          refine lv_iload_n C.x C.b dX5_alwaysSeenAs_31 rfl (lv_at hl 3 rfl) ?_
          refine lv_aload_n C.x C.b dX5_alwaysSeenAs_32 rfl (lv_at hl 0 rfl) ?_
          refine r_get ck5 flX5_27 C hS (by omega) e0 (by decide) rfl dX5_alwaysSeenAs_33 ?_
          refine lv_icmp_ge (tgt := 92) C.x C.b dX5_alwaysSeenAs_36 (by decide) (fun c_10 => absurd c_10 (nI_ge (a := k_5) (b := len) (by omega) (by omega))) (fun c_10 => ?_)
          refine lv_aload_n C.x C.b dX5_alwaysSeenAs_39 rfl (lv_at hl 0 rfl) ?_
          refine r_get ck5 flX5_9 C hS (by omega) e0 (by decide) rfl dX5_alwaysSeenAs_40 ?_
          refine lv_iload_n C.x C.b dX5_alwaysSeenAs_43 rfl (lv_at hl 3 rfl) ?_
          refine r_ialdN k_5 rfl (by omega) (by decide) C hS (by omega) e1 dX5_alwaysSeenAs_44 ?_
          refine lv_aload_n C.x C.b dX5_alwaysSeenAs_45 rfl (lv_at hl 1 rfl) ?_
          refine r_get ck5 flX5_9 C hS (by omega) f0 (by decide) rfl dX5_alwaysSeenAs_46 ?_
          refine lv_iload_n C.x C.b dX5_alwaysSeenAs_49 rfl (lv_at hl 3 rfl) ?_
          refine r_ialdN k_5 rfl (by omega) (by decide) C hS (by omega) f1 dX5_alwaysSeenAs_50 ?_
          refine lv_icmp_ne (tgt := 84) C.x C.b dX5_alwaysSeenAs_51 (by decide) (fun c_11 => ?_) (fun c_11 => ?_)
          · skip
            refine lv_iconst (v := 0) C.x C.b dX5_alwaysSeenAs_84 (by decide) ?_
            exact r_zret C hr hlocks hS (by decide) ⟨rfl, (bz_f (fun q => c_11 (q.2.2 k_5 (by omega)).1)).symm⟩ dX5_alwaysSeenAs_85
          · skip
            refine lv_aload_n C.x C.b dX5_alwaysSeenAs_54 rfl (lv_at hl 0 rfl) ?_
            refine r_get ck5 flX5_15 C hS (by omega) e0 (by decide) rfl dX5_alwaysSeenAs_55 ?_
            refine lv_iload_n C.x C.b dX5_alwaysSeenAs_58 rfl (lv_at hl 3 rfl) ?_
            refine r_ialdN k_5 rfl (by omega) (by decide) C hS (by omega) e2 dX5_alwaysSeenAs_59 ?_
            refine lv_aload_n C.x C.b dX5_alwaysSeenAs_60 rfl (lv_at hl 1 rfl) ?_
            refine r_get ck5 flX5_15 C hS (by omega) f0 (by decide) rfl dX5_alwaysSeenAs_61 ?_
            refine lv_iload_n C.x C.b dX5_alwaysSeenAs_64 rfl (lv_at hl 3 rfl) ?_
            refine r_ialdN k_5 rfl (by omega) (by decide) C hS (by omega) f2 dX5_alwaysSeenAs_65 ?_
            refine lv_icmp_ne (tgt := 84) C.x C.b dX5_alwaysSeenAs_66 (by decide) (fun c_12 => ?_) (fun c_12 => ?_)
            · skip
              refine lv_iconst (v := 0) C.x C.b dX5_alwaysSeenAs_84 (by decide) ?_
              exact r_zret C hr hlocks hS (by decide) ⟨rfl, (bz_f (fun q => c_12 (q.2.2 k_5 (by omega)).2.1)).symm⟩ dX5_alwaysSeenAs_85
            · skip
              refine lv_aload_n C.x C.b dX5_alwaysSeenAs_69 rfl (lv_at hl 0 rfl) ?_
              refine r_get ck5 flX5_18 C hS (by omega) e0 (by decide) rfl dX5_alwaysSeenAs_70 ?_
              refine lv_iload_n C.x C.b dX5_alwaysSeenAs_73 rfl (lv_at hl 3 rfl) ?_
              refine r_ialdN k_5 rfl (by omega) (by decide) C hS (by omega) e3 dX5_alwaysSeenAs_74 ?_
              refine lv_aload_n C.x C.b dX5_alwaysSeenAs_75 rfl (lv_at hl 1 rfl) ?_
              refine r_get ck5 flX5_18 C hS (by omega) f0 (by decide) rfl dX5_alwaysSeenAs_76 ?_
              refine lv_iload_n C.x C.b dX5_alwaysSeenAs_79 rfl (lv_at hl 3 rfl) ?_
              refine r_ialdN k_5 rfl (by omega) (by decide) C hS (by omega) f3 dX5_alwaysSeenAs_80 ?_
              refine lv_icmp_eq (tgt := 86) C.x C.b dX5_alwaysSeenAs_81 (by decide) (fun c_13 => ?_) (fun c_13 => ?_)
              · skip
                refine lv_iinc (v := nI (k_5 + 1)) (lv' := [(3, .int (nI (k_5 + 1))), (0, .ref (B + i)), (1, .ref (B + i2)), (2, .int x)]) C.x C.b dX5_alwaysSeenAs_86 hl (k := 3) rfl (nI_1 k_5) (by decide) rfl (fun ls hl => ?_)
                refine lv_goto (tgt := 31) C.x C.b dX5_alwaysSeenAs_89 (by decide) ?_
                exact ih_7 (k_5 + 1) _ _ _ (by omega) (lt_s hq ⟨c_11, c_12, c_13⟩) hS (lv_sub hl [1, 2, 3, 0] rfl)
              · skip
                refine lv_iconst (v := 0) C.x C.b dX5_alwaysSeenAs_84 (by decide) ?_
                exact r_zret C hr hlocks hS (by decide) ⟨rfl, (bz_f (fun q => c_13 (q.2.2 k_5 (by omega)).2.2)).symm⟩ dX5_alwaysSeenAs_85
      exact lp_3 len 0 _ _ _ (by omega) (fun _ h => absurd h (Nat.not_lt_zero _)) hS (lv_sub hl [1, 2, 3, 0] rfl)
    · skip
      refine lv_iconst (v := 0) C.x C.b dX5_alwaysSeenAs_27 (by decide) ?_
      exact r_zret C hr hlocks hS (by decide) ⟨rfl, (bz_f (fun q => c_2 (by rw [q.2.1]))).symm⟩ dX5_alwaysSeenAs_28
  · skip
    refine lv_aload_n C.x C.b dX5_alwaysSeenAs_6 rfl (lv_at hl 0 rfl) ?_
    refine lv_aload_n C.x C.b dX5_alwaysSeenAs_7 rfl (lv_at hl 1 rfl) ?_
    refine r_callV (b := i) (As := [.ref (B + i2)]) (rest := []) (c_X5_costsAs l D t B N g i _ _ _ _ _ _ _ _ _ _ i2 _ _ _ _ _ _ _ _ _ _ (by omega) ⟨e0, e1, e2, e3, e4, e5⟩ (by omega) ⟨f0, f1, f2, f3, f4, f5⟩) mf_yX5_costsAs mlX5_44 im_yX5_costsAs se_yX5_costsAs (by decide) C hS (by omega) e0 (show vwCl[5]? = some _ from rfl) rfl rfl hl.1 rfl (Nat.le_of_ble_eq_true rfl) dX5_alwaysSeenAs_8 ⟨Nat.zero_le _, Nat.zero_le _⟩ (fun r_16 g_14 H locs w_15 hS => ?_)
    obtain ⟨rfl, er_16⟩ := w_15
    by_cases b_17 : (sp = sp2 ∧ ∀ q, q < 8 → ct q = ct2 q ∧ ec q = ec2 q)
    · rw [bz_t b_17] at er_16
      subst er_16
      refine lv_if_ne (tgt := 16) C.x C.b dX5_alwaysSeenAs_11 (by decide) (fun c_18 => ?_) (fun c_18 => absurd c_18 (by decide))
      refine lv_aload_n C.x C.b dX5_alwaysSeenAs_16 rfl (lv_at hl 0 rfl) ?_
      refine r_get ck5 flX5_27 C hS (by omega) e0 (by decide) rfl dX5_alwaysSeenAs_17 ?_
      refine lv_aload_n C.x C.b dX5_alwaysSeenAs_20 rfl (lv_at hl 1 rfl) ?_
      refine r_get ck5 flX5_27 C hS (by omega) f0 (by decide) rfl dX5_alwaysSeenAs_21 ?_
      refine lv_icmp_eq (tgt := 29) C.x C.b dX5_alwaysSeenAs_24 (by decide) (fun c_19 => ?_) (fun c_19 => ?_)
      · skip
        have hlen : len = len2 := (nI_eq (by omega) (by omega)).mp c_19
        refine lv_iconst (v := 0) C.x C.b dX5_alwaysSeenAs_29 (by decide) ?_
        refine lv_istore_n (lv' := [(3, .int 0), (0, .ref (B + i)), (1, .ref (B + i2)), (2, .int x)]) C.x C.b dX5_alwaysSeenAs_30 rfl hl (by decide) rfl (fun ls hl => ?_)
        have lp_20 : ∀ (u_21 k_22 : Nat) (H : Heap) (locs : List Loc) (ls : Array Slot), k_22 + u_21 = len → (∀ q, q < k_22 → ep q = ep2 q ∧ ew q = ew2 q ∧ en q = en2 q) → St D B s.heap N g H locs → lv_has ls 4 [(0, .ref (B + i)), (1, .ref (B + i2)), (2, .int x), (3, .int (nI k_22))] → W p l e (rmOf 1 22 0 0) s m [.ref (B + i), .ref (B + i2), .int x].toArray below meth c H locs 0 0 (MQ below (qI D B N (fun r g' => g = g' ∧ r = bz (alike x ep ew en ct ec len sp ep2 ew2 en2 ct2 ec2 len2 sp2))) [.ref (B + i), .ref (B + i2), .int x].toArray s 0 0 (fun q => B ≤ q)) (F0 m 31 ls []) := by
          intro u_21
          induction u_21 with
          | zero =>
            intro k_22 H locs ls hk_23 hq hS hl
            obtain rfl : len = k_22 := by omega
            refine lv_iload_n C.x C.b dX5_alwaysSeenAs_31 rfl (lv_at hl 3 rfl) ?_
            refine lv_aload_n C.x C.b dX5_alwaysSeenAs_32 rfl (lv_at hl 0 rfl) ?_
            refine r_get ck5 flX5_27 C hS (by omega) e0 (by decide) rfl dX5_alwaysSeenAs_33 ?_
            refine lv_icmp_ge (tgt := 92) C.x C.b dX5_alwaysSeenAs_36 (by decide) (fun c_26 => ?_) (fun c_26 => absurd (nI_le (Nat.le_refl _) (by omega)) c_26)
            refine lv_iconst (v := 1) C.x C.b dX5_alwaysSeenAs_92 (by decide) ?_
            exact r_zret C hr hlocks hS (by decide) ⟨rfl, (bz_t ⟨(fun _ => b_17), hlen, hq⟩).symm⟩ dX5_alwaysSeenAs_93
          | succ u_21 ih_24 =>
            intro k_22 H locs ls hk_23 hq hS hl
            refine lv_iload_n C.x C.b dX5_alwaysSeenAs_31 rfl (lv_at hl 3 rfl) ?_
            refine lv_aload_n C.x C.b dX5_alwaysSeenAs_32 rfl (lv_at hl 0 rfl) ?_
            refine r_get ck5 flX5_27 C hS (by omega) e0 (by decide) rfl dX5_alwaysSeenAs_33 ?_
            refine lv_icmp_ge (tgt := 92) C.x C.b dX5_alwaysSeenAs_36 (by decide) (fun c_27 => absurd c_27 (nI_ge (a := k_22) (b := len) (by omega) (by omega))) (fun c_27 => ?_)
            refine lv_aload_n C.x C.b dX5_alwaysSeenAs_39 rfl (lv_at hl 0 rfl) ?_
            refine r_get ck5 flX5_9 C hS (by omega) e0 (by decide) rfl dX5_alwaysSeenAs_40 ?_
            refine lv_iload_n C.x C.b dX5_alwaysSeenAs_43 rfl (lv_at hl 3 rfl) ?_
            refine r_ialdN k_22 rfl (by omega) (by decide) C hS (by omega) e1 dX5_alwaysSeenAs_44 ?_
            refine lv_aload_n C.x C.b dX5_alwaysSeenAs_45 rfl (lv_at hl 1 rfl) ?_
            refine r_get ck5 flX5_9 C hS (by omega) f0 (by decide) rfl dX5_alwaysSeenAs_46 ?_
            refine lv_iload_n C.x C.b dX5_alwaysSeenAs_49 rfl (lv_at hl 3 rfl) ?_
            refine r_ialdN k_22 rfl (by omega) (by decide) C hS (by omega) f1 dX5_alwaysSeenAs_50 ?_
            refine lv_icmp_ne (tgt := 84) C.x C.b dX5_alwaysSeenAs_51 (by decide) (fun c_28 => ?_) (fun c_28 => ?_)
            · skip
              refine lv_iconst (v := 0) C.x C.b dX5_alwaysSeenAs_84 (by decide) ?_
              exact r_zret C hr hlocks hS (by decide) ⟨rfl, (bz_f (fun q => c_28 (q.2.2 k_22 (by omega)).1)).symm⟩ dX5_alwaysSeenAs_85
            · skip
              refine lv_aload_n C.x C.b dX5_alwaysSeenAs_54 rfl (lv_at hl 0 rfl) ?_
              refine r_get ck5 flX5_15 C hS (by omega) e0 (by decide) rfl dX5_alwaysSeenAs_55 ?_
              refine lv_iload_n C.x C.b dX5_alwaysSeenAs_58 rfl (lv_at hl 3 rfl) ?_
              refine r_ialdN k_22 rfl (by omega) (by decide) C hS (by omega) e2 dX5_alwaysSeenAs_59 ?_
              refine lv_aload_n C.x C.b dX5_alwaysSeenAs_60 rfl (lv_at hl 1 rfl) ?_
              refine r_get ck5 flX5_15 C hS (by omega) f0 (by decide) rfl dX5_alwaysSeenAs_61 ?_
              refine lv_iload_n C.x C.b dX5_alwaysSeenAs_64 rfl (lv_at hl 3 rfl) ?_
              refine r_ialdN k_22 rfl (by omega) (by decide) C hS (by omega) f2 dX5_alwaysSeenAs_65 ?_
              refine lv_icmp_ne (tgt := 84) C.x C.b dX5_alwaysSeenAs_66 (by decide) (fun c_29 => ?_) (fun c_29 => ?_)
              · skip
                refine lv_iconst (v := 0) C.x C.b dX5_alwaysSeenAs_84 (by decide) ?_
                exact r_zret C hr hlocks hS (by decide) ⟨rfl, (bz_f (fun q => c_29 (q.2.2 k_22 (by omega)).2.1)).symm⟩ dX5_alwaysSeenAs_85
              · skip
                refine lv_aload_n C.x C.b dX5_alwaysSeenAs_69 rfl (lv_at hl 0 rfl) ?_
                refine r_get ck5 flX5_18 C hS (by omega) e0 (by decide) rfl dX5_alwaysSeenAs_70 ?_
                refine lv_iload_n C.x C.b dX5_alwaysSeenAs_73 rfl (lv_at hl 3 rfl) ?_
                refine r_ialdN k_22 rfl (by omega) (by decide) C hS (by omega) e3 dX5_alwaysSeenAs_74 ?_
                refine lv_aload_n C.x C.b dX5_alwaysSeenAs_75 rfl (lv_at hl 1 rfl) ?_
                refine r_get ck5 flX5_18 C hS (by omega) f0 (by decide) rfl dX5_alwaysSeenAs_76 ?_
                refine lv_iload_n C.x C.b dX5_alwaysSeenAs_79 rfl (lv_at hl 3 rfl) ?_
                refine r_ialdN k_22 rfl (by omega) (by decide) C hS (by omega) f3 dX5_alwaysSeenAs_80 ?_
                refine lv_icmp_eq (tgt := 86) C.x C.b dX5_alwaysSeenAs_81 (by decide) (fun c_30 => ?_) (fun c_30 => ?_)
                · skip
                  refine lv_iinc (v := nI (k_22 + 1)) (lv' := [(3, .int (nI (k_22 + 1))), (0, .ref (B + i)), (1, .ref (B + i2)), (2, .int x)]) C.x C.b dX5_alwaysSeenAs_86 hl (k := 3) rfl (nI_1 k_22) (by decide) rfl (fun ls hl => ?_)
                  refine lv_goto (tgt := 31) C.x C.b dX5_alwaysSeenAs_89 (by decide) ?_
                  exact ih_24 (k_22 + 1) _ _ _ (by omega) (lt_s hq ⟨c_28, c_29, c_30⟩) hS (lv_sub hl [1, 2, 3, 0] rfl)
                · skip
                  refine lv_iconst (v := 0) C.x C.b dX5_alwaysSeenAs_84 (by decide) ?_
                  exact r_zret C hr hlocks hS (by decide) ⟨rfl, (bz_f (fun q => c_30 (q.2.2 k_22 (by omega)).2.2)).symm⟩ dX5_alwaysSeenAs_85
        exact lp_20 len 0 _ _ _ (by omega) (fun _ h => absurd h (Nat.not_lt_zero _)) hS (lv_sub hl [1, 2, 3, 0] rfl)
      · skip
        refine lv_iconst (v := 0) C.x C.b dX5_alwaysSeenAs_27 (by decide) ?_
        exact r_zret C hr hlocks hS (by decide) ⟨rfl, (bz_f (fun q => c_19 (by rw [q.2.1]))).symm⟩ dX5_alwaysSeenAs_28
    · rw [bz_f b_17] at er_16
      subst er_16
      refine lv_if_ne (tgt := 16) C.x C.b dX5_alwaysSeenAs_11 (by decide) (fun c_31 => absurd (by decide) c_31) (fun c_31 => ?_)
      refine lv_iconst (v := 0) C.x C.b dX5_alwaysSeenAs_14 (by decide) ?_
      exact r_zret C hr hlocks hS (by decide) ⟨rfl, (bz_f (fun q => b_17 (q.1 c_1))).symm⟩ dX5_alwaysSeenAs_15
end
section
def ush (x y : Int32) : Int32 := (x.toUInt32 >>> (y.toUInt32 &&& Int32.toUInt32 31)).toInt32
def nlz5 (n x : Int32) : Int32 := n - (ush x 1)
def nlz4 (n x : Int32) : Int32 := if x < 4 then nlz5 n x else nlz5 (n + -2) (ush x 2)
def nlz3 (n x : Int32) : Int32 := if x < 16 then nlz4 n x else nlz4 (n + -4) (ush x 4)
def nlz2 (n x : Int32) : Int32 := if x < 256 then nlz3 n x else nlz3 (n + -8) (ush x 8)
def nlz1 (n x : Int32) : Int32 := if x < 65536 then nlz2 n x else nlz2 (n + -16) (ush x 16)
/-- the leading zeros of x -/
def nlzF (x : Int32) : Int32 := if 0 < x then nlz1 31 x else if x = 0 then 32 else 0
def lo2 (x : Int32) : Nat := (x &&& 3).toNatClampNeg
def lo3 (x : Int32) : Nat := (x &&& 7).toNatClampNeg
theorem lo2_eq (x : Int32) : x &&& 3 = nI (lo2 x) := by
  obtain ⟨j, hj, e⟩ := pk_andE x (m := 3) 2 (by decide)
  unfold lo2
  rw [e, nI_clamp (by omega)]
theorem lo2_lt (x : Int32) : lo2 x < 4 := by
  obtain ⟨j, hj, e⟩ := pk_andE x (m := 3) 2 (by decide)
  unfold lo2
  rw [e, nI_clamp (by omega)]
  exact hj
theorem lo3_eq (x : Int32) : x &&& 7 = nI (lo3 x) := by
  obtain ⟨j, hj, e⟩ := pk_andE x (m := 7) 3 (by decide)
  unfold lo3
  rw [e, nI_clamp (by omega)]
theorem lo3_lt (x : Int32) : lo3 x < 8 := by
  obtain ⟨j, hj, e⟩ := pk_andE x (m := 7) 3 (by decide)
  unfold lo3
  rw [e, nI_clamp (by omega)]
  exact hj
def nextF (kd a c0 pt : Int32) : Int32 := if kd = 0 then -1 else if kd = 7 then (if a = 0 then c0 else pt + 1) else if kd = 8 then c0 else pt + 1
def workR (kd : Int32) (a : Nat) (b c0 : Int32) (rg mm : Nat → Int32) : Nat → Int32 := if kd = 1 then upd rg a c0 else if kd = 2 then upd rg a (rg a + b) else if kd = 3 then upd rg a (rg a ^^^ b) else if kd = 4 then upd rg a (rg a * b) else if kd = 5 then upd rg a (mm (lo3 b)) else if kd = 9 then upd rg a (rg a + (if b = 0 then 0 else c0)) else rg
def workM (kd : Int32) (a : Nat) (b : Int32) (rg mm : Nat → Int32) : Nat → Int32 := if kd = 6 then upd mm (lo3 b) (rg a) else mm
theorem sw_out_1_9 {x : Int32} (h1 : ¬ x = 1) (h2 : ¬ x = 2) (h3 : ¬ x = 3) (h4 : ¬ x = 4) (h5 : ¬ x = 5) (h6 : ¬ x = 6) (h7 : ¬ x = 7) (h8 : ¬ x = 8) (h9 : ¬ x = 9) : x.toInt < 1 ∨ 9 < x.toInt := by
  have a1 : x.toInt ≠ 1 := i32_ne h1
  have a2 : x.toInt ≠ 2 := i32_ne h2
  have a3 : x.toInt ≠ 3 := i32_ne h3
  have a4 : x.toInt ≠ 4 := i32_ne h4
  have a5 : x.toInt ≠ 5 := i32_ne h5
  have a6 : x.toInt ≠ 6 := i32_ne h6
  have a7 : x.toInt ≠ 7 := i32_ne h7
  have a8 : x.toInt ≠ 8 := i32_ne h8
  have a9 : x.toInt ≠ 9 := i32_ne h9
  omega
def rg0 (rg : Nat → Int32) (op se : Int32) : Nat → Int32 := upd (upd (upd (upd rg 0 (op &&& 3)) 1 ((op >>> (2 &&& 31)) &&& 3)) 2 (se &&& 3)) 3 ((se >>> (2 &&& 31)) &&& 3)
/-- f with the first k of w copied in -/
def cpF (w f : Nat → Int32) : Nat → Nat → Int32
  | 0 => f
  | k + 1 => upd (cpF w f k) k (w k)
/-- does the step tell: 0 no, 1 a line, 2 a branch -/
def tlc (kd ey wi : Int32) : Nat := if (kd = 5 ∨ kd = 6) ∧ ¬ (ey &&& 2) = 0 ∧ ¬ wi ≤ 0 then 1 else if kd = 7 ∧ ¬ (ey &&& 4) = 0 then 2 else 0
def tuf : Nat → (Nat → Int32) → Nat → Int32 → Nat → Int32
  | 0, f, _, _ => f
  | _ + 1, f, k, x => upd f k x
def tln : Nat → Nat → Nat
  | 0, k => k
  | _ + 1, k => k + 1
def what : Nat → Int32
  | 1 => 2
  | 2 => 4
  | _ => 0
def tnum : Nat → Int32 → Int32 → Int32 → Int32
  | 1, _, b, wi => (b &&& 7) / wi
  | _, a, _, _ => if a = 0 then 1 else 0
set_option maxHeartbeats 1000000 in
set_option maxRecDepth 100000 in
theorem c_J6_numberOfLeadingZeros_0f7a4 (l : Launch) (D : va_G) (t : Gx) (B N : Nat) (g : Nat → va_E) (x : Int32)  : Ci l D t B N yJ6_numberOfLeadingZeros_0f7a4 cJ6_numberOfLeadingZeros_0f7a4 2 (some .int) 0 0 g [.int x] (fun r g' => g = g' ∧ r = nlzF x) := by
  refine Ci.start (by decide) (Nat.le_of_ble_eq_true rfl) ?_
  intro p e s m below meth c ls C hr hlocks hS hl
  replace C : Cx D t p s m [.int x].toArray c cJ6_numberOfLeadingZeros_0f7a4 2 RJ6 := C
  replace hl : lv_has ls 2 [(0, .int x)] := hl
  refine lv_iload_n C.x C.b dJ6_numberOfLeadingZeros_0f7a4_0 rfl (lv_at hl 0 rfl) ?_
  refine lv_if_gt (tgt := 15) C.x C.b dJ6_numberOfLeadingZeros_0f7a4_1 (by decide) (fun c_1 => ?_) (fun c_1 => ?_)
  · skip
    refine lv_bipush (v := 31) C.x C.b dJ6_numberOfLeadingZeros_0f7a4_15 (by decide) ?_
    refine lv_istore_n (lv' := [(1, .int 31), (0, .int x)]) C.x C.b dJ6_numberOfLeadingZeros_0f7a4_17 rfl hl (by decide) rfl (fun ls hl => ?_)
    refine lv_iload_n C.x C.b dJ6_numberOfLeadingZeros_0f7a4_18 rfl (lv_at hl 1 rfl) ?_
    refine lv_ldcw (v := 65536) C.x C.b C.o (C.w kkJ6_264) dJ6_numberOfLeadingZeros_0f7a4_19 ?_
    refine lv_icmp_lt (tgt := 33) C.x C.b dJ6_numberOfLeadingZeros_0f7a4_22 (by decide) (fun c_2 => ?_) (fun c_2 => ?_)
    · skip
      refine lv_iload_n C.x C.b dJ6_numberOfLeadingZeros_0f7a4_33 rfl (lv_at hl 1 rfl) ?_
      refine lv_sipush (v := 256) C.x C.b dJ6_numberOfLeadingZeros_0f7a4_34 (by decide) ?_
      refine lv_icmp_lt (tgt := 48) C.x C.b dJ6_numberOfLeadingZeros_0f7a4_37 (by decide) (fun c_3 => ?_) (fun c_3 => ?_)
      · skip
        refine lv_iload_n C.x C.b dJ6_numberOfLeadingZeros_0f7a4_48 rfl (lv_at hl 1 rfl) ?_
        refine lv_bipush (v := 16) C.x C.b dJ6_numberOfLeadingZeros_0f7a4_49 (by decide) ?_
        refine lv_icmp_lt (tgt := 61) C.x C.b dJ6_numberOfLeadingZeros_0f7a4_51 (by decide) (fun c_4 => ?_) (fun c_4 => ?_)
        · skip
          refine lv_iload_n C.x C.b dJ6_numberOfLeadingZeros_0f7a4_61 rfl (lv_at hl 1 rfl) ?_
          refine lv_iconst (v := 4) C.x C.b dJ6_numberOfLeadingZeros_0f7a4_62 (by decide) ?_
          refine lv_icmp_lt (tgt := 73) C.x C.b dJ6_numberOfLeadingZeros_0f7a4_63 (by decide) (fun c_5 => ?_) (fun c_5 => ?_)
          · skip
            refine lv_iload_n C.x C.b dJ6_numberOfLeadingZeros_0f7a4_73 rfl (lv_at hl 0 rfl) ?_
            refine lv_iload_n C.x C.b dJ6_numberOfLeadingZeros_0f7a4_74 rfl (lv_at hl 1 rfl) ?_
            refine lv_iconst (v := 1) C.x C.b dJ6_numberOfLeadingZeros_0f7a4_75 (by decide) ?_
            refine lv_iushr (v := (ush x 1)) C.x C.b dJ6_numberOfLeadingZeros_0f7a4_76 rfl ?_
            refine lv_isub C.x C.b dJ6_numberOfLeadingZeros_0f7a4_77 ?_
            exact r_iret C hr hlocks hS ⟨rfl, by simp only [nlzF, nlz1, nlz2, nlz3, nlz4, nlz5, c_1, c_2, c_3, c_4, c_5, not_true_eq_false, not_false_eq_true, and_true, true_and, and_false, false_and, and_self, or_true, or_false, true_or, false_or, ite_true, ite_false, if_true, if_false, ↓reduceIte, reduceCtorEq]⟩ dJ6_numberOfLeadingZeros_0f7a4_78
          · skip
            refine lv_iinc (v := (31 + -2)) (lv' := [(1, .int (31 + -2)), (0, .int x)]) C.x C.b dJ6_numberOfLeadingZeros_0f7a4_66 hl (k := 0) rfl (rfl) (by decide) rfl (fun ls hl => ?_)
            refine lv_iload_n C.x C.b dJ6_numberOfLeadingZeros_0f7a4_69 rfl (lv_at hl 1 rfl) ?_
            refine lv_iconst (v := 2) C.x C.b dJ6_numberOfLeadingZeros_0f7a4_70 (by decide) ?_
            refine lv_iushr (v := (ush x 2)) C.x C.b dJ6_numberOfLeadingZeros_0f7a4_71 rfl ?_
            refine lv_istore_n (lv' := [(0, .int (ush x 2)), (1, .int (31 + -2))]) C.x C.b dJ6_numberOfLeadingZeros_0f7a4_72 rfl hl (by decide) rfl (fun ls hl => ?_)
            refine lv_iload_n C.x C.b dJ6_numberOfLeadingZeros_0f7a4_73 rfl (lv_at hl 1 rfl) ?_
            refine lv_iload_n C.x C.b dJ6_numberOfLeadingZeros_0f7a4_74 rfl (lv_at hl 0 rfl) ?_
            refine lv_iconst (v := 1) C.x C.b dJ6_numberOfLeadingZeros_0f7a4_75 (by decide) ?_
            refine lv_iushr (v := (ush (ush x 2) 1)) C.x C.b dJ6_numberOfLeadingZeros_0f7a4_76 rfl ?_
            refine lv_isub C.x C.b dJ6_numberOfLeadingZeros_0f7a4_77 ?_
            exact r_iret C hr hlocks hS ⟨rfl, by simp only [nlzF, nlz1, nlz2, nlz3, nlz4, nlz5, c_1, c_2, c_3, c_4, c_5, not_true_eq_false, not_false_eq_true, and_true, true_and, and_false, false_and, and_self, or_true, or_false, true_or, false_or, ite_true, ite_false, if_true, if_false, ↓reduceIte, reduceCtorEq]⟩ dJ6_numberOfLeadingZeros_0f7a4_78
        · skip
          refine lv_iinc (v := (31 + -4)) (lv' := [(1, .int (31 + -4)), (0, .int x)]) C.x C.b dJ6_numberOfLeadingZeros_0f7a4_54 hl (k := 0) rfl (rfl) (by decide) rfl (fun ls hl => ?_)
          refine lv_iload_n C.x C.b dJ6_numberOfLeadingZeros_0f7a4_57 rfl (lv_at hl 1 rfl) ?_
          refine lv_iconst (v := 4) C.x C.b dJ6_numberOfLeadingZeros_0f7a4_58 (by decide) ?_
          refine lv_iushr (v := (ush x 4)) C.x C.b dJ6_numberOfLeadingZeros_0f7a4_59 rfl ?_
          refine lv_istore_n (lv' := [(0, .int (ush x 4)), (1, .int (31 + -4))]) C.x C.b dJ6_numberOfLeadingZeros_0f7a4_60 rfl hl (by decide) rfl (fun ls hl => ?_)
          refine lv_iload_n C.x C.b dJ6_numberOfLeadingZeros_0f7a4_61 rfl (lv_at hl 0 rfl) ?_
          refine lv_iconst (v := 4) C.x C.b dJ6_numberOfLeadingZeros_0f7a4_62 (by decide) ?_
          refine lv_icmp_lt (tgt := 73) C.x C.b dJ6_numberOfLeadingZeros_0f7a4_63 (by decide) (fun c_6 => ?_) (fun c_6 => ?_)
          · skip
            refine lv_iload_n C.x C.b dJ6_numberOfLeadingZeros_0f7a4_73 rfl (lv_at hl 1 rfl) ?_
            refine lv_iload_n C.x C.b dJ6_numberOfLeadingZeros_0f7a4_74 rfl (lv_at hl 0 rfl) ?_
            refine lv_iconst (v := 1) C.x C.b dJ6_numberOfLeadingZeros_0f7a4_75 (by decide) ?_
            refine lv_iushr (v := (ush (ush x 4) 1)) C.x C.b dJ6_numberOfLeadingZeros_0f7a4_76 rfl ?_
            refine lv_isub C.x C.b dJ6_numberOfLeadingZeros_0f7a4_77 ?_
            exact r_iret C hr hlocks hS ⟨rfl, by simp only [nlzF, nlz1, nlz2, nlz3, nlz4, nlz5, c_1, c_2, c_3, c_4, c_6, not_true_eq_false, not_false_eq_true, and_true, true_and, and_false, false_and, and_self, or_true, or_false, true_or, false_or, ite_true, ite_false, if_true, if_false, ↓reduceIte, reduceCtorEq]⟩ dJ6_numberOfLeadingZeros_0f7a4_78
          · skip
            refine lv_iinc (v := ((31 + -4) + -2)) (lv' := [(1, .int ((31 + -4) + -2)), (0, .int (ush x 4))]) C.x C.b dJ6_numberOfLeadingZeros_0f7a4_66 hl (k := 1) rfl (rfl) (by decide) rfl (fun ls hl => ?_)
            refine lv_iload_n C.x C.b dJ6_numberOfLeadingZeros_0f7a4_69 rfl (lv_at hl 1 rfl) ?_
            refine lv_iconst (v := 2) C.x C.b dJ6_numberOfLeadingZeros_0f7a4_70 (by decide) ?_
            refine lv_iushr (v := (ush (ush x 4) 2)) C.x C.b dJ6_numberOfLeadingZeros_0f7a4_71 rfl ?_
            refine lv_istore_n (lv' := [(0, .int (ush (ush x 4) 2)), (1, .int ((31 + -4) + -2))]) C.x C.b dJ6_numberOfLeadingZeros_0f7a4_72 rfl hl (by decide) rfl (fun ls hl => ?_)
            refine lv_iload_n C.x C.b dJ6_numberOfLeadingZeros_0f7a4_73 rfl (lv_at hl 1 rfl) ?_
            refine lv_iload_n C.x C.b dJ6_numberOfLeadingZeros_0f7a4_74 rfl (lv_at hl 0 rfl) ?_
            refine lv_iconst (v := 1) C.x C.b dJ6_numberOfLeadingZeros_0f7a4_75 (by decide) ?_
            refine lv_iushr (v := (ush (ush (ush x 4) 2) 1)) C.x C.b dJ6_numberOfLeadingZeros_0f7a4_76 rfl ?_
            refine lv_isub C.x C.b dJ6_numberOfLeadingZeros_0f7a4_77 ?_
            exact r_iret C hr hlocks hS ⟨rfl, by simp only [nlzF, nlz1, nlz2, nlz3, nlz4, nlz5, c_1, c_2, c_3, c_4, c_6, not_true_eq_false, not_false_eq_true, and_true, true_and, and_false, false_and, and_self, or_true, or_false, true_or, false_or, ite_true, ite_false, if_true, if_false, ↓reduceIte, reduceCtorEq]⟩ dJ6_numberOfLeadingZeros_0f7a4_78
      · skip
        refine lv_iinc (v := (31 + -8)) (lv' := [(1, .int (31 + -8)), (0, .int x)]) C.x C.b dJ6_numberOfLeadingZeros_0f7a4_40 hl (k := 0) rfl (rfl) (by decide) rfl (fun ls hl => ?_)
        refine lv_iload_n C.x C.b dJ6_numberOfLeadingZeros_0f7a4_43 rfl (lv_at hl 1 rfl) ?_
        refine lv_bipush (v := 8) C.x C.b dJ6_numberOfLeadingZeros_0f7a4_44 (by decide) ?_
        refine lv_iushr (v := (ush x 8)) C.x C.b dJ6_numberOfLeadingZeros_0f7a4_46 rfl ?_
        refine lv_istore_n (lv' := [(0, .int (ush x 8)), (1, .int (31 + -8))]) C.x C.b dJ6_numberOfLeadingZeros_0f7a4_47 rfl hl (by decide) rfl (fun ls hl => ?_)
        refine lv_iload_n C.x C.b dJ6_numberOfLeadingZeros_0f7a4_48 rfl (lv_at hl 0 rfl) ?_
        refine lv_bipush (v := 16) C.x C.b dJ6_numberOfLeadingZeros_0f7a4_49 (by decide) ?_
        refine lv_icmp_lt (tgt := 61) C.x C.b dJ6_numberOfLeadingZeros_0f7a4_51 (by decide) (fun c_7 => ?_) (fun c_7 => ?_)
        · skip
          refine lv_iload_n C.x C.b dJ6_numberOfLeadingZeros_0f7a4_61 rfl (lv_at hl 0 rfl) ?_
          refine lv_iconst (v := 4) C.x C.b dJ6_numberOfLeadingZeros_0f7a4_62 (by decide) ?_
          refine lv_icmp_lt (tgt := 73) C.x C.b dJ6_numberOfLeadingZeros_0f7a4_63 (by decide) (fun c_8 => ?_) (fun c_8 => ?_)
          · skip
            refine lv_iload_n C.x C.b dJ6_numberOfLeadingZeros_0f7a4_73 rfl (lv_at hl 1 rfl) ?_
            refine lv_iload_n C.x C.b dJ6_numberOfLeadingZeros_0f7a4_74 rfl (lv_at hl 0 rfl) ?_
            refine lv_iconst (v := 1) C.x C.b dJ6_numberOfLeadingZeros_0f7a4_75 (by decide) ?_
            refine lv_iushr (v := (ush (ush x 8) 1)) C.x C.b dJ6_numberOfLeadingZeros_0f7a4_76 rfl ?_
            refine lv_isub C.x C.b dJ6_numberOfLeadingZeros_0f7a4_77 ?_
            exact r_iret C hr hlocks hS ⟨rfl, by simp only [nlzF, nlz1, nlz2, nlz3, nlz4, nlz5, c_1, c_2, c_3, c_7, c_8, not_true_eq_false, not_false_eq_true, and_true, true_and, and_false, false_and, and_self, or_true, or_false, true_or, false_or, ite_true, ite_false, if_true, if_false, ↓reduceIte, reduceCtorEq]⟩ dJ6_numberOfLeadingZeros_0f7a4_78
          · skip
            refine lv_iinc (v := ((31 + -8) + -2)) (lv' := [(1, .int ((31 + -8) + -2)), (0, .int (ush x 8))]) C.x C.b dJ6_numberOfLeadingZeros_0f7a4_66 hl (k := 1) rfl (rfl) (by decide) rfl (fun ls hl => ?_)
            refine lv_iload_n C.x C.b dJ6_numberOfLeadingZeros_0f7a4_69 rfl (lv_at hl 1 rfl) ?_
            refine lv_iconst (v := 2) C.x C.b dJ6_numberOfLeadingZeros_0f7a4_70 (by decide) ?_
            refine lv_iushr (v := (ush (ush x 8) 2)) C.x C.b dJ6_numberOfLeadingZeros_0f7a4_71 rfl ?_
            refine lv_istore_n (lv' := [(0, .int (ush (ush x 8) 2)), (1, .int ((31 + -8) + -2))]) C.x C.b dJ6_numberOfLeadingZeros_0f7a4_72 rfl hl (by decide) rfl (fun ls hl => ?_)
            refine lv_iload_n C.x C.b dJ6_numberOfLeadingZeros_0f7a4_73 rfl (lv_at hl 1 rfl) ?_
            refine lv_iload_n C.x C.b dJ6_numberOfLeadingZeros_0f7a4_74 rfl (lv_at hl 0 rfl) ?_
            refine lv_iconst (v := 1) C.x C.b dJ6_numberOfLeadingZeros_0f7a4_75 (by decide) ?_
            refine lv_iushr (v := (ush (ush (ush x 8) 2) 1)) C.x C.b dJ6_numberOfLeadingZeros_0f7a4_76 rfl ?_
            refine lv_isub C.x C.b dJ6_numberOfLeadingZeros_0f7a4_77 ?_
            exact r_iret C hr hlocks hS ⟨rfl, by simp only [nlzF, nlz1, nlz2, nlz3, nlz4, nlz5, c_1, c_2, c_3, c_7, c_8, not_true_eq_false, not_false_eq_true, and_true, true_and, and_false, false_and, and_self, or_true, or_false, true_or, false_or, ite_true, ite_false, if_true, if_false, ↓reduceIte, reduceCtorEq]⟩ dJ6_numberOfLeadingZeros_0f7a4_78
        · skip
          refine lv_iinc (v := ((31 + -8) + -4)) (lv' := [(1, .int ((31 + -8) + -4)), (0, .int (ush x 8))]) C.x C.b dJ6_numberOfLeadingZeros_0f7a4_54 hl (k := 1) rfl (rfl) (by decide) rfl (fun ls hl => ?_)
          refine lv_iload_n C.x C.b dJ6_numberOfLeadingZeros_0f7a4_57 rfl (lv_at hl 1 rfl) ?_
          refine lv_iconst (v := 4) C.x C.b dJ6_numberOfLeadingZeros_0f7a4_58 (by decide) ?_
          refine lv_iushr (v := (ush (ush x 8) 4)) C.x C.b dJ6_numberOfLeadingZeros_0f7a4_59 rfl ?_
          refine lv_istore_n (lv' := [(0, .int (ush (ush x 8) 4)), (1, .int ((31 + -8) + -4))]) C.x C.b dJ6_numberOfLeadingZeros_0f7a4_60 rfl hl (by decide) rfl (fun ls hl => ?_)
          refine lv_iload_n C.x C.b dJ6_numberOfLeadingZeros_0f7a4_61 rfl (lv_at hl 0 rfl) ?_
          refine lv_iconst (v := 4) C.x C.b dJ6_numberOfLeadingZeros_0f7a4_62 (by decide) ?_
          refine lv_icmp_lt (tgt := 73) C.x C.b dJ6_numberOfLeadingZeros_0f7a4_63 (by decide) (fun c_9 => ?_) (fun c_9 => ?_)
          · skip
            refine lv_iload_n C.x C.b dJ6_numberOfLeadingZeros_0f7a4_73 rfl (lv_at hl 1 rfl) ?_
            refine lv_iload_n C.x C.b dJ6_numberOfLeadingZeros_0f7a4_74 rfl (lv_at hl 0 rfl) ?_
            refine lv_iconst (v := 1) C.x C.b dJ6_numberOfLeadingZeros_0f7a4_75 (by decide) ?_
            refine lv_iushr (v := (ush (ush (ush x 8) 4) 1)) C.x C.b dJ6_numberOfLeadingZeros_0f7a4_76 rfl ?_
            refine lv_isub C.x C.b dJ6_numberOfLeadingZeros_0f7a4_77 ?_
            exact r_iret C hr hlocks hS ⟨rfl, by simp only [nlzF, nlz1, nlz2, nlz3, nlz4, nlz5, c_1, c_2, c_3, c_7, c_9, not_true_eq_false, not_false_eq_true, and_true, true_and, and_false, false_and, and_self, or_true, or_false, true_or, false_or, ite_true, ite_false, if_true, if_false, ↓reduceIte, reduceCtorEq]⟩ dJ6_numberOfLeadingZeros_0f7a4_78
          · skip
            refine lv_iinc (v := (((31 + -8) + -4) + -2)) (lv' := [(1, .int (((31 + -8) + -4) + -2)), (0, .int (ush (ush x 8) 4))]) C.x C.b dJ6_numberOfLeadingZeros_0f7a4_66 hl (k := 1) rfl (rfl) (by decide) rfl (fun ls hl => ?_)
            refine lv_iload_n C.x C.b dJ6_numberOfLeadingZeros_0f7a4_69 rfl (lv_at hl 1 rfl) ?_
            refine lv_iconst (v := 2) C.x C.b dJ6_numberOfLeadingZeros_0f7a4_70 (by decide) ?_
            refine lv_iushr (v := (ush (ush (ush x 8) 4) 2)) C.x C.b dJ6_numberOfLeadingZeros_0f7a4_71 rfl ?_
            refine lv_istore_n (lv' := [(0, .int (ush (ush (ush x 8) 4) 2)), (1, .int (((31 + -8) + -4) + -2))]) C.x C.b dJ6_numberOfLeadingZeros_0f7a4_72 rfl hl (by decide) rfl (fun ls hl => ?_)
            refine lv_iload_n C.x C.b dJ6_numberOfLeadingZeros_0f7a4_73 rfl (lv_at hl 1 rfl) ?_
            refine lv_iload_n C.x C.b dJ6_numberOfLeadingZeros_0f7a4_74 rfl (lv_at hl 0 rfl) ?_
            refine lv_iconst (v := 1) C.x C.b dJ6_numberOfLeadingZeros_0f7a4_75 (by decide) ?_
            refine lv_iushr (v := (ush (ush (ush (ush x 8) 4) 2) 1)) C.x C.b dJ6_numberOfLeadingZeros_0f7a4_76 rfl ?_
            refine lv_isub C.x C.b dJ6_numberOfLeadingZeros_0f7a4_77 ?_
            exact r_iret C hr hlocks hS ⟨rfl, by simp only [nlzF, nlz1, nlz2, nlz3, nlz4, nlz5, c_1, c_2, c_3, c_7, c_9, not_true_eq_false, not_false_eq_true, and_true, true_and, and_false, false_and, and_self, or_true, or_false, true_or, false_or, ite_true, ite_false, if_true, if_false, ↓reduceIte, reduceCtorEq]⟩ dJ6_numberOfLeadingZeros_0f7a4_78
    · skip
      refine lv_iinc (v := (31 + -16)) (lv' := [(1, .int (31 + -16)), (0, .int x)]) C.x C.b dJ6_numberOfLeadingZeros_0f7a4_25 hl (k := 0) rfl (rfl) (by decide) rfl (fun ls hl => ?_)
      refine lv_iload_n C.x C.b dJ6_numberOfLeadingZeros_0f7a4_28 rfl (lv_at hl 1 rfl) ?_
      refine lv_bipush (v := 16) C.x C.b dJ6_numberOfLeadingZeros_0f7a4_29 (by decide) ?_
      refine lv_iushr (v := (ush x 16)) C.x C.b dJ6_numberOfLeadingZeros_0f7a4_31 rfl ?_
      refine lv_istore_n (lv' := [(0, .int (ush x 16)), (1, .int (31 + -16))]) C.x C.b dJ6_numberOfLeadingZeros_0f7a4_32 rfl hl (by decide) rfl (fun ls hl => ?_)
      refine lv_iload_n C.x C.b dJ6_numberOfLeadingZeros_0f7a4_33 rfl (lv_at hl 0 rfl) ?_
      refine lv_sipush (v := 256) C.x C.b dJ6_numberOfLeadingZeros_0f7a4_34 (by decide) ?_
      refine lv_icmp_lt (tgt := 48) C.x C.b dJ6_numberOfLeadingZeros_0f7a4_37 (by decide) (fun c_10 => ?_) (fun c_10 => ?_)
      · skip
        refine lv_iload_n C.x C.b dJ6_numberOfLeadingZeros_0f7a4_48 rfl (lv_at hl 0 rfl) ?_
        refine lv_bipush (v := 16) C.x C.b dJ6_numberOfLeadingZeros_0f7a4_49 (by decide) ?_
        refine lv_icmp_lt (tgt := 61) C.x C.b dJ6_numberOfLeadingZeros_0f7a4_51 (by decide) (fun c_11 => ?_) (fun c_11 => ?_)
        · skip
          refine lv_iload_n C.x C.b dJ6_numberOfLeadingZeros_0f7a4_61 rfl (lv_at hl 0 rfl) ?_
          refine lv_iconst (v := 4) C.x C.b dJ6_numberOfLeadingZeros_0f7a4_62 (by decide) ?_
          refine lv_icmp_lt (tgt := 73) C.x C.b dJ6_numberOfLeadingZeros_0f7a4_63 (by decide) (fun c_12 => ?_) (fun c_12 => ?_)
          · skip
            refine lv_iload_n C.x C.b dJ6_numberOfLeadingZeros_0f7a4_73 rfl (lv_at hl 1 rfl) ?_
            refine lv_iload_n C.x C.b dJ6_numberOfLeadingZeros_0f7a4_74 rfl (lv_at hl 0 rfl) ?_
            refine lv_iconst (v := 1) C.x C.b dJ6_numberOfLeadingZeros_0f7a4_75 (by decide) ?_
            refine lv_iushr (v := (ush (ush x 16) 1)) C.x C.b dJ6_numberOfLeadingZeros_0f7a4_76 rfl ?_
            refine lv_isub C.x C.b dJ6_numberOfLeadingZeros_0f7a4_77 ?_
            exact r_iret C hr hlocks hS ⟨rfl, by simp only [nlzF, nlz1, nlz2, nlz3, nlz4, nlz5, c_1, c_2, c_10, c_11, c_12, not_true_eq_false, not_false_eq_true, and_true, true_and, and_false, false_and, and_self, or_true, or_false, true_or, false_or, ite_true, ite_false, if_true, if_false, ↓reduceIte, reduceCtorEq]⟩ dJ6_numberOfLeadingZeros_0f7a4_78
          · skip
            refine lv_iinc (v := ((31 + -16) + -2)) (lv' := [(1, .int ((31 + -16) + -2)), (0, .int (ush x 16))]) C.x C.b dJ6_numberOfLeadingZeros_0f7a4_66 hl (k := 1) rfl (rfl) (by decide) rfl (fun ls hl => ?_)
            refine lv_iload_n C.x C.b dJ6_numberOfLeadingZeros_0f7a4_69 rfl (lv_at hl 1 rfl) ?_
            refine lv_iconst (v := 2) C.x C.b dJ6_numberOfLeadingZeros_0f7a4_70 (by decide) ?_
            refine lv_iushr (v := (ush (ush x 16) 2)) C.x C.b dJ6_numberOfLeadingZeros_0f7a4_71 rfl ?_
            refine lv_istore_n (lv' := [(0, .int (ush (ush x 16) 2)), (1, .int ((31 + -16) + -2))]) C.x C.b dJ6_numberOfLeadingZeros_0f7a4_72 rfl hl (by decide) rfl (fun ls hl => ?_)
            refine lv_iload_n C.x C.b dJ6_numberOfLeadingZeros_0f7a4_73 rfl (lv_at hl 1 rfl) ?_
            refine lv_iload_n C.x C.b dJ6_numberOfLeadingZeros_0f7a4_74 rfl (lv_at hl 0 rfl) ?_
            refine lv_iconst (v := 1) C.x C.b dJ6_numberOfLeadingZeros_0f7a4_75 (by decide) ?_
            refine lv_iushr (v := (ush (ush (ush x 16) 2) 1)) C.x C.b dJ6_numberOfLeadingZeros_0f7a4_76 rfl ?_
            refine lv_isub C.x C.b dJ6_numberOfLeadingZeros_0f7a4_77 ?_
            exact r_iret C hr hlocks hS ⟨rfl, by simp only [nlzF, nlz1, nlz2, nlz3, nlz4, nlz5, c_1, c_2, c_10, c_11, c_12, not_true_eq_false, not_false_eq_true, and_true, true_and, and_false, false_and, and_self, or_true, or_false, true_or, false_or, ite_true, ite_false, if_true, if_false, ↓reduceIte, reduceCtorEq]⟩ dJ6_numberOfLeadingZeros_0f7a4_78
        · skip
          refine lv_iinc (v := ((31 + -16) + -4)) (lv' := [(1, .int ((31 + -16) + -4)), (0, .int (ush x 16))]) C.x C.b dJ6_numberOfLeadingZeros_0f7a4_54 hl (k := 1) rfl (rfl) (by decide) rfl (fun ls hl => ?_)
          refine lv_iload_n C.x C.b dJ6_numberOfLeadingZeros_0f7a4_57 rfl (lv_at hl 1 rfl) ?_
          refine lv_iconst (v := 4) C.x C.b dJ6_numberOfLeadingZeros_0f7a4_58 (by decide) ?_
          refine lv_iushr (v := (ush (ush x 16) 4)) C.x C.b dJ6_numberOfLeadingZeros_0f7a4_59 rfl ?_
          refine lv_istore_n (lv' := [(0, .int (ush (ush x 16) 4)), (1, .int ((31 + -16) + -4))]) C.x C.b dJ6_numberOfLeadingZeros_0f7a4_60 rfl hl (by decide) rfl (fun ls hl => ?_)
          refine lv_iload_n C.x C.b dJ6_numberOfLeadingZeros_0f7a4_61 rfl (lv_at hl 0 rfl) ?_
          refine lv_iconst (v := 4) C.x C.b dJ6_numberOfLeadingZeros_0f7a4_62 (by decide) ?_
          refine lv_icmp_lt (tgt := 73) C.x C.b dJ6_numberOfLeadingZeros_0f7a4_63 (by decide) (fun c_13 => ?_) (fun c_13 => ?_)
          · skip
            refine lv_iload_n C.x C.b dJ6_numberOfLeadingZeros_0f7a4_73 rfl (lv_at hl 1 rfl) ?_
            refine lv_iload_n C.x C.b dJ6_numberOfLeadingZeros_0f7a4_74 rfl (lv_at hl 0 rfl) ?_
            refine lv_iconst (v := 1) C.x C.b dJ6_numberOfLeadingZeros_0f7a4_75 (by decide) ?_
            refine lv_iushr (v := (ush (ush (ush x 16) 4) 1)) C.x C.b dJ6_numberOfLeadingZeros_0f7a4_76 rfl ?_
            refine lv_isub C.x C.b dJ6_numberOfLeadingZeros_0f7a4_77 ?_
            exact r_iret C hr hlocks hS ⟨rfl, by simp only [nlzF, nlz1, nlz2, nlz3, nlz4, nlz5, c_1, c_2, c_10, c_11, c_13, not_true_eq_false, not_false_eq_true, and_true, true_and, and_false, false_and, and_self, or_true, or_false, true_or, false_or, ite_true, ite_false, if_true, if_false, ↓reduceIte, reduceCtorEq]⟩ dJ6_numberOfLeadingZeros_0f7a4_78
          · skip
            refine lv_iinc (v := (((31 + -16) + -4) + -2)) (lv' := [(1, .int (((31 + -16) + -4) + -2)), (0, .int (ush (ush x 16) 4))]) C.x C.b dJ6_numberOfLeadingZeros_0f7a4_66 hl (k := 1) rfl (rfl) (by decide) rfl (fun ls hl => ?_)
            refine lv_iload_n C.x C.b dJ6_numberOfLeadingZeros_0f7a4_69 rfl (lv_at hl 1 rfl) ?_
            refine lv_iconst (v := 2) C.x C.b dJ6_numberOfLeadingZeros_0f7a4_70 (by decide) ?_
            refine lv_iushr (v := (ush (ush (ush x 16) 4) 2)) C.x C.b dJ6_numberOfLeadingZeros_0f7a4_71 rfl ?_
            refine lv_istore_n (lv' := [(0, .int (ush (ush (ush x 16) 4) 2)), (1, .int (((31 + -16) + -4) + -2))]) C.x C.b dJ6_numberOfLeadingZeros_0f7a4_72 rfl hl (by decide) rfl (fun ls hl => ?_)
            refine lv_iload_n C.x C.b dJ6_numberOfLeadingZeros_0f7a4_73 rfl (lv_at hl 1 rfl) ?_
            refine lv_iload_n C.x C.b dJ6_numberOfLeadingZeros_0f7a4_74 rfl (lv_at hl 0 rfl) ?_
            refine lv_iconst (v := 1) C.x C.b dJ6_numberOfLeadingZeros_0f7a4_75 (by decide) ?_
            refine lv_iushr (v := (ush (ush (ush (ush x 16) 4) 2) 1)) C.x C.b dJ6_numberOfLeadingZeros_0f7a4_76 rfl ?_
            refine lv_isub C.x C.b dJ6_numberOfLeadingZeros_0f7a4_77 ?_
            exact r_iret C hr hlocks hS ⟨rfl, by simp only [nlzF, nlz1, nlz2, nlz3, nlz4, nlz5, c_1, c_2, c_10, c_11, c_13, not_true_eq_false, not_false_eq_true, and_true, true_and, and_false, false_and, and_self, or_true, or_false, true_or, false_or, ite_true, ite_false, if_true, if_false, ↓reduceIte, reduceCtorEq]⟩ dJ6_numberOfLeadingZeros_0f7a4_78
      · skip
        refine lv_iinc (v := ((31 + -16) + -8)) (lv' := [(1, .int ((31 + -16) + -8)), (0, .int (ush x 16))]) C.x C.b dJ6_numberOfLeadingZeros_0f7a4_40 hl (k := 1) rfl (rfl) (by decide) rfl (fun ls hl => ?_)
        refine lv_iload_n C.x C.b dJ6_numberOfLeadingZeros_0f7a4_43 rfl (lv_at hl 1 rfl) ?_
        refine lv_bipush (v := 8) C.x C.b dJ6_numberOfLeadingZeros_0f7a4_44 (by decide) ?_
        refine lv_iushr (v := (ush (ush x 16) 8)) C.x C.b dJ6_numberOfLeadingZeros_0f7a4_46 rfl ?_
        refine lv_istore_n (lv' := [(0, .int (ush (ush x 16) 8)), (1, .int ((31 + -16) + -8))]) C.x C.b dJ6_numberOfLeadingZeros_0f7a4_47 rfl hl (by decide) rfl (fun ls hl => ?_)
        refine lv_iload_n C.x C.b dJ6_numberOfLeadingZeros_0f7a4_48 rfl (lv_at hl 0 rfl) ?_
        refine lv_bipush (v := 16) C.x C.b dJ6_numberOfLeadingZeros_0f7a4_49 (by decide) ?_
        refine lv_icmp_lt (tgt := 61) C.x C.b dJ6_numberOfLeadingZeros_0f7a4_51 (by decide) (fun c_14 => ?_) (fun c_14 => ?_)
        · skip
          refine lv_iload_n C.x C.b dJ6_numberOfLeadingZeros_0f7a4_61 rfl (lv_at hl 0 rfl) ?_
          refine lv_iconst (v := 4) C.x C.b dJ6_numberOfLeadingZeros_0f7a4_62 (by decide) ?_
          refine lv_icmp_lt (tgt := 73) C.x C.b dJ6_numberOfLeadingZeros_0f7a4_63 (by decide) (fun c_15 => ?_) (fun c_15 => ?_)
          · skip
            refine lv_iload_n C.x C.b dJ6_numberOfLeadingZeros_0f7a4_73 rfl (lv_at hl 1 rfl) ?_
            refine lv_iload_n C.x C.b dJ6_numberOfLeadingZeros_0f7a4_74 rfl (lv_at hl 0 rfl) ?_
            refine lv_iconst (v := 1) C.x C.b dJ6_numberOfLeadingZeros_0f7a4_75 (by decide) ?_
            refine lv_iushr (v := (ush (ush (ush x 16) 8) 1)) C.x C.b dJ6_numberOfLeadingZeros_0f7a4_76 rfl ?_
            refine lv_isub C.x C.b dJ6_numberOfLeadingZeros_0f7a4_77 ?_
            exact r_iret C hr hlocks hS ⟨rfl, by simp only [nlzF, nlz1, nlz2, nlz3, nlz4, nlz5, c_1, c_2, c_10, c_14, c_15, not_true_eq_false, not_false_eq_true, and_true, true_and, and_false, false_and, and_self, or_true, or_false, true_or, false_or, ite_true, ite_false, if_true, if_false, ↓reduceIte, reduceCtorEq]⟩ dJ6_numberOfLeadingZeros_0f7a4_78
          · skip
            refine lv_iinc (v := (((31 + -16) + -8) + -2)) (lv' := [(1, .int (((31 + -16) + -8) + -2)), (0, .int (ush (ush x 16) 8))]) C.x C.b dJ6_numberOfLeadingZeros_0f7a4_66 hl (k := 1) rfl (rfl) (by decide) rfl (fun ls hl => ?_)
            refine lv_iload_n C.x C.b dJ6_numberOfLeadingZeros_0f7a4_69 rfl (lv_at hl 1 rfl) ?_
            refine lv_iconst (v := 2) C.x C.b dJ6_numberOfLeadingZeros_0f7a4_70 (by decide) ?_
            refine lv_iushr (v := (ush (ush (ush x 16) 8) 2)) C.x C.b dJ6_numberOfLeadingZeros_0f7a4_71 rfl ?_
            refine lv_istore_n (lv' := [(0, .int (ush (ush (ush x 16) 8) 2)), (1, .int (((31 + -16) + -8) + -2))]) C.x C.b dJ6_numberOfLeadingZeros_0f7a4_72 rfl hl (by decide) rfl (fun ls hl => ?_)
            refine lv_iload_n C.x C.b dJ6_numberOfLeadingZeros_0f7a4_73 rfl (lv_at hl 1 rfl) ?_
            refine lv_iload_n C.x C.b dJ6_numberOfLeadingZeros_0f7a4_74 rfl (lv_at hl 0 rfl) ?_
            refine lv_iconst (v := 1) C.x C.b dJ6_numberOfLeadingZeros_0f7a4_75 (by decide) ?_
            refine lv_iushr (v := (ush (ush (ush (ush x 16) 8) 2) 1)) C.x C.b dJ6_numberOfLeadingZeros_0f7a4_76 rfl ?_
            refine lv_isub C.x C.b dJ6_numberOfLeadingZeros_0f7a4_77 ?_
            exact r_iret C hr hlocks hS ⟨rfl, by simp only [nlzF, nlz1, nlz2, nlz3, nlz4, nlz5, c_1, c_2, c_10, c_14, c_15, not_true_eq_false, not_false_eq_true, and_true, true_and, and_false, false_and, and_self, or_true, or_false, true_or, false_or, ite_true, ite_false, if_true, if_false, ↓reduceIte, reduceCtorEq]⟩ dJ6_numberOfLeadingZeros_0f7a4_78
        · skip
          refine lv_iinc (v := (((31 + -16) + -8) + -4)) (lv' := [(1, .int (((31 + -16) + -8) + -4)), (0, .int (ush (ush x 16) 8))]) C.x C.b dJ6_numberOfLeadingZeros_0f7a4_54 hl (k := 1) rfl (rfl) (by decide) rfl (fun ls hl => ?_)
          refine lv_iload_n C.x C.b dJ6_numberOfLeadingZeros_0f7a4_57 rfl (lv_at hl 1 rfl) ?_
          refine lv_iconst (v := 4) C.x C.b dJ6_numberOfLeadingZeros_0f7a4_58 (by decide) ?_
          refine lv_iushr (v := (ush (ush (ush x 16) 8) 4)) C.x C.b dJ6_numberOfLeadingZeros_0f7a4_59 rfl ?_
          refine lv_istore_n (lv' := [(0, .int (ush (ush (ush x 16) 8) 4)), (1, .int (((31 + -16) + -8) + -4))]) C.x C.b dJ6_numberOfLeadingZeros_0f7a4_60 rfl hl (by decide) rfl (fun ls hl => ?_)
          refine lv_iload_n C.x C.b dJ6_numberOfLeadingZeros_0f7a4_61 rfl (lv_at hl 0 rfl) ?_
          refine lv_iconst (v := 4) C.x C.b dJ6_numberOfLeadingZeros_0f7a4_62 (by decide) ?_
          refine lv_icmp_lt (tgt := 73) C.x C.b dJ6_numberOfLeadingZeros_0f7a4_63 (by decide) (fun c_16 => ?_) (fun c_16 => ?_)
          · skip
            refine lv_iload_n C.x C.b dJ6_numberOfLeadingZeros_0f7a4_73 rfl (lv_at hl 1 rfl) ?_
            refine lv_iload_n C.x C.b dJ6_numberOfLeadingZeros_0f7a4_74 rfl (lv_at hl 0 rfl) ?_
            refine lv_iconst (v := 1) C.x C.b dJ6_numberOfLeadingZeros_0f7a4_75 (by decide) ?_
            refine lv_iushr (v := (ush (ush (ush (ush x 16) 8) 4) 1)) C.x C.b dJ6_numberOfLeadingZeros_0f7a4_76 rfl ?_
            refine lv_isub C.x C.b dJ6_numberOfLeadingZeros_0f7a4_77 ?_
            exact r_iret C hr hlocks hS ⟨rfl, by simp only [nlzF, nlz1, nlz2, nlz3, nlz4, nlz5, c_1, c_2, c_10, c_14, c_16, not_true_eq_false, not_false_eq_true, and_true, true_and, and_false, false_and, and_self, or_true, or_false, true_or, false_or, ite_true, ite_false, if_true, if_false, ↓reduceIte, reduceCtorEq]⟩ dJ6_numberOfLeadingZeros_0f7a4_78
          · skip
            refine lv_iinc (v := ((((31 + -16) + -8) + -4) + -2)) (lv' := [(1, .int ((((31 + -16) + -8) + -4) + -2)), (0, .int (ush (ush (ush x 16) 8) 4))]) C.x C.b dJ6_numberOfLeadingZeros_0f7a4_66 hl (k := 1) rfl (rfl) (by decide) rfl (fun ls hl => ?_)
            refine lv_iload_n C.x C.b dJ6_numberOfLeadingZeros_0f7a4_69 rfl (lv_at hl 1 rfl) ?_
            refine lv_iconst (v := 2) C.x C.b dJ6_numberOfLeadingZeros_0f7a4_70 (by decide) ?_
            refine lv_iushr (v := (ush (ush (ush (ush x 16) 8) 4) 2)) C.x C.b dJ6_numberOfLeadingZeros_0f7a4_71 rfl ?_
            refine lv_istore_n (lv' := [(0, .int (ush (ush (ush (ush x 16) 8) 4) 2)), (1, .int ((((31 + -16) + -8) + -4) + -2))]) C.x C.b dJ6_numberOfLeadingZeros_0f7a4_72 rfl hl (by decide) rfl (fun ls hl => ?_)
            refine lv_iload_n C.x C.b dJ6_numberOfLeadingZeros_0f7a4_73 rfl (lv_at hl 1 rfl) ?_
            refine lv_iload_n C.x C.b dJ6_numberOfLeadingZeros_0f7a4_74 rfl (lv_at hl 0 rfl) ?_
            refine lv_iconst (v := 1) C.x C.b dJ6_numberOfLeadingZeros_0f7a4_75 (by decide) ?_
            refine lv_iushr (v := (ush (ush (ush (ush (ush x 16) 8) 4) 2) 1)) C.x C.b dJ6_numberOfLeadingZeros_0f7a4_76 rfl ?_
            refine lv_isub C.x C.b dJ6_numberOfLeadingZeros_0f7a4_77 ?_
            exact r_iret C hr hlocks hS ⟨rfl, by simp only [nlzF, nlz1, nlz2, nlz3, nlz4, nlz5, c_1, c_2, c_10, c_14, c_16, not_true_eq_false, not_false_eq_true, and_true, true_and, and_false, false_and, and_self, or_true, or_false, true_or, false_or, ite_true, ite_false, if_true, if_false, ↓reduceIte, reduceCtorEq]⟩ dJ6_numberOfLeadingZeros_0f7a4_78
  · skip
    refine lv_iload_n C.x C.b dJ6_numberOfLeadingZeros_0f7a4_4 rfl (lv_at hl 0 rfl) ?_
    refine lv_if_ne (tgt := 13) C.x C.b dJ6_numberOfLeadingZeros_0f7a4_5 (by decide) (fun c_17 => ?_) (fun c_17 => ?_)
    · skip
      refine lv_iconst (v := 0) C.x C.b dJ6_numberOfLeadingZeros_0f7a4_13 (by decide) ?_
      exact r_iret C hr hlocks hS ⟨rfl, by simp only [nlzF, nlz1, nlz2, nlz3, nlz4, nlz5, c_1, c_17, not_true_eq_false, not_false_eq_true, and_true, true_and, and_false, false_and, and_self, or_true, or_false, true_or, false_or, ite_true, ite_false, if_true, if_false, ↓reduceIte, reduceCtorEq]⟩ dJ6_numberOfLeadingZeros_0f7a4_14
    · skip
      refine lv_bipush (v := 32) C.x C.b dJ6_numberOfLeadingZeros_0f7a4_8 (by decide) ?_
      refine lv_goto (tgt := 14) C.x C.b dJ6_numberOfLeadingZeros_0f7a4_10 (by decide) ?_
      exact r_iret C hr hlocks hS ⟨rfl, by rw [c_17]; decide⟩ dJ6_numberOfLeadingZeros_0f7a4_14
set_option maxHeartbeats 1000000 in
set_option maxRecDepth 100000 in
theorem c_X1_bitsOf (l : Launch) (D : va_G) (t : Gx) (B N : Nat) (g : Nat → va_E) (x : Int32)  : Ci l D t B N yX1_bitsOf cX1_bitsOf 1 (some .int) 1 21 g [.int x] (fun r g' => g = g' ∧ r = 32 - nlzF x) := by
  refine Ci.start (by decide) (Nat.le_of_ble_eq_true rfl) ?_
  intro p e s m below meth c ls C hr hlocks hS hl
  replace C : Cx D t p s m [.int x].toArray c cX1_bitsOf 1 RX1 := C
  replace hl : lv_has ls 1 [(0, .int x)] := hl
  refine lv_bipush (v := 32) C.x C.b dX1_bitsOf_0 (by decide) ?_
  refine lv_iload_n C.x C.b dX1_bitsOf_2 rfl (lv_at hl 0 rfl) ?_
  refine r_callS (As := [.int x]) (rest := [.int 32]) (c_J6_numberOfLeadingZeros_0f7a4 l D t B N g x) mf_yJ6_numberOfLeadingZeros_0f7a4 mlX1_93 sm_yJ6_numberOfLeadingZeros_0f7a4 (by decide) C hS rfl hl.1 rfl (Nat.le_of_ble_eq_true rfl) dX1_bitsOf_3 ⟨Nat.zero_le _, Nat.zero_le _⟩ (fun r_3 g_1 H locs w_2 hS => ?_)
  obtain ⟨rfl, er_3⟩ := w_2
  subst er_3
  refine lv_isub C.x C.b dX1_bitsOf_6 ?_
  exact r_iret C hr hlocks hS ⟨rfl, rfl⟩ dX1_bitsOf_7
set_option maxHeartbeats 1000000 in
set_option maxRecDepth 100000 in
theorem c_X1_next (l : Launch) (D : va_G) (t : Gx) (B N : Nat) (g : Nat → va_E) (rg mm : Nat → Int32) (pt : Int32) (kd a c0 : Int32) (h6 : 8 < N) (hM : isMach t B g 6 rg mm pt) : Ci l D t B N yX1_next cX1_next 4 (some .int) 0 0 g [.ref (B + 6), .int kd, .int a, .int c0] (fun r g' => g = g' ∧ r = nextF kd a c0 pt) := by
  refine Ci.start (by decide) (Nat.le_of_ble_eq_true rfl) ?_
  intro p e s m below meth c ls C hr hlocks hS hl
  replace C : Cx D t p s m [.ref (B + 6), .int kd, .int a, .int c0].toArray c cX1_next 4 RX1 := C
  replace hl : lv_has ls 4 [(0, .ref (B + 6)), (1, .int kd), (2, .int a), (3, .int c0)] := hl
  obtain ⟨e0, e1, e2⟩ := hM
  refine lv_iload_n C.x C.b dX1_next_0 rfl (lv_at hl 1 rfl) ?_
  by_cases h_1 : kd = 0
  · refine lv_lookup (off := 35) (tgt := 36) C.x C.b dX1_next_1 (by decide) (by rw [h_1]; decide) (by decide) ?_
    refine lv_iconst (v := (-1)) C.x C.b dX1_next_36 (by decide) ?_
    exact r_iret C hr hlocks hS ⟨rfl, by rw [nextF, if_pos h_1]⟩ dX1_next_37
  by_cases h_2 : kd = 7
  · refine lv_lookup (off := 37) (tgt := 38) C.x C.b dX1_next_1 (by decide) (by rw [h_2]; decide) (by decide) ?_
    refine lv_iload_n C.x C.b dX1_next_38 rfl (lv_at hl 2 rfl) ?_
    refine lv_if_ne (tgt := 46) C.x C.b dX1_next_39 (by decide) (fun c_3 => ?_) (fun c_3 => ?_)
    · skip
      refine lv_aload_n C.x C.b dX1_next_46 rfl (lv_at hl 0 rfl) ?_
      refine r_get ck1 flX1_18 C hS (by omega) e0 (by decide) rfl dX1_next_47 ?_
      refine lv_iconst (v := 1) C.x C.b dX1_next_50 (by decide) ?_
      refine lv_iadd C.x C.b dX1_next_51 ?_
      exact r_iret C hr hlocks hS ⟨rfl, by rw [nextF, if_neg h_1, if_pos h_2, if_neg c_3]⟩ dX1_next_52
    · skip
      refine lv_iload_n C.x C.b dX1_next_42 rfl (lv_at hl 3 rfl) ?_
      refine lv_goto (tgt := 52) C.x C.b dX1_next_43 (by decide) ?_
      exact r_iret C hr hlocks hS ⟨rfl, by rw [nextF, if_neg h_1, if_pos h_2, if_pos c_3]⟩ dX1_next_52
  by_cases h_4 : kd = 8
  · refine lv_lookup (off := 52) (tgt := 53) C.x C.b dX1_next_1 (by decide) (by rw [h_4]; decide) (by decide) ?_
    refine lv_iload_n C.x C.b dX1_next_53 rfl (lv_at hl 3 rfl) ?_
    exact r_iret C hr hlocks hS ⟨rfl, by rw [nextF, if_neg h_1, if_neg h_2, if_pos h_4]⟩ dX1_next_54
  refine lv_lookup (off := 54) (tgt := 55) C.x C.b dX1_next_1 (by decide) (by show Op.lookupswitch.offset [(0, 35), (7, 37), (8, 52)] 54 _ = 54; rw [lv_osw h_1 (by decide), lv_osw h_2 (by decide), lv_osw h_4 (by decide)]; rfl) (by decide) ?_
  refine lv_aload_n C.x C.b dX1_next_55 rfl (lv_at hl 0 rfl) ?_
  refine r_get ck1 flX1_18 C hS (by omega) e0 (by decide) rfl dX1_next_56 ?_
  refine lv_iconst (v := 1) C.x C.b dX1_next_59 (by decide) ?_
  refine lv_iadd C.x C.b dX1_next_60 ?_
  exact r_iret C hr hlocks hS ⟨rfl, by rw [nextF, if_neg h_1, if_neg h_2, if_neg h_4]⟩ dX1_next_61
set_option maxHeartbeats 1000000 in
set_option maxRecDepth 100000 in
theorem c_X1_work (l : Launch) (D : va_G) (t : Gx) (B N : Nat) (g : Nat → va_E) (rg mm : Nat → Int32) (pt : Int32) (kd : Int32) (a : Nat) (b c0 : Int32) (h6 : 8 < N) (hM : isMach t B g 6 rg mm pt) (ha : a < 4) : Cv l D t B N N 0 0 yX1_work cX1_work 5 0 0 g [.ref (B + 6), .int kd, .int (nI a), .int b, .int c0] (fun g' => isMach t B g' 6 (workR kd a b c0 rg mm) (workM kd a b rg mm) pt ∧ ∀ j, (j < 6 ∨ 8 < j) → g' j = g j) := by
  refine Cv.start (by decide) (Nat.le_of_ble_eq_true rfl) ?_
  intro p e s m below meth c ls C hr hlocks hnm hS hl
  replace C : Cx D t p s m [.ref (B + 6), .int kd, .int (nI a), .int b, .int c0].toArray c cX1_work 5 RX1 := C
  replace hl : lv_has ls 5 [(0, .ref (B + 6)), (1, .int kd), (2, .int (nI a)), (3, .int b), (4, .int c0)] := hl
  obtain ⟨e0, e1, e2⟩ := hM
  refine lv_iload_n C.x C.b dX1_work_0 rfl (lv_at hl 1 rfl) ?_
  by_cases h_1 : kd = 1
  · refine lv_tableIn (off := 51) (tgt := 52) C.x C.b dX1_work_1 (by rw [h_1]; decide) (by rw [h_1]; decide) (by rw [h_1]; rfl) (by decide) ?_
    refine lv_aload_n C.x C.b dX1_work_52 rfl (lv_at hl 0 rfl) ?_
    refine r_get ck1 flX1_9 C hS (by omega) e0 (by decide) rfl dX1_work_53 ?_
    refine lv_iload_n C.x C.b dX1_work_56 rfl (lv_at hl 2 rfl) ?_
    refine lv_iload C.x C.b dX1_work_57 (lv_at hl 4 rfl) ?_
    refine r_iastN a rfl ha (by decide) C hS (by omega) e1 dX1_work_59 (fun g_2 H locs e_3 o_4 hS => ?_)
    replace e_3 : g_2 (6 + 1) = .inl (t.1, 4, .inl (upd rg a c0)) := e_3
    refine lv_goto (tgt := 160) C.x C.b dX1_work_60 (by decide) ?_
    have e_5 : g_2 6 = .inr (1, [.ref (B + (6 + 1)), .ref (B + (6 + 2)), .int pt]) := (o_4 _ (by omega)).trans e0
    have e_6 : g_2 (6 + 2) = .inl (t.1, 8, .inl mm) := (o_4 _ (by omega)).trans e2
    exact r_vret C hr hlocks hS ⟨by rw [workR, workM, if_pos h_1, if_neg (show ¬ kd = 6 by rw [h_1]; decide)]; exact ⟨e_5, e_3, e_6⟩, fun j hj => (o_4 j (by omega))⟩ dX1_work_160
  by_cases h_7 : kd = 2
  · refine lv_tableIn (off := 62) (tgt := 63) C.x C.b dX1_work_1 (by rw [h_7]; decide) (by rw [h_7]; decide) (by rw [h_7]; rfl) (by decide) ?_
    refine lv_aload_n C.x C.b dX1_work_63 rfl (lv_at hl 0 rfl) ?_
    refine r_get ck1 flX1_9 C hS (by omega) e0 (by decide) rfl dX1_work_64 ?_
    refine lv_iload_n C.x C.b dX1_work_67 rfl (lv_at hl 2 rfl) ?_
    refine lv_dup2_11 C.x C.b dX1_work_68 rfl rfl ?_
    refine r_ialdN a rfl ha (by decide) C hS (by omega) e1 dX1_work_69 ?_
    refine lv_iload_n C.x C.b dX1_work_70 rfl (lv_at hl 3 rfl) ?_
    refine lv_iadd C.x C.b dX1_work_71 ?_
    refine r_iastN a rfl ha (by decide) C hS (by omega) e1 dX1_work_72 (fun g_8 H locs e_9 o_10 hS => ?_)
    replace e_9 : g_8 (6 + 1) = .inl (t.1, 4, .inl (upd rg a ((rg a) + b))) := e_9
    refine lv_goto (tgt := 160) C.x C.b dX1_work_73 (by decide) ?_
    have e_11 : g_8 6 = .inr (1, [.ref (B + (6 + 1)), .ref (B + (6 + 2)), .int pt]) := (o_10 _ (by omega)).trans e0
    have e_12 : g_8 (6 + 2) = .inl (t.1, 8, .inl mm) := (o_10 _ (by omega)).trans e2
    exact r_vret C hr hlocks hS ⟨by rw [workR, workM, if_neg h_1, if_pos h_7, if_neg (show ¬ kd = 6 by rw [h_7]; decide)]; exact ⟨e_11, e_9, e_12⟩, fun j hj => (o_10 j (by omega))⟩ dX1_work_160
  by_cases h_13 : kd = 3
  · refine lv_tableIn (off := 75) (tgt := 76) C.x C.b dX1_work_1 (by rw [h_13]; decide) (by rw [h_13]; decide) (by rw [h_13]; rfl) (by decide) ?_
    refine lv_aload_n C.x C.b dX1_work_76 rfl (lv_at hl 0 rfl) ?_
    refine r_get ck1 flX1_9 C hS (by omega) e0 (by decide) rfl dX1_work_77 ?_
    refine lv_iload_n C.x C.b dX1_work_80 rfl (lv_at hl 2 rfl) ?_
    refine lv_dup2_11 C.x C.b dX1_work_81 rfl rfl ?_
    refine r_ialdN a rfl ha (by decide) C hS (by omega) e1 dX1_work_82 ?_
    refine lv_iload_n C.x C.b dX1_work_83 rfl (lv_at hl 3 rfl) ?_
    refine lv_ixor C.x C.b dX1_work_84 ?_
    refine r_iastN a rfl ha (by decide) C hS (by omega) e1 dX1_work_85 (fun g_14 H locs e_15 o_16 hS => ?_)
    replace e_15 : g_14 (6 + 1) = .inl (t.1, 4, .inl (upd rg a ((rg a) ^^^ b))) := e_15
    refine lv_goto (tgt := 160) C.x C.b dX1_work_86 (by decide) ?_
    have e_17 : g_14 6 = .inr (1, [.ref (B + (6 + 1)), .ref (B + (6 + 2)), .int pt]) := (o_16 _ (by omega)).trans e0
    have e_18 : g_14 (6 + 2) = .inl (t.1, 8, .inl mm) := (o_16 _ (by omega)).trans e2
    exact r_vret C hr hlocks hS ⟨by rw [workR, workM, if_neg h_1, if_neg h_7, if_pos h_13, if_neg (show ¬ kd = 6 by rw [h_13]; decide)]; exact ⟨e_17, e_15, e_18⟩, fun j hj => (o_16 j (by omega))⟩ dX1_work_160
  by_cases h_19 : kd = 4
  · refine lv_tableIn (off := 88) (tgt := 89) C.x C.b dX1_work_1 (by rw [h_19]; decide) (by rw [h_19]; decide) (by rw [h_19]; rfl) (by decide) ?_
    refine lv_aload_n C.x C.b dX1_work_89 rfl (lv_at hl 0 rfl) ?_
    refine r_get ck1 flX1_9 C hS (by omega) e0 (by decide) rfl dX1_work_90 ?_
    refine lv_iload_n C.x C.b dX1_work_93 rfl (lv_at hl 2 rfl) ?_
    refine lv_dup2_11 C.x C.b dX1_work_94 rfl rfl ?_
    refine r_ialdN a rfl ha (by decide) C hS (by omega) e1 dX1_work_95 ?_
    refine lv_iload_n C.x C.b dX1_work_96 rfl (lv_at hl 3 rfl) ?_
    refine lv_imul C.x C.b dX1_work_97 ?_
    refine r_iastN a rfl ha (by decide) C hS (by omega) e1 dX1_work_98 (fun g_20 H locs e_21 o_22 hS => ?_)
    replace e_21 : g_20 (6 + 1) = .inl (t.1, 4, .inl (upd rg a ((rg a) * b))) := e_21
    refine lv_goto (tgt := 160) C.x C.b dX1_work_99 (by decide) ?_
    have e_23 : g_20 6 = .inr (1, [.ref (B + (6 + 1)), .ref (B + (6 + 2)), .int pt]) := (o_22 _ (by omega)).trans e0
    have e_24 : g_20 (6 + 2) = .inl (t.1, 8, .inl mm) := (o_22 _ (by omega)).trans e2
    exact r_vret C hr hlocks hS ⟨by rw [workR, workM, if_neg h_1, if_neg h_7, if_neg h_13, if_pos h_19, if_neg (show ¬ kd = 6 by rw [h_19]; decide)]; exact ⟨e_23, e_21, e_24⟩, fun j hj => (o_22 j (by omega))⟩ dX1_work_160
  by_cases h_25 : kd = 5
  · refine lv_tableIn (off := 101) (tgt := 102) C.x C.b dX1_work_1 (by rw [h_25]; decide) (by rw [h_25]; decide) (by rw [h_25]; rfl) (by decide) ?_
    refine lv_aload_n C.x C.b dX1_work_102 rfl (lv_at hl 0 rfl) ?_
    refine r_get ck1 flX1_9 C hS (by omega) e0 (by decide) rfl dX1_work_103 ?_
    refine lv_iload_n C.x C.b dX1_work_106 rfl (lv_at hl 2 rfl) ?_
    refine lv_aload_n C.x C.b dX1_work_107 rfl (lv_at hl 0 rfl) ?_
    refine r_get ck1 flX1_15 C hS (by omega) e0 (by decide) rfl dX1_work_108 ?_
    refine lv_iload_n C.x C.b dX1_work_111 rfl (lv_at hl 3 rfl) ?_
    refine lv_bipush (v := 7) C.x C.b dX1_work_112 (by decide) ?_
    refine lv_iand C.x C.b dX1_work_114 ?_
    refine r_ialdN (lo3 b) (lo3_eq b) (lo3_lt b) (by decide) C hS (by omega) e2 dX1_work_115 ?_
    refine r_iastN a rfl ha (by decide) C hS (by omega) e1 dX1_work_116 (fun g_26 H locs e_27 o_28 hS => ?_)
    replace e_27 : g_26 (6 + 1) = .inl (t.1, 4, .inl (upd rg a (mm (lo3 b)))) := e_27
    refine lv_goto (tgt := 160) C.x C.b dX1_work_117 (by decide) ?_
    have e_29 : g_26 6 = .inr (1, [.ref (B + (6 + 1)), .ref (B + (6 + 2)), .int pt]) := (o_28 _ (by omega)).trans e0
    have e_30 : g_26 (6 + 2) = .inl (t.1, 8, .inl mm) := (o_28 _ (by omega)).trans e2
    exact r_vret C hr hlocks hS ⟨by rw [workR, workM, if_neg h_1, if_neg h_7, if_neg h_13, if_neg h_19, if_pos h_25, if_neg (show ¬ kd = 6 by rw [h_25]; decide)]; exact ⟨e_29, e_27, e_30⟩, fun j hj => (o_28 j (by omega))⟩ dX1_work_160
  by_cases h_31 : kd = 6
  · refine lv_tableIn (off := 119) (tgt := 120) C.x C.b dX1_work_1 (by rw [h_31]; decide) (by rw [h_31]; decide) (by rw [h_31]; rfl) (by decide) ?_
    refine lv_aload_n C.x C.b dX1_work_120 rfl (lv_at hl 0 rfl) ?_
    refine r_get ck1 flX1_15 C hS (by omega) e0 (by decide) rfl dX1_work_121 ?_
    refine lv_iload_n C.x C.b dX1_work_124 rfl (lv_at hl 3 rfl) ?_
    refine lv_bipush (v := 7) C.x C.b dX1_work_125 (by decide) ?_
    refine lv_iand C.x C.b dX1_work_127 ?_
    refine lv_aload_n C.x C.b dX1_work_128 rfl (lv_at hl 0 rfl) ?_
    refine r_get ck1 flX1_9 C hS (by omega) e0 (by decide) rfl dX1_work_129 ?_
    refine lv_iload_n C.x C.b dX1_work_132 rfl (lv_at hl 2 rfl) ?_
    refine r_ialdN a rfl ha (by decide) C hS (by omega) e1 dX1_work_133 ?_
    refine r_iastN (lo3 b) (lo3_eq b) (lo3_lt b) (by decide) C hS (by omega) e2 dX1_work_134 (fun g_32 H locs e_33 o_34 hS => ?_)
    replace e_33 : g_32 (6 + 2) = .inl (t.1, 8, .inl (upd mm (lo3 b) (rg a))) := e_33
    refine lv_goto (tgt := 160) C.x C.b dX1_work_135 (by decide) ?_
    have e_35 : g_32 6 = .inr (1, [.ref (B + (6 + 1)), .ref (B + (6 + 2)), .int pt]) := (o_34 _ (by omega)).trans e0
    have e_36 : g_32 (6 + 1) = .inl (t.1, 4, .inl rg) := (o_34 _ (by omega)).trans e1
    exact r_vret C hr hlocks hS ⟨by rw [workR, workM, if_neg h_1, if_neg h_7, if_neg h_13, if_neg h_19, if_neg h_25, if_neg (show ¬ kd = 9 by rw [h_31]; decide), if_pos h_31]; exact ⟨e_35, e_36, e_33⟩, fun j hj => (o_34 j (by omega))⟩ dX1_work_160
  by_cases h_37 : kd = 7
  · refine lv_tableIn (off := 159) (tgt := 160) C.x C.b dX1_work_1 (by rw [h_37]; decide) (by rw [h_37]; decide) (by rw [h_37]; rfl) (by decide) ?_
    exact r_vret C hr hlocks hS ⟨by rw [workR, workM, if_neg h_1, if_neg h_7, if_neg h_13, if_neg h_19, if_neg h_25, if_neg (show ¬ kd = 9 by rw [h_37]; decide), if_neg h_31]; exact ⟨e0, e1, e2⟩, fun _ _ => rfl⟩ dX1_work_160
  by_cases h_38 : kd = 8
  · refine lv_tableIn (off := 159) (tgt := 160) C.x C.b dX1_work_1 (by rw [h_38]; decide) (by rw [h_38]; decide) (by rw [h_38]; rfl) (by decide) ?_
    exact r_vret C hr hlocks hS ⟨by rw [workR, workM, if_neg h_1, if_neg h_7, if_neg h_13, if_neg h_19, if_neg h_25, if_neg (show ¬ kd = 9 by rw [h_38]; decide), if_neg h_31]; exact ⟨e0, e1, e2⟩, fun _ _ => rfl⟩ dX1_work_160
  by_cases h_39 : kd = 9
  · refine lv_tableIn (off := 137) (tgt := 138) C.x C.b dX1_work_1 (by rw [h_39]; decide) (by rw [h_39]; decide) (by rw [h_39]; rfl) (by decide) ?_
    refine lv_aload_n C.x C.b dX1_work_138 rfl (lv_at hl 0 rfl) ?_
    refine r_get ck1 flX1_9 C hS (by omega) e0 (by decide) rfl dX1_work_139 ?_
    refine lv_iload_n C.x C.b dX1_work_142 rfl (lv_at hl 2 rfl) ?_
    refine lv_dup2_11 C.x C.b dX1_work_143 rfl rfl ?_
    refine r_ialdN a rfl ha (by decide) C hS (by omega) e1 dX1_work_144 ?_
    refine lv_iload_n C.x C.b dX1_work_145 rfl (lv_at hl 3 rfl) ?_
    refine lv_if_eq (tgt := 154) C.x C.b dX1_work_146 (by decide) (fun c_40 => ?_) (fun c_40 => ?_)
    · skip
      refine lv_iconst (v := 0) C.x C.b dX1_work_154 (by decide) ?_
      refine lv_iadd C.x C.b dX1_work_155 ?_
      refine r_iastN a rfl ha (by decide) C hS (by omega) e1 dX1_work_156 (fun g_41 H locs e_42 o_43 hS => ?_)
      replace e_42 : g_41 (6 + 1) = .inl (t.1, 4, .inl (upd rg a ((rg a) + 0))) := e_42
      refine lv_goto (tgt := 160) C.x C.b dX1_work_157 (by decide) ?_
      have e_44 : g_41 6 = .inr (1, [.ref (B + (6 + 1)), .ref (B + (6 + 2)), .int pt]) := (o_43 _ (by omega)).trans e0
      have e_45 : g_41 (6 + 2) = .inl (t.1, 8, .inl mm) := (o_43 _ (by omega)).trans e2
      exact r_vret C hr hlocks hS ⟨by rw [workR, workM, if_neg h_1, if_neg h_7, if_neg h_13, if_neg h_19, if_neg h_25, if_pos h_39, if_pos c_40, if_neg h_31]; exact ⟨e_44, e_42, e_45⟩, fun j hj => (o_43 j (by omega))⟩ dX1_work_160
    · skip
      refine lv_iload C.x C.b dX1_work_149 (lv_at hl 4 rfl) ?_
      refine lv_goto (tgt := 155) C.x C.b dX1_work_151 (by decide) ?_
      refine lv_iadd C.x C.b dX1_work_155 ?_
      refine r_iastN a rfl ha (by decide) C hS (by omega) e1 dX1_work_156 (fun g_46 H locs e_47 o_48 hS => ?_)
      replace e_47 : g_46 (6 + 1) = .inl (t.1, 4, .inl (upd rg a ((rg a) + c0))) := e_47
      refine lv_goto (tgt := 160) C.x C.b dX1_work_157 (by decide) ?_
      have e_49 : g_46 6 = .inr (1, [.ref (B + (6 + 1)), .ref (B + (6 + 2)), .int pt]) := (o_48 _ (by omega)).trans e0
      have e_50 : g_46 (6 + 2) = .inl (t.1, 8, .inl mm) := (o_48 _ (by omega)).trans e2
      exact r_vret C hr hlocks hS ⟨by rw [workR, workM, if_neg h_1, if_neg h_7, if_neg h_13, if_neg h_19, if_neg h_25, if_pos h_39, if_neg c_40, if_neg h_31]; exact ⟨e_49, e_47, e_50⟩, fun j hj => (o_48 j (by omega))⟩ dX1_work_160
  refine lv_tableOut (tgt := 160) C.x C.b dX1_work_1 (sw_out_1_9 h_1 h_7 h_13 h_19 h_25 h_31 h_37 h_38 h_39) (by decide) ?_
  exact r_vret C hr hlocks hS ⟨by rw [workR, workM, if_neg h_1, if_neg h_7, if_neg h_13, if_neg h_19, if_neg h_25, if_neg h_39, if_neg h_31]; exact ⟨e0, e1, e2⟩, fun _ _ => rfl⟩ dX1_work_160
set_option maxHeartbeats 1000000 in
set_option maxRecDepth 100000 in
theorem c_X1_begin (l : Launch) (D : va_G) (t : Gx) (B N : Nat) (g : Nat → va_E) (rg mm : Nat → Int32) (pt : Int32) (o pr w : Nat → Int32) (n : Nat) (op se : Int32) (h6 : 8 < N) (hM : isMach t B g 6 rg mm pt) (hP : isProg t B g 1 o pr w n) : Cv l D t B N N 0 0 yX1_begin cX1_begin 5 0 0 g [.ref (B + 6), .ref (B + 1), .int op, .int se] (fun g' => isMach t B g' 6 (rg0 rg op se) (cpF w mm 8) 0 ∧ ∀ j, (j < 6 ∨ 8 < j) → g' j = g j) := by
  refine Cv.start (by decide) (Nat.le_of_ble_eq_true rfl) ?_
  intro p e s m below meth c ls C hr hlocks hnm hS hl
  replace C : Cx D t p s m [.ref (B + 6), .ref (B + 1), .int op, .int se].toArray c cX1_begin 5 RX1 := C
  replace hl : lv_has ls 5 [(0, .ref (B + 6)), (1, .ref (B + 1)), (2, .int op), (3, .int se)] := hl
  obtain ⟨e0, e1, e2⟩ := hM
  obtain ⟨p0, p1, p2, p3⟩ := hP
  refine lv_aload_n C.x C.b dX1_begin_0 rfl (lv_at hl 0 rfl) ?_
  refine lv_iconst (v := 0) C.x C.b dX1_begin_1 (by decide) ?_
  refine r_put ck1 flX1_18 C hS (by omega) e0 (by decide) rfl rfl rfl (Nat.le_of_ble_eq_true rfl) dX1_begin_2 (fun g_1 H locs e_2 o_3 hS => ?_)
  replace e_2 : g_1 6 = .inr (1, [.ref (B + (6 + 1)), .ref (B + (6 + 2)), .int 0]) := e_2
  refine lv_aload_n C.x C.b dX1_begin_5 rfl (lv_at hl 0 rfl) ?_
  refine r_get ck1 flX1_9 C hS (by omega) e_2 (by decide) rfl dX1_begin_6 ?_
  refine lv_iconst (v := 0) C.x C.b dX1_begin_9 (by decide) ?_
  refine lv_iload_n C.x C.b dX1_begin_10 rfl (lv_at hl 2 rfl) ?_
  refine lv_iconst (v := 3) C.x C.b dX1_begin_11 (by decide) ?_
  refine lv_iand C.x C.b dX1_begin_12 ?_
  have e_4 : g_1 (6 + 1) = .inl (t.1, 4, .inl rg) := (o_3 _ (by omega)).trans e1
  refine r_iastN 0 rfl (by omega) (by decide) C hS (by omega) e_4 dX1_begin_13 (fun g_5 H locs e_6 o_7 hS => ?_)
  replace e_6 : g_5 (6 + 1) = .inl (t.1, 4, .inl (upd rg 0 (op &&& 3))) := e_6
  refine lv_aload_n C.x C.b dX1_begin_14 rfl (lv_at hl 0 rfl) ?_
  have e_8 : g_5 6 = .inr (1, [.ref (B + (6 + 1)), .ref (B + (6 + 2)), .int 0]) := (o_7 _ (by omega)).trans e_2
  refine r_get ck1 flX1_9 C hS (by omega) e_8 (by decide) rfl dX1_begin_15 ?_
  refine lv_iconst (v := 1) C.x C.b dX1_begin_18 (by decide) ?_
  refine lv_iload_n C.x C.b dX1_begin_19 rfl (lv_at hl 2 rfl) ?_
  refine lv_iconst (v := 2) C.x C.b dX1_begin_20 (by decide) ?_
  refine lv_ishr C.x C.b dX1_begin_21 ?_
  refine lv_iconst (v := 3) C.x C.b dX1_begin_22 (by decide) ?_
  refine lv_iand C.x C.b dX1_begin_23 ?_
  refine r_iastN 1 rfl (by omega) (by decide) C hS (by omega) e_6 dX1_begin_24 (fun g_9 H locs e_10 o_11 hS => ?_)
  replace e_10 : g_9 (6 + 1) = .inl (t.1, 4, .inl (upd (upd rg 0 (op &&& 3)) 1 ((op >>> (2 &&& 31)) &&& 3))) := e_10
  refine lv_aload_n C.x C.b dX1_begin_25 rfl (lv_at hl 0 rfl) ?_
  have e_12 : g_9 6 = .inr (1, [.ref (B + (6 + 1)), .ref (B + (6 + 2)), .int 0]) := (o_11 _ (by omega)).trans e_8
  refine r_get ck1 flX1_9 C hS (by omega) e_12 (by decide) rfl dX1_begin_26 ?_
  refine lv_iconst (v := 2) C.x C.b dX1_begin_29 (by decide) ?_
  refine lv_iload_n C.x C.b dX1_begin_30 rfl (lv_at hl 3 rfl) ?_
  refine lv_iconst (v := 3) C.x C.b dX1_begin_31 (by decide) ?_
  refine lv_iand C.x C.b dX1_begin_32 ?_
  refine r_iastN 2 rfl (by omega) (by decide) C hS (by omega) e_10 dX1_begin_33 (fun g_13 H locs e_14 o_15 hS => ?_)
  replace e_14 : g_13 (6 + 1) = .inl (t.1, 4, .inl (upd (upd (upd rg 0 (op &&& 3)) 1 ((op >>> (2 &&& 31)) &&& 3)) 2 (se &&& 3))) := e_14
  refine lv_aload_n C.x C.b dX1_begin_34 rfl (lv_at hl 0 rfl) ?_
  have e_16 : g_13 6 = .inr (1, [.ref (B + (6 + 1)), .ref (B + (6 + 2)), .int 0]) := (o_15 _ (by omega)).trans e_12
  refine r_get ck1 flX1_9 C hS (by omega) e_16 (by decide) rfl dX1_begin_35 ?_
  refine lv_iconst (v := 3) C.x C.b dX1_begin_38 (by decide) ?_
  refine lv_iload_n C.x C.b dX1_begin_39 rfl (lv_at hl 3 rfl) ?_
  refine lv_iconst (v := 2) C.x C.b dX1_begin_40 (by decide) ?_
  refine lv_ishr C.x C.b dX1_begin_41 ?_
  refine lv_iconst (v := 3) C.x C.b dX1_begin_42 (by decide) ?_
  refine lv_iand C.x C.b dX1_begin_43 ?_
  refine r_iastN 3 rfl (by omega) (by decide) C hS (by omega) e_14 dX1_begin_44 (fun g_17 H locs e_18 o_19 hS => ?_)
  replace e_18 : g_17 (6 + 1) = .inl (t.1, 4, .inl (upd (upd (upd (upd rg 0 (op &&& 3)) 1 ((op >>> (2 &&& 31)) &&& 3)) 2 (se &&& 3)) 3 ((se >>> (2 &&& 31)) &&& 3))) := e_18
  refine lv_iconst (v := 0) C.x C.b dX1_begin_45 (by decide) ?_
  refine lv_istore (lv' := [(4, .int 0), (0, .ref (B + 6)), (1, .ref (B + 1)), (2, .int op), (3, .int se)]) C.x C.b dX1_begin_46 hl (by decide) rfl (fun ls hl => ?_)
  have lp_20 : ∀ (u_21 k_22 : Nat) (g_26 : Nat → va_E) (H : Heap) (locs : List Loc) (ls : Array Slot), k_22 + u_21 = 8 → (g_26 (6 + 2) = .inl (t.1, 8, .inl (cpF w mm k_22))) → (∀ j, (j ≠ 6 + 2) → g_26 j = g_17 j) → St D B s.heap N g_26 H locs → lv_has ls 5 [(0, .ref (B + 6)), (1, .ref (B + 1)), (2, .int op), (3, .int se), (4, .int (nI k_22))] → W p l e (rmOf 0 0 0 0) s m [.ref (B + 6), .ref (B + 1), .int op, .int se].toArray below meth c H locs 0 0 (MQ below (qV D B N (fun g' => isMach t B g' 6 (rg0 rg op se) (cpF w mm 8) 0 ∧ ∀ j, (j < 6 ∨ 8 < j) → g' j = g j)) [.ref (B + 6), .ref (B + 1), .int op, .int se].toArray s 0 0 (fun q => B ≤ q)) (F0 m 48 ls []) := by
    intro u_21
    induction u_21 with
    | zero =>
      intro k_22 g_26 H locs ls hk_23 e_27 hf_25 hS hl
      obtain rfl : 8 = k_22 := by omega
      refine lv_iload C.x C.b dX1_begin_48 (lv_at hl 4 rfl) ?_
      refine lv_bipush (v := 8) C.x C.b dX1_begin_50 (by decide) ?_
      refine lv_icmp_ge (tgt := 75) C.x C.b dX1_begin_52 (by decide) (fun c_28 => ?_) (fun c_28 => absurd (by decide) c_28)
      have e_29 : g_17 6 = .inr (1, [.ref (B + (6 + 1)), .ref (B + (6 + 2)), .int 0]) := (o_19 _ (by omega)).trans e_16
      have e_30 : g_26 6 = .inr (1, [.ref (B + (6 + 1)), .ref (B + (6 + 2)), .int 0]) := (hf_25 _ (by omega)).trans e_29
      have e_31 : g_26 (6 + 1) = .inl (t.1, 4, .inl (upd (upd (upd (upd rg 0 (op &&& 3)) 1 ((op >>> (2 &&& 31)) &&& 3)) 2 (se &&& 3)) 3 ((se >>> (2 &&& 31)) &&& 3))) := (hf_25 _ (by omega)).trans e_18
      exact r_vret C hr hlocks hS ⟨⟨e_30, e_31, e_27⟩, fun j hj => (hf_25 j (by omega)).trans ((o_19 j (by omega)).trans ((o_15 j (by omega)).trans ((o_11 j (by omega)).trans ((o_7 j (by omega)).trans (o_3 j (by omega))))))⟩ dX1_begin_75
    | succ u_21 ih_24 =>
      intro k_22 g_26 H locs ls hk_23 e_27 hf_25 hS hl
      refine lv_iload C.x C.b dX1_begin_48 (lv_at hl 4 rfl) ?_
      refine lv_bipush (v := 8) C.x C.b dX1_begin_50 (by decide) ?_
      refine lv_icmp_ge (tgt := 75) C.x C.b dX1_begin_52 (by decide) (fun c_32 => absurd c_32 (nI_ge (a := k_22) (b := 8) (by omega) (by decide))) (fun c_32 => ?_)
      refine lv_aload_n C.x C.b dX1_begin_55 rfl (lv_at hl 0 rfl) ?_
      have e_33 : g_17 6 = .inr (1, [.ref (B + (6 + 1)), .ref (B + (6 + 2)), .int 0]) := (o_19 _ (by omega)).trans e_16
      have e_34 : g_26 6 = .inr (1, [.ref (B + (6 + 1)), .ref (B + (6 + 2)), .int 0]) := (hf_25 _ (by omega)).trans e_33
      refine r_get ck1 flX1_15 C hS (by omega) e_34 (by decide) rfl dX1_begin_56 ?_
      refine lv_iload C.x C.b dX1_begin_59 (lv_at hl 4 rfl) ?_
      refine lv_aload_n C.x C.b dX1_begin_61 rfl (lv_at hl 1 rfl) ?_
      have e_35 : g_1 1 = .inr (3, [.ref (B + (1 + 1)), .ref (B + (1 + 2)), .ref (B + (1 + 3)), .int (nI n)]) := (o_3 _ (by omega)).trans p0
      have e_36 : g_5 1 = .inr (3, [.ref (B + (1 + 1)), .ref (B + (1 + 2)), .ref (B + (1 + 3)), .int (nI n)]) := (o_7 _ (by omega)).trans e_35
      have e_37 : g_9 1 = .inr (3, [.ref (B + (1 + 1)), .ref (B + (1 + 2)), .ref (B + (1 + 3)), .int (nI n)]) := (o_11 _ (by omega)).trans e_36
      have e_38 : g_13 1 = .inr (3, [.ref (B + (1 + 1)), .ref (B + (1 + 2)), .ref (B + (1 + 3)), .int (nI n)]) := (o_15 _ (by omega)).trans e_37
      have e_39 : g_17 1 = .inr (3, [.ref (B + (1 + 1)), .ref (B + (1 + 2)), .ref (B + (1 + 3)), .int (nI n)]) := (o_19 _ (by omega)).trans e_38
      have e_40 : g_26 1 = .inr (3, [.ref (B + (1 + 1)), .ref (B + (1 + 2)), .ref (B + (1 + 3)), .int (nI n)]) := (hf_25 _ (by omega)).trans e_39
      refine r_get ck3 flX1_56 C hS (by omega) e_40 (by decide) rfl dX1_begin_62 ?_
      refine lv_iload C.x C.b dX1_begin_65 (lv_at hl 4 rfl) ?_
      have e_41 : g_1 (1 + 3) = .inl (t.1, 8, .inl w) := (o_3 _ (by omega)).trans p3
      have e_42 : g_5 (1 + 3) = .inl (t.1, 8, .inl w) := (o_7 _ (by omega)).trans e_41
      have e_43 : g_9 (1 + 3) = .inl (t.1, 8, .inl w) := (o_11 _ (by omega)).trans e_42
      have e_44 : g_13 (1 + 3) = .inl (t.1, 8, .inl w) := (o_15 _ (by omega)).trans e_43
      have e_45 : g_17 (1 + 3) = .inl (t.1, 8, .inl w) := (o_19 _ (by omega)).trans e_44
      have e_46 : g_26 (1 + 3) = .inl (t.1, 8, .inl w) := (hf_25 _ (by omega)).trans e_45
      refine r_ialdN k_22 rfl (by omega) (by decide) C hS (by omega) e_46 dX1_begin_67 ?_
      refine r_iastN k_22 rfl (by omega) (by decide) C hS (by omega) e_27 dX1_begin_68 (fun g_47 H locs e_48 o_49 hS => ?_)
      replace e_48 : g_47 (6 + 2) = .inl (t.1, 8, .inl (upd (cpF w mm k_22) k_22 (w k_22))) := e_48
      refine lv_iinc (v := nI (k_22 + 1)) (lv' := [(4, .int (nI (k_22 + 1))), (0, .ref (B + 6)), (1, .ref (B + 1)), (2, .int op), (3, .int se)]) C.x C.b dX1_begin_69 hl (k := 4) rfl (nI_1 k_22) (by decide) rfl (fun ls hl => ?_)
      refine lv_goto (tgt := 48) C.x C.b dX1_begin_72 (by decide) ?_
      exact ih_24 (k_22 + 1) g_47 _ _ _ (by omega) e_48 (fun j hj => (o_49 j (by omega)).trans (hf_25 j hj)) hS (lv_sub hl [1, 2, 3, 4, 0] rfl)
  have e_50 : g_1 (6 + 2) = .inl (t.1, 8, .inl mm) := (o_3 _ (by omega)).trans e2
  have e_51 : g_5 (6 + 2) = .inl (t.1, 8, .inl mm) := (o_7 _ (by omega)).trans e_50
  have e_52 : g_9 (6 + 2) = .inl (t.1, 8, .inl mm) := (o_11 _ (by omega)).trans e_51
  have e_53 : g_13 (6 + 2) = .inl (t.1, 8, .inl mm) := (o_15 _ (by omega)).trans e_52
  have e_54 : g_17 (6 + 2) = .inl (t.1, 8, .inl mm) := (o_19 _ (by omega)).trans e_53
  exact lp_20 8 0 g_17 _ _ _ (by omega) e_54 (fun _ _ => rfl) hS (lv_sub hl [1, 2, 3, 4, 0] rfl)
set_option maxHeartbeats 1000000 in
set_option maxRecDepth 100000 in
theorem c_X1_tellOf (l : Launch) (D : va_G) (t : Gx) (B N : Nat) (g : Nat → va_E) (rg mm : Nat → Int32) (pt : Int32) (ey wi ev : Int32) (i : Nat) (ep ew en ct ec : Nat → Int32) (len : Nat) (st vi an sp : Int32) (kd a b : Int32) (h6 : 8 < N) (hM : isMach t B g 6 rg mm pt) (hW : isWat g 5 ey wi ev) (h9 : 9 ≤ i) (hi : i + 5 < N) (hR : isRun t B g i ep ew en ct ec len st vi an sp) (hn : len < 40) : Cv l D t B N N 0 0 yX1_tellOf cX1_tellOf 7 1 23 g [.ref (B + 6), .int kd, .int a, .int b, .ref (B + 5), .ref (B + i)] (fun g' => isRun t B g' i (tuf (tlc kd ey wi) ep len pt) (tuf (tlc kd ey wi) ew len (what (tlc kd ey wi))) (tuf (tlc kd ey wi) en len (tnum (tlc kd ey wi) a b wi)) ct ec (tln (tlc kd ey wi) len) st vi an sp ∧ ∀ j, (j < i ∨ i + 5 < j) → g' j = g j) := by
  refine Cv.start (by decide) (Nat.le_of_ble_eq_true rfl) ?_
  intro p e s m below meth c ls C hr hlocks hnm hS hl
  replace C : Cx D t p s m [.ref (B + 6), .int kd, .int a, .int b, .ref (B + 5), .ref (B + i)].toArray c cX1_tellOf 7 RX1 := C
  replace hl : lv_has ls 7 [(0, .ref (B + 6)), (1, .int kd), (2, .int a), (3, .int b), (4, .ref (B + 5)), (5, .ref (B + i))] := hl
  obtain ⟨e0, e1, e2⟩ := hM
  obtain ⟨r0, r1, r2, r3, r4, r5⟩ := hR
  refine lv_iload_n C.x C.b dX1_tellOf_0 rfl (lv_at hl 1 rfl) ?_
  refine lv_iconst (v := 5) C.x C.b dX1_tellOf_1 (by decide) ?_
  refine lv_icmp_eq (tgt := 11) C.x C.b dX1_tellOf_2 (by decide) (fun c_1 => ?_) (fun c_1 => ?_)
  · skip
    refine lv_iconst (v := 1) C.x C.b dX1_tellOf_11 (by decide) ?_
    refine lv_goto (tgt := 16) C.x C.b dX1_tellOf_12 (by decide) ?_
    refine lv_istore (lv' := [(6, .int 1), (0, .ref (B + 6)), (1, .int kd), (2, .int a), (3, .int b), (4, .ref (B + 5)), (5, .ref (B + i))]) C.x C.b dX1_tellOf_16 hl (by decide) rfl (fun ls hl => ?_)
    refine lv_iload C.x C.b dX1_tellOf_18 (lv_at hl 0 rfl) ?_
    refine lv_if_eq (tgt := 61) C.x C.b dX1_tellOf_20 (by decide) (fun c_2 => absurd c_2 (by decide)) (fun c_2 => ?_)
    refine lv_aload C.x C.b dX1_tellOf_23 (lv_at hl 5 rfl) ?_
    refine r_get ck6 flX1_81 C hS (by omega) hW (by decide) rfl dX1_tellOf_25 ?_
    refine lv_iconst (v := 2) C.x C.b dX1_tellOf_28 (by decide) ?_
    refine lv_iand C.x C.b dX1_tellOf_29 ?_
    refine lv_if_eq (tgt := 61) C.x C.b dX1_tellOf_30 (by decide) (fun c_3 => ?_) (fun c_3 => ?_)
    · skip
      refine lv_iload_n C.x C.b dX1_tellOf_61 rfl (lv_at hl 2 rfl) ?_
      refine lv_bipush (v := 7) C.x C.b dX1_tellOf_62 (by decide) ?_
      refine lv_icmp_ne (tgt := 96) C.x C.b dX1_tellOf_64 (by decide) (fun c_4 => ?_) (fun c_4 => absurd c_4 (show ¬ kd = 7 by rw [c_1]; decide))
      have hw_5 : tlc kd ey wi = 0 := (if_neg (fun q => q.2.1 c_3)).trans (if_neg (fun q => absurd q.1 (show ¬ kd = 7 by rw [c_1]; decide)))
      exact r_vret C hr hlocks hS ⟨by rw [hw_5]; exact ⟨r0, r1, r2, r3, r4, r5⟩, fun _ _ => rfl⟩ dX1_tellOf_96
    · skip
      refine lv_aload C.x C.b dX1_tellOf_33 (lv_at hl 5 rfl) ?_
      refine r_get ck6 flX1_86 C hS (by omega) hW (by decide) rfl dX1_tellOf_35 ?_
      refine lv_if_le (tgt := 61) C.x C.b dX1_tellOf_38 (by decide) (fun c_6 => ?_) (fun c_6 => ?_)
      · skip
        refine lv_iload_n C.x C.b dX1_tellOf_61 rfl (lv_at hl 2 rfl) ?_
        refine lv_bipush (v := 7) C.x C.b dX1_tellOf_62 (by decide) ?_
        refine lv_icmp_ne (tgt := 96) C.x C.b dX1_tellOf_64 (by decide) (fun c_7 => ?_) (fun c_7 => absurd c_7 (show ¬ kd = 7 by rw [c_1]; decide))
        have hw_8 : tlc kd ey wi = 0 := (if_neg (fun q => q.2.2 c_6)).trans (if_neg (fun q => absurd q.1 (show ¬ kd = 7 by rw [c_1]; decide)))
        exact r_vret C hr hlocks hS ⟨by rw [hw_8]; exact ⟨r0, r1, r2, r3, r4, r5⟩, fun _ _ => rfl⟩ dX1_tellOf_96
      · skip
        refine lv_aload C.x C.b dX1_tellOf_41 (lv_at hl 6 rfl) ?_
        refine lv_aload_n C.x C.b dX1_tellOf_43 rfl (lv_at hl 1 rfl) ?_
        refine r_get ck1 flX1_18 C hS (by omega) e0 (by decide) rfl dX1_tellOf_44 ?_
        refine lv_iconst (v := 2) C.x C.b dX1_tellOf_47 (by decide) ?_
        refine lv_iload_n C.x C.b dX1_tellOf_48 rfl (lv_at hl 4 rfl) ?_
        refine lv_bipush (v := 7) C.x C.b dX1_tellOf_49 (by decide) ?_
        refine lv_iand C.x C.b dX1_tellOf_51 ?_
        refine lv_aload C.x C.b dX1_tellOf_52 (lv_at hl 5 rfl) ?_
        refine r_get ck6 flX1_86 C hS (by omega) hW (by decide) rfl dX1_tellOf_54 ?_
        refine lv_idiv C.x C.b dX1_tellOf_57 (fun q => c_6 (by rw [q]; decide)) ?_
        refine r_callVv (b := i) (As := [.int pt, .int 2, .int ((b &&& 7) / wi)]) (rest := []) (c_X5_tell l D t B N g i _ _ _ _ _ _ _ _ _ _ pt 2 ((b &&& 7) / wi) (by omega) ⟨r0, r1, r2, r3, r4, r5⟩ (by omega)) mf_yX5_tell mlX1_89 im_yX5_tell se_yX5_tell (by decide) C hS (by omega) r0 (show vwCl[5]? = some _ from rfl) rfl rfl hl.1 rfl (Nat.le_of_ble_eq_true rfl) dX1_tellOf_58 ⟨Nat.zero_le _, Nat.zero_le _⟩ (fun g_9 H locs w_10 hS => ?_)
        obtain ⟨⟨e_12, e_13, e_14, e_15, e_16, e_17⟩, hf_18⟩ := w_10
        refine lv_iload_n C.x C.b dX1_tellOf_61 rfl (lv_at hl 2 rfl) ?_
        refine lv_bipush (v := 7) C.x C.b dX1_tellOf_62 (by decide) ?_
        refine lv_icmp_ne (tgt := 96) C.x C.b dX1_tellOf_64 (by decide) (fun c_19 => ?_) (fun c_19 => absurd c_19 (show ¬ kd = 7 by rw [c_1]; decide))
        have hw_20 : tlc kd ey wi = 1 := if_pos ⟨Or.inl c_1, c_3, c_6⟩
        exact r_vret C hr hlocks hS ⟨by rw [hw_20]; exact ⟨e_12, e_13, e_14, e_15, e_16, e_17⟩, fun j hj => (hf_18 j (by omega))⟩ dX1_tellOf_96
  · skip
    refine lv_iload_n C.x C.b dX1_tellOf_5 rfl (lv_at hl 1 rfl) ?_
    refine lv_bipush (v := 6) C.x C.b dX1_tellOf_6 (by decide) ?_
    refine lv_icmp_ne (tgt := 15) C.x C.b dX1_tellOf_8 (by decide) (fun c_21 => ?_) (fun c_21 => ?_)
    · skip
      refine lv_iconst (v := 0) C.x C.b dX1_tellOf_15 (by decide) ?_
      refine lv_istore (lv' := [(6, .int 0), (0, .ref (B + 6)), (1, .int kd), (2, .int a), (3, .int b), (4, .ref (B + 5)), (5, .ref (B + i))]) C.x C.b dX1_tellOf_16 hl (by decide) rfl (fun ls hl => ?_)
      refine lv_iload C.x C.b dX1_tellOf_18 (lv_at hl 0 rfl) ?_
      refine lv_if_eq (tgt := 61) C.x C.b dX1_tellOf_20 (by decide) (fun c_22 => ?_) (fun c_22 => absurd (by decide) c_22)
      refine lv_iload_n C.x C.b dX1_tellOf_61 rfl (lv_at hl 2 rfl) ?_
      refine lv_bipush (v := 7) C.x C.b dX1_tellOf_62 (by decide) ?_
      refine lv_icmp_ne (tgt := 96) C.x C.b dX1_tellOf_64 (by decide) (fun c_23 => ?_) (fun c_23 => ?_)
      · skip
        have hw_24 : tlc kd ey wi = 0 := (if_neg (fun q => q.1.elim c_1 c_21)).trans (if_neg (fun q => c_23 q.1))
        exact r_vret C hr hlocks hS ⟨by rw [hw_24]; exact ⟨r0, r1, r2, r3, r4, r5⟩, fun _ _ => rfl⟩ dX1_tellOf_96
      · skip
        refine lv_aload C.x C.b dX1_tellOf_67 (lv_at hl 5 rfl) ?_
        refine r_get ck6 flX1_81 C hS (by omega) hW (by decide) rfl dX1_tellOf_69 ?_
        refine lv_iconst (v := 4) C.x C.b dX1_tellOf_72 (by decide) ?_
        refine lv_iand C.x C.b dX1_tellOf_73 ?_
        refine lv_if_eq (tgt := 96) C.x C.b dX1_tellOf_74 (by decide) (fun c_25 => ?_) (fun c_25 => ?_)
        · skip
          have hw_26 : tlc kd ey wi = 0 := (if_neg (fun q => q.1.elim c_1 c_21)).trans (if_neg (fun q => q.2 c_25))
          exact r_vret C hr hlocks hS ⟨by rw [hw_26]; exact ⟨r0, r1, r2, r3, r4, r5⟩, fun _ _ => rfl⟩ dX1_tellOf_96
        · skip
          refine lv_aload C.x C.b dX1_tellOf_77 (lv_at hl 6 rfl) ?_
          refine lv_aload_n C.x C.b dX1_tellOf_79 rfl (lv_at hl 1 rfl) ?_
          refine r_get ck1 flX1_18 C hS (by omega) e0 (by decide) rfl dX1_tellOf_80 ?_
          refine lv_iconst (v := 4) C.x C.b dX1_tellOf_83 (by decide) ?_
          refine lv_iload_n C.x C.b dX1_tellOf_84 rfl (lv_at hl 3 rfl) ?_
          refine lv_if_ne (tgt := 92) C.x C.b dX1_tellOf_85 (by decide) (fun c_27 => ?_) (fun c_27 => ?_)
          · skip
            refine lv_iconst (v := 0) C.x C.b dX1_tellOf_92 (by decide) ?_
            refine r_callVv (b := i) (As := [.int pt, .int 4, .int 0]) (rest := []) (c_X5_tell l D t B N g i _ _ _ _ _ _ _ _ _ _ pt 4 0 (by omega) ⟨r0, r1, r2, r3, r4, r5⟩ (by omega)) mf_yX5_tell mlX1_89 im_yX5_tell se_yX5_tell (by decide) C hS (by omega) r0 (show vwCl[5]? = some _ from rfl) rfl rfl hl.1 rfl (Nat.le_of_ble_eq_true rfl) dX1_tellOf_93 ⟨Nat.zero_le _, Nat.zero_le _⟩ (fun g_28 H locs w_29 hS => ?_)
            obtain ⟨⟨e_31, e_32, e_33, e_34, e_35, e_36⟩, hf_37⟩ := w_29
            have hw_38 : tlc kd ey wi = 2 := (if_neg (fun q => q.1.elim c_1 c_21)).trans (if_pos ⟨c_23, c_25⟩)
            have z_39 : tnum 2 a b wi = 0 := if_neg c_27
            exact r_vret C hr hlocks hS ⟨by rw [hw_38, z_39]; exact ⟨e_31, e_32, e_33, e_34, e_35, e_36⟩, fun j hj => (hf_37 j (by omega))⟩ dX1_tellOf_96
          · skip
            refine lv_iconst (v := 1) C.x C.b dX1_tellOf_88 (by decide) ?_
            refine lv_goto (tgt := 93) C.x C.b dX1_tellOf_89 (by decide) ?_
            refine r_callVv (b := i) (As := [.int pt, .int 4, .int 1]) (rest := []) (c_X5_tell l D t B N g i _ _ _ _ _ _ _ _ _ _ pt 4 1 (by omega) ⟨r0, r1, r2, r3, r4, r5⟩ (by omega)) mf_yX5_tell mlX1_89 im_yX5_tell se_yX5_tell (by decide) C hS (by omega) r0 (show vwCl[5]? = some _ from rfl) rfl rfl hl.1 rfl (Nat.le_of_ble_eq_true rfl) dX1_tellOf_93 ⟨Nat.zero_le _, Nat.zero_le _⟩ (fun g_40 H locs w_41 hS => ?_)
            obtain ⟨⟨e_43, e_44, e_45, e_46, e_47, e_48⟩, hf_49⟩ := w_41
            have hw_50 : tlc kd ey wi = 2 := (if_neg (fun q => q.1.elim c_1 c_21)).trans (if_pos ⟨c_23, c_25⟩)
            have z_51 : tnum 2 a b wi = 1 := if_pos c_27
            exact r_vret C hr hlocks hS ⟨by rw [hw_50, z_51]; exact ⟨e_43, e_44, e_45, e_46, e_47, e_48⟩, fun j hj => (hf_49 j (by omega))⟩ dX1_tellOf_96
    · skip
      refine lv_iconst (v := 1) C.x C.b dX1_tellOf_11 (by decide) ?_
      refine lv_goto (tgt := 16) C.x C.b dX1_tellOf_12 (by decide) ?_
      refine lv_istore (lv' := [(6, .int 1), (0, .ref (B + 6)), (1, .int kd), (2, .int a), (3, .int b), (4, .ref (B + 5)), (5, .ref (B + i))]) C.x C.b dX1_tellOf_16 hl (by decide) rfl (fun ls hl => ?_)
      refine lv_iload C.x C.b dX1_tellOf_18 (lv_at hl 0 rfl) ?_
      refine lv_if_eq (tgt := 61) C.x C.b dX1_tellOf_20 (by decide) (fun c_52 => absurd c_52 (by decide)) (fun c_52 => ?_)
      refine lv_aload C.x C.b dX1_tellOf_23 (lv_at hl 5 rfl) ?_
      refine r_get ck6 flX1_81 C hS (by omega) hW (by decide) rfl dX1_tellOf_25 ?_
      refine lv_iconst (v := 2) C.x C.b dX1_tellOf_28 (by decide) ?_
      refine lv_iand C.x C.b dX1_tellOf_29 ?_
      refine lv_if_eq (tgt := 61) C.x C.b dX1_tellOf_30 (by decide) (fun c_53 => ?_) (fun c_53 => ?_)
      · skip
        refine lv_iload_n C.x C.b dX1_tellOf_61 rfl (lv_at hl 2 rfl) ?_
        refine lv_bipush (v := 7) C.x C.b dX1_tellOf_62 (by decide) ?_
        refine lv_icmp_ne (tgt := 96) C.x C.b dX1_tellOf_64 (by decide) (fun c_54 => ?_) (fun c_54 => absurd c_54 (show ¬ kd = 7 by rw [c_21]; decide))
        have hw_55 : tlc kd ey wi = 0 := (if_neg (fun q => q.2.1 c_53)).trans (if_neg (fun q => absurd q.1 (show ¬ kd = 7 by rw [c_21]; decide)))
        exact r_vret C hr hlocks hS ⟨by rw [hw_55]; exact ⟨r0, r1, r2, r3, r4, r5⟩, fun _ _ => rfl⟩ dX1_tellOf_96
      · skip
        refine lv_aload C.x C.b dX1_tellOf_33 (lv_at hl 5 rfl) ?_
        refine r_get ck6 flX1_86 C hS (by omega) hW (by decide) rfl dX1_tellOf_35 ?_
        refine lv_if_le (tgt := 61) C.x C.b dX1_tellOf_38 (by decide) (fun c_56 => ?_) (fun c_56 => ?_)
        · skip
          refine lv_iload_n C.x C.b dX1_tellOf_61 rfl (lv_at hl 2 rfl) ?_
          refine lv_bipush (v := 7) C.x C.b dX1_tellOf_62 (by decide) ?_
          refine lv_icmp_ne (tgt := 96) C.x C.b dX1_tellOf_64 (by decide) (fun c_57 => ?_) (fun c_57 => absurd c_57 (show ¬ kd = 7 by rw [c_21]; decide))
          have hw_58 : tlc kd ey wi = 0 := (if_neg (fun q => q.2.2 c_56)).trans (if_neg (fun q => absurd q.1 (show ¬ kd = 7 by rw [c_21]; decide)))
          exact r_vret C hr hlocks hS ⟨by rw [hw_58]; exact ⟨r0, r1, r2, r3, r4, r5⟩, fun _ _ => rfl⟩ dX1_tellOf_96
        · skip
          refine lv_aload C.x C.b dX1_tellOf_41 (lv_at hl 6 rfl) ?_
          refine lv_aload_n C.x C.b dX1_tellOf_43 rfl (lv_at hl 1 rfl) ?_
          refine r_get ck1 flX1_18 C hS (by omega) e0 (by decide) rfl dX1_tellOf_44 ?_
          refine lv_iconst (v := 2) C.x C.b dX1_tellOf_47 (by decide) ?_
          refine lv_iload_n C.x C.b dX1_tellOf_48 rfl (lv_at hl 4 rfl) ?_
          refine lv_bipush (v := 7) C.x C.b dX1_tellOf_49 (by decide) ?_
          refine lv_iand C.x C.b dX1_tellOf_51 ?_
          refine lv_aload C.x C.b dX1_tellOf_52 (lv_at hl 5 rfl) ?_
          refine r_get ck6 flX1_86 C hS (by omega) hW (by decide) rfl dX1_tellOf_54 ?_
          refine lv_idiv C.x C.b dX1_tellOf_57 (fun q => c_56 (by rw [q]; decide)) ?_
          refine r_callVv (b := i) (As := [.int pt, .int 2, .int ((b &&& 7) / wi)]) (rest := []) (c_X5_tell l D t B N g i _ _ _ _ _ _ _ _ _ _ pt 2 ((b &&& 7) / wi) (by omega) ⟨r0, r1, r2, r3, r4, r5⟩ (by omega)) mf_yX5_tell mlX1_89 im_yX5_tell se_yX5_tell (by decide) C hS (by omega) r0 (show vwCl[5]? = some _ from rfl) rfl rfl hl.1 rfl (Nat.le_of_ble_eq_true rfl) dX1_tellOf_58 ⟨Nat.zero_le _, Nat.zero_le _⟩ (fun g_59 H locs w_60 hS => ?_)
          obtain ⟨⟨e_62, e_63, e_64, e_65, e_66, e_67⟩, hf_68⟩ := w_60
          refine lv_iload_n C.x C.b dX1_tellOf_61 rfl (lv_at hl 2 rfl) ?_
          refine lv_bipush (v := 7) C.x C.b dX1_tellOf_62 (by decide) ?_
          refine lv_icmp_ne (tgt := 96) C.x C.b dX1_tellOf_64 (by decide) (fun c_69 => ?_) (fun c_69 => absurd c_69 (show ¬ kd = 7 by rw [c_21]; decide))
          have hw_70 : tlc kd ey wi = 1 := if_pos ⟨Or.inr c_21, c_53, c_56⟩
          exact r_vret C hr hlocks hS ⟨by rw [hw_70]; exact ⟨e_62, e_63, e_64, e_65, e_66, e_67⟩, fun j hj => (hf_68 j (by omega))⟩ dX1_tellOf_96
end
section
def kdF (x : Int32) : Int32 := x >>> (12 &&& 31)
def aF (x : Int32) : Nat := lo2 (x >>> (8 &&& 31))
def bF (x : Int32) : Nat := lo2 (x >>> (4 &&& 31))
def cF (x : Int32) : Int32 := x &&& 15
def costF (kd b : Int32) : Int32 := if kd = 4 then 1 + (32 - nlzF b) else 1
def ecoF (kd : Int32) : Int32 := if kd = 4 then 33 else 1
/-- the machine and the run that it writes: registers, memory, place; events, costs, how many events, steps, places come to -/
abbrev GS : Type := (Nat → Int32) × (Nat → Int32) × Int32 × (Nat → Int32) × (Nat → Int32) × (Nat → Int32) × (Nat → Int32) × (Nat → Int32) × Nat × Int32 × Int32
def gst (ey wi : Int32) (h : Nat) (x : Int32) : GS → GS
  | (rg, mm, _, ep, ew, en, ct, ec, len, st, vi) => (workR (kdF x) (aF x) (rg (bF x)) (cF x) rg mm, workM (kdF x) (aF x) (rg (bF x)) rg mm, nextF (kdF x) (rg (aF x)) (cF x) (nI h), tuf (tlc (kdF x) ey wi) ep len (nI h), tuf (tlc (kdF x) ey wi) ew len (what (tlc (kdF x) ey wi)), tuf (tlc (kdF x) ey wi) en len (tnum (tlc (kdF x) ey wi) (rg (aF x)) (rg (bF x)) wi), upd ct h (ct h + costF (kdF x) (rg (bF x))), upd ec h (ec h + ecoF (kdF x)), tln (tlc (kdF x) ey wi) len, st + 1, vi ||| (1 <<< (nI h &&& 31)))
/-- at most k steps -/
def gor (o : Nat → Int32) (n : Nat) (ey wi : Int32) : Nat → GS → GS
  | 0, S => S
  | k + 1, S => if inP n S.2.2.1 then gor o n ey wi k (gst ey wi S.2.2.1.toNatClampNeg (o S.2.2.1.toNatClampNeg) S) else S
theorem inP_nI {n : Nat} {x : Int32} (h : inP n x) (hn : n < 2 ^ 31) : ∃ q, q < n ∧ x = nI q := by
  obtain ⟨j, h1, h2, -⟩ := pk_mu h.1 h.2 hn
  exact ⟨j, h1, h2⟩
theorem inP_of {n q : Nat} (h : q < n) (hn : n < 2 ^ 31) : inP n (nI q) := ⟨nI_pos (by omega), nI_ge h hn⟩
theorem gor_step {o : Nat → Int32} {n : Nat} {ey wi : Int32} {k q : Nat} {rg mm ep ew en ct ec : Nat → Int32} {len : Nat} {st vi : Int32} (hq : q < n) (hn : n ≤ 8 := by omega) : gor o n ey wi (k + 1) (rg, mm, nI q, ep, ew, en, ct, ec, len, st, vi) = gor o n ey wi k (gst ey wi q (o q) (rg, mm, nI q, ep, ew, en, ct, ec, len, st, vi)) := by
  rw [gor, if_pos (inP_of hq (by omega))]
  show gor o n ey wi k (gst ey wi (nI q).toNatClampNeg (o (nI q).toNatClampNeg) _) = _
  rw [nI_clamp (by omega)]
theorem gor_stop {o : Nat → Int32} {n : Nat} {ey wi : Int32} {k : Nat} {S : GS} (h : ¬ inP n S.2.2.1) : gor o n ey wi (k + 1) S = S := by
  rw [gor, if_neg h]
theorem tln_le (w : Nat) {a k : Nat} (h : a ≤ k) : tln w a ≤ k + 1 := by
  cases w with
  | zero => show a ≤ k + 1; omega
  | succ w => show a + 1 ≤ k + 1; omega
def viF (n : Nat) (pt vi : Int32) : Int32 := if inP n pt then vi ||| (1 <<< (pt &&& 31)) else vi
theorem viF_t {n : Nat} {pt vi : Int32} (h : inP n pt) : viF n pt vi = vi ||| (1 <<< (pt &&& 31)) := if_pos h
theorem viF_f {n : Nat} {pt vi : Int32} (h : ¬ inP n pt) : viF n pt vi = vi := if_neg h
/-- the machine and the run at i, behind a run's end in S -/
def goP (t : Gx) (B : Nat) (g : Nat → va_E) (i n : Nat) (S : GS) : Prop := isMach t B g 6 S.1 S.2.1 S.2.2.1 ∧ isRun t B g i S.2.2.2.1 S.2.2.2.2.1 S.2.2.2.2.2.1 S.2.2.2.2.2.2.1 S.2.2.2.2.2.2.2.1 S.2.2.2.2.2.2.2.2.1 S.2.2.2.2.2.2.2.2.2.1 (viF n S.2.2.1 S.2.2.2.2.2.2.2.2.2.2) (S.1 0) (bz (inP n S.2.2.1))
set_option maxHeartbeats 1000000 in
set_option maxRecDepth 100000 in
theorem c_X1_doOrder (l : Launch) (D : va_G) (t : Gx) (B N : Nat) (g : Nat → va_E) (rg mm : Nat → Int32) (h : Nat) (ey wi ev : Int32) (i : Nat) (ep ew en ct ec : Nat → Int32) (len : Nat) (st vi an sp : Int32) (x : Int32) (h6 : 8 < N) (hM : isMach t B g 6 rg mm (nI h)) (hW : isWat g 5 ey wi ev) (h9 : 9 ≤ i) (hi : i + 5 < N) (hR : isRun t B g i ep ew en ct ec len st vi an sp) (hn : len < 40) (hh : h < 8) : Cv l D t B N N 0 0 yX1_doOrder cX1_doOrder 10 2 49 g [.ref (B + 6), .int x, .ref (B + 5), .ref (B + i)] (fun g' => isMach t B g' 6 (workR (kdF x) (aF x) (rg (bF x)) (cF x) rg mm) (workM (kdF x) (aF x) (rg (bF x)) rg mm) (nextF (kdF x) (rg (aF x)) (cF x) (nI h)) ∧ isRun t B g' i (tuf (tlc (kdF x) ey wi) ep len (nI h)) (tuf (tlc (kdF x) ey wi) ew len (what (tlc (kdF x) ey wi))) (tuf (tlc (kdF x) ey wi) en len (tnum (tlc (kdF x) ey wi) (rg (aF x)) (rg (bF x)) wi)) (upd ct h (ct h + costF (kdF x) (rg (bF x)))) (upd ec h (ec h + ecoF (kdF x))) (tln (tlc (kdF x) ey wi) len) st vi an sp ∧ ∀ j, (j < 6 ∨ (8 < j ∧ (j < i ∨ i + 5 < j))) → g' j = g j) := by
  refine Cv.start (by decide) (Nat.le_of_ble_eq_true rfl) ?_
  intro p e s m below meth c ls C hr hlocks hnm hS hl
  replace C : Cx D t p s m [.ref (B + 6), .int x, .ref (B + 5), .ref (B + i)].toArray c cX1_doOrder 10 RX1 := C
  replace hl : lv_has ls 10 [(0, .ref (B + 6)), (1, .int x), (2, .ref (B + 5)), (3, .ref (B + i))] := hl
  obtain ⟨e0, e1, e2⟩ := hM
  obtain ⟨r0, r1, r2, r3, r4, r5⟩ := hR
  refine lv_aload_n C.x C.b dX1_doOrder_0 rfl (lv_at hl 0 rfl) ?_
  refine r_get ck1 flX1_18 C hS (by omega) e0 (by decide) rfl dX1_doOrder_1 ?_
  refine lv_istore (lv' := [(4, .int (nI h)), (0, .ref (B + 6)), (1, .int x), (2, .ref (B + 5)), (3, .ref (B + i))]) C.x C.b dX1_doOrder_4 hl (by decide) rfl (fun ls hl => ?_)
  refine lv_iload_n C.x C.b dX1_doOrder_6 rfl (lv_at hl 2 rfl) ?_
  refine lv_bipush (v := 12) C.x C.b dX1_doOrder_7 (by decide) ?_
  refine lv_ishr C.x C.b dX1_doOrder_9 ?_
  refine r_top (y := (kdF x)) (rfl) ?_
  refine lv_istore (lv' := [(5, .int (kdF x)), (4, .int (nI h)), (0, .ref (B + 6)), (1, .int x), (2, .ref (B + 5)), (3, .ref (B + i))]) C.x C.b dX1_doOrder_10 hl (by decide) rfl (fun ls hl => ?_)
  refine lv_iload_n C.x C.b dX1_doOrder_12 rfl (lv_at hl 3 rfl) ?_
  refine lv_bipush (v := 8) C.x C.b dX1_doOrder_13 (by decide) ?_
  refine lv_ishr C.x C.b dX1_doOrder_15 ?_
  refine lv_iconst (v := 3) C.x C.b dX1_doOrder_16 (by decide) ?_
  refine lv_iand C.x C.b dX1_doOrder_17 ?_
  refine r_top (y := nI (aF x)) (lo2_eq _) ?_
  have ha : aF x < 4 := lo2_lt _
  refine lv_istore (lv' := [(6, .int (nI (aF x))), (5, .int (kdF x)), (4, .int (nI h)), (0, .ref (B + 6)), (1, .int x), (2, .ref (B + 5)), (3, .ref (B + i))]) C.x C.b dX1_doOrder_18 hl (by decide) rfl (fun ls hl => ?_)
  refine lv_aload_n C.x C.b dX1_doOrder_20 rfl (lv_at hl 3 rfl) ?_
  refine r_get ck1 flX1_9 C hS (by omega) e0 (by decide) rfl dX1_doOrder_21 ?_
  refine lv_iload_n C.x C.b dX1_doOrder_24 rfl (lv_at hl 4 rfl) ?_
  refine lv_iconst (v := 4) C.x C.b dX1_doOrder_25 (by decide) ?_
  refine lv_ishr C.x C.b dX1_doOrder_26 ?_
  refine lv_iconst (v := 3) C.x C.b dX1_doOrder_27 (by decide) ?_
  refine lv_iand C.x C.b dX1_doOrder_28 ?_
  refine r_top (y := nI (bF x)) (lo2_eq _) ?_
  have hb : bF x < 4 := lo2_lt _
  refine r_ialdN (bF x) rfl (by omega) (by decide) C hS (by omega) e1 dX1_doOrder_29 ?_
  refine lv_istore (lv' := [(7, .int (rg (bF x))), (6, .int (nI (aF x))), (5, .int (kdF x)), (4, .int (nI h)), (0, .ref (B + 6)), (1, .int x), (2, .ref (B + 5)), (3, .ref (B + i))]) C.x C.b dX1_doOrder_30 hl (by decide) rfl (fun ls hl => ?_)
  refine lv_iload_n C.x C.b dX1_doOrder_32 rfl (lv_at hl 5 rfl) ?_
  refine lv_bipush (v := 15) C.x C.b dX1_doOrder_33 (by decide) ?_
  refine lv_iand C.x C.b dX1_doOrder_35 ?_
  refine r_top (y := (cF x)) (rfl) ?_
  refine lv_istore (lv' := [(8, .int (cF x)), (7, .int (rg (bF x))), (6, .int (nI (aF x))), (5, .int (kdF x)), (4, .int (nI h)), (0, .ref (B + 6)), (1, .int x), (2, .ref (B + 5)), (3, .ref (B + i))]) C.x C.b dX1_doOrder_36 hl (by decide) rfl (fun ls hl => ?_)
  refine lv_iload C.x C.b dX1_doOrder_38 (lv_at hl 3 rfl) ?_
  refine lv_iconst (v := 4) C.x C.b dX1_doOrder_40 (by decide) ?_
  refine lv_icmp_ne (tgt := 48) C.x C.b dX1_doOrder_41 (by decide) (fun c_1 => ?_) (fun c_1 => ?_)
  · skip
    refine lv_iconst (v := 0) C.x C.b dX1_doOrder_48 (by decide) ?_
    refine lv_istore (lv' := [(9, .int 0), (8, .int (cF x)), (7, .int (rg (bF x))), (6, .int (nI (aF x))), (5, .int (kdF x)), (4, .int (nI h)), (0, .ref (B + 6)), (1, .int x), (2, .ref (B + 5)), (3, .ref (B + i))]) C.x C.b dX1_doOrder_49 hl (by decide) rfl (fun ls hl => ?_)
    refine lv_aload_n C.x C.b dX1_doOrder_51 rfl (lv_at hl 9 rfl) ?_
    refine r_get ck5 flX1_59 C hS (by omega) r0 (by decide) rfl dX1_doOrder_52 ?_
    refine lv_iload C.x C.b dX1_doOrder_55 (lv_at hl 5 rfl) ?_
    refine lv_dup2_11 C.x C.b dX1_doOrder_57 rfl rfl ?_
    refine r_ialdN h rfl (by omega) (by decide) C hS (by omega) r4 dX1_doOrder_58 ?_
    refine lv_iload C.x C.b dX1_doOrder_59 (lv_at hl 0 rfl) ?_
    refine lv_if_eq (tgt := 74) C.x C.b dX1_doOrder_61 (by decide) (fun c_2 => ?_) (fun c_2 => absurd (by decide) c_2)
    refine lv_iconst (v := 1) C.x C.b dX1_doOrder_74 (by decide) ?_
    refine lv_iadd C.x C.b dX1_doOrder_75 ?_
    refine r_iastN h rfl (by omega) (by decide) C hS (by omega) r4 dX1_doOrder_76 (fun g_3 H locs e_4 o_5 hS => ?_)
    replace e_4 : g_3 (i + 4) = .inl (t.1, 8, .inl (upd ct h ((ct h) + 1))) := e_4
    refine lv_aload_n C.x C.b dX1_doOrder_77 rfl (lv_at hl 9 rfl) ?_
    have e_6 : g_3 i = .inr (5, [.ref (B + (i + 1)), .ref (B + (i + 2)), .ref (B + (i + 3)), .ref (B + (i + 4)), .ref (B + (i + 5)), .int (nI len), .int st, .int vi, .int an, .int sp]) := (o_5 _ (by omega)).trans r0
    refine r_get ck5 flX1_66 C hS (by omega) e_6 (by decide) rfl dX1_doOrder_78 ?_
    refine lv_iload C.x C.b dX1_doOrder_81 (lv_at hl 5 rfl) ?_
    refine lv_dup2_11 C.x C.b dX1_doOrder_83 rfl rfl ?_
    have e_7 : g_3 (i + 5) = .inl (t.1, 8, .inl ec) := (o_5 _ (by omega)).trans r5
    refine r_ialdN h rfl (by omega) (by decide) C hS (by omega) e_7 dX1_doOrder_84 ?_
    refine lv_iload C.x C.b dX1_doOrder_85 (lv_at hl 0 rfl) ?_
    refine lv_if_eq (tgt := 95) C.x C.b dX1_doOrder_87 (by decide) (fun c_8 => ?_) (fun c_8 => absurd (by decide) c_8)
    refine lv_iconst (v := 1) C.x C.b dX1_doOrder_95 (by decide) ?_
    refine lv_iadd C.x C.b dX1_doOrder_96 ?_
    refine r_iastN h rfl (by omega) (by decide) C hS (by omega) e_7 dX1_doOrder_97 (fun g_9 H locs e_10 o_11 hS => ?_)
    replace e_10 : g_9 (i + 5) = .inl (t.1, 8, .inl (upd ec h ((ec h) + 1))) := e_10
    refine lv_aload_n C.x C.b dX1_doOrder_98 rfl (lv_at hl 6 rfl) ?_
    refine lv_iload C.x C.b dX1_doOrder_99 (lv_at hl 4 rfl) ?_
    refine lv_aload_n C.x C.b dX1_doOrder_101 rfl (lv_at hl 6 rfl) ?_
    have e_12 : g_3 6 = .inr (1, [.ref (B + (6 + 1)), .ref (B + (6 + 2)), .int (nI h)]) := (o_5 _ (by omega)).trans e0
    have e_13 : g_9 6 = .inr (1, [.ref (B + (6 + 1)), .ref (B + (6 + 2)), .int (nI h)]) := (o_11 _ (by omega)).trans e_12
    refine r_get ck1 flX1_9 C hS (by omega) e_13 (by decide) rfl dX1_doOrder_102 ?_
    refine lv_iload C.x C.b dX1_doOrder_105 (lv_at hl 3 rfl) ?_
    have e_14 : g_3 (6 + 1) = .inl (t.1, 4, .inl rg) := (o_5 _ (by omega)).trans e1
    have e_15 : g_9 (6 + 1) = .inl (t.1, 4, .inl rg) := (o_11 _ (by omega)).trans e_14
    refine r_ialdN (aF x) rfl (by omega) (by decide) C hS (by omega) e_15 dX1_doOrder_107 ?_
    refine lv_iload C.x C.b dX1_doOrder_108 (lv_at hl 2 rfl) ?_
    refine lv_aload_n C.x C.b dX1_doOrder_110 rfl (lv_at hl 8 rfl) ?_
    refine lv_aload_n C.x C.b dX1_doOrder_111 rfl (lv_at hl 9 rfl) ?_
    have e_16 : g_3 (6 + 2) = .inl (t.1, 8, .inl mm) := (o_5 _ (by omega)).trans e2
    have e_17 : g_9 (6 + 2) = .inl (t.1, 8, .inl mm) := (o_11 _ (by omega)).trans e_16
    have e_18 : g_3 5 = .inr (6, [.int ey, .int wi, .int ev]) := (o_5 _ (by omega)).trans hW
    have e_19 : g_9 5 = .inr (6, [.int ey, .int wi, .int ev]) := (o_11 _ (by omega)).trans e_18
    have e_20 : g_9 i = .inr (5, [.ref (B + (i + 1)), .ref (B + (i + 2)), .ref (B + (i + 3)), .ref (B + (i + 4)), .ref (B + (i + 5)), .int (nI len), .int st, .int vi, .int an, .int sp]) := (o_11 _ (by omega)).trans e_6
    have e_21 : g_3 (i + 1) = .inl (t.1, 40, .inl ep) := (o_5 _ (by omega)).trans r1
    have e_22 : g_9 (i + 1) = .inl (t.1, 40, .inl ep) := (o_11 _ (by omega)).trans e_21
    have e_23 : g_3 (i + 2) = .inl (t.1, 40, .inl ew) := (o_5 _ (by omega)).trans r2
    have e_24 : g_9 (i + 2) = .inl (t.1, 40, .inl ew) := (o_11 _ (by omega)).trans e_23
    have e_25 : g_3 (i + 3) = .inl (t.1, 40, .inl en) := (o_5 _ (by omega)).trans r3
    have e_26 : g_9 (i + 3) = .inl (t.1, 40, .inl en) := (o_11 _ (by omega)).trans e_25
    have e_27 : g_9 (i + 4) = .inl (t.1, 8, .inl (upd ct h ((ct h) + 1))) := (o_11 _ (by omega)).trans e_4
    refine r_callVv (b := 6) (As := [.int (kdF x), .int (rg (aF x)), .int (rg (bF x)), .ref (B + 5), .ref (B + i)]) (rest := []) (c_X1_tellOf l D t B N g_9 _ _ _ _ _ _ i _ _ _ _ _ _ _ _ _ _ (kdF x) (rg (aF x)) (rg (bF x)) (by omega) ⟨e_13, e_15, e_17⟩ e_19 (by omega) (by omega) ⟨e_20, e_22, e_24, e_26, e_27, e_10⟩ (by omega)) mf_yX1_tellOf mlX1_69 im_yX1_tellOf se_yX1_tellOf (by decide) C hS (by omega) e_13 (show vwCl[1]? = some _ from rfl) rfl rfl hl.1 rfl (Nat.le_of_ble_eq_true rfl) dX1_doOrder_112 ⟨Nat.zero_le _, Nat.zero_le _⟩ (fun g_28 H locs w_29 hS => ?_)
    obtain ⟨⟨e_31, e_32, e_33, e_34, e_35, e_36⟩, hf_37⟩ := w_29
    refine lv_aload_n C.x C.b dX1_doOrder_115 rfl (lv_at hl 6 rfl) ?_
    refine lv_aload_n C.x C.b dX1_doOrder_116 rfl (lv_at hl 6 rfl) ?_
    refine lv_iload C.x C.b dX1_doOrder_117 (lv_at hl 4 rfl) ?_
    refine lv_aload_n C.x C.b dX1_doOrder_119 rfl (lv_at hl 6 rfl) ?_
    have e_38 : g_28 6 = .inr (1, [.ref (B + (6 + 1)), .ref (B + (6 + 2)), .int (nI h)]) := (hf_37 _ (by omega)).trans e_13
    refine r_get ck1 flX1_9 C hS (by omega) e_38 (by decide) rfl dX1_doOrder_120 ?_
    refine lv_iload C.x C.b dX1_doOrder_123 (lv_at hl 3 rfl) ?_
    have e_39 : g_28 (6 + 1) = .inl (t.1, 4, .inl rg) := (hf_37 _ (by omega)).trans e_15
    refine r_ialdN (aF x) rfl (by omega) (by decide) C hS (by omega) e_39 dX1_doOrder_125 ?_
    refine lv_iload C.x C.b dX1_doOrder_126 (lv_at hl 1 rfl) ?_
    have e_40 : g_28 (6 + 2) = .inl (t.1, 8, .inl mm) := (hf_37 _ (by omega)).trans e_17
    refine r_callV (b := 6) (As := [.int (kdF x), .int (rg (aF x)), .int (cF x)]) (rest := [.ref (B + 6)]) (c_X1_next l D t B N g_28 _ _ _ (kdF x) (rg (aF x)) (cF x) (by omega) ⟨e_38, e_39, e_40⟩) mf_yX1_next mlX1_73 im_yX1_next se_yX1_next (by decide) C hS (by omega) e_38 (show vwCl[1]? = some _ from rfl) rfl rfl hl.1 rfl (Nat.le_of_ble_eq_true rfl) dX1_doOrder_128 ⟨Nat.zero_le _, Nat.zero_le _⟩ (fun r_43 g_41 H locs w_42 hS => ?_)
    obtain ⟨rfl, er_43⟩ := w_42
    subst er_43
    refine r_put ck1 flX1_18 C hS (by omega) e_38 (by decide) rfl rfl rfl (Nat.le_of_ble_eq_true rfl) dX1_doOrder_131 (fun g_44 H locs e_45 o_46 hS => ?_)
    replace e_45 : g_44 6 = .inr (1, [.ref (B + (6 + 1)), .ref (B + (6 + 2)), .int (nextF (kdF x) (rg (aF x)) (cF x) (nI h))]) := e_45
    refine lv_aload_n C.x C.b dX1_doOrder_134 rfl (lv_at hl 6 rfl) ?_
    refine lv_iload C.x C.b dX1_doOrder_135 (lv_at hl 4 rfl) ?_
    refine lv_iload C.x C.b dX1_doOrder_137 (lv_at hl 3 rfl) ?_
    refine lv_iload C.x C.b dX1_doOrder_139 (lv_at hl 2 rfl) ?_
    refine lv_iload C.x C.b dX1_doOrder_141 (lv_at hl 1 rfl) ?_
    have e_47 : g_44 (6 + 1) = .inl (t.1, 4, .inl rg) := (o_46 _ (by omega)).trans e_39
    have e_48 : g_44 (6 + 2) = .inl (t.1, 8, .inl mm) := (o_46 _ (by omega)).trans e_40
    refine r_callVv (b := 6) (As := [.int (kdF x), .int (nI (aF x)), .int (rg (bF x)), .int (cF x)]) (rest := []) (c_X1_work l D t B N g_44 _ _ _ (kdF x) (aF x) (rg (bF x)) (cF x) (by omega) ⟨e_45, e_47, e_48⟩ (lo2_lt _)) mf_yX1_work mlX1_77 im_yX1_work se_yX1_work (by decide) C hS (by omega) e_45 (show vwCl[1]? = some _ from rfl) rfl rfl hl.1 rfl (Nat.le_of_ble_eq_true rfl) dX1_doOrder_143 ⟨Nat.zero_le _, Nat.zero_le _⟩ (fun g_49 H locs w_50 hS => ?_)
    obtain ⟨⟨e_52, e_53, e_54⟩, hf_55⟩ := w_50
    have e_56 : g_44 i = .inr (5, [.ref (B + (i + 1)), .ref (B + (i + 2)), .ref (B + (i + 3)), .ref (B + (i + 4)), .ref (B + (i + 5)), .int (nI (tln (tlc (kdF x) ey wi) len)), .int st, .int vi, .int an, .int sp]) := (o_46 _ (by omega)).trans e_31
    have e_57 : g_49 i = .inr (5, [.ref (B + (i + 1)), .ref (B + (i + 2)), .ref (B + (i + 3)), .ref (B + (i + 4)), .ref (B + (i + 5)), .int (nI (tln (tlc (kdF x) ey wi) len)), .int st, .int vi, .int an, .int sp]) := (hf_55 _ (by omega)).trans e_56
    have e_58 : g_44 (i + 1) = .inl (t.1, 40, .inl (tuf (tlc (kdF x) ey wi) ep len (nI h))) := (o_46 _ (by omega)).trans e_32
    have e_59 : g_49 (i + 1) = .inl (t.1, 40, .inl (tuf (tlc (kdF x) ey wi) ep len (nI h))) := (hf_55 _ (by omega)).trans e_58
    have e_60 : g_44 (i + 2) = .inl (t.1, 40, .inl (tuf (tlc (kdF x) ey wi) ew len (what (tlc (kdF x) ey wi)))) := (o_46 _ (by omega)).trans e_33
    have e_61 : g_49 (i + 2) = .inl (t.1, 40, .inl (tuf (tlc (kdF x) ey wi) ew len (what (tlc (kdF x) ey wi)))) := (hf_55 _ (by omega)).trans e_60
    have e_62 : g_44 (i + 3) = .inl (t.1, 40, .inl (tuf (tlc (kdF x) ey wi) en len (tnum (tlc (kdF x) ey wi) (rg (aF x)) (rg (bF x)) wi))) := (o_46 _ (by omega)).trans e_34
    have e_63 : g_49 (i + 3) = .inl (t.1, 40, .inl (tuf (tlc (kdF x) ey wi) en len (tnum (tlc (kdF x) ey wi) (rg (aF x)) (rg (bF x)) wi))) := (hf_55 _ (by omega)).trans e_62
    have e_64 : g_44 (i + 4) = .inl (t.1, 8, .inl (upd ct h ((ct h) + 1))) := (o_46 _ (by omega)).trans e_35
    have e_65 : g_49 (i + 4) = .inl (t.1, 8, .inl (upd ct h ((ct h) + 1))) := (hf_55 _ (by omega)).trans e_64
    have e_66 : g_44 (i + 5) = .inl (t.1, 8, .inl (upd ec h ((ec h) + 1))) := (o_46 _ (by omega)).trans e_36
    have e_67 : g_49 (i + 5) = .inl (t.1, 8, .inl (upd ec h ((ec h) + 1))) := (hf_55 _ (by omega)).trans e_66
    exact r_vret C hr hlocks hS ⟨⟨e_52, e_53, e_54⟩, by rw [costF, ecoF, if_neg c_1, if_neg c_1]; exact ⟨e_57, e_59, e_61, e_63, e_65, e_67⟩, fun j hj => (hf_55 j (by omega)).trans ((o_46 j (by omega)).trans ((hf_37 j (by omega)).trans ((o_11 j (by omega)).trans (o_5 j (by omega)))))⟩ dX1_doOrder_146
  · skip
    refine lv_iconst (v := 1) C.x C.b dX1_doOrder_44 (by decide) ?_
    refine lv_goto (tgt := 49) C.x C.b dX1_doOrder_45 (by decide) ?_
    refine lv_istore (lv' := [(9, .int 1), (8, .int (cF x)), (7, .int (rg (bF x))), (6, .int (nI (aF x))), (5, .int (kdF x)), (4, .int (nI h)), (0, .ref (B + 6)), (1, .int x), (2, .ref (B + 5)), (3, .ref (B + i))]) C.x C.b dX1_doOrder_49 hl (by decide) rfl (fun ls hl => ?_)
    refine lv_aload_n C.x C.b dX1_doOrder_51 rfl (lv_at hl 9 rfl) ?_
    refine r_get ck5 flX1_59 C hS (by omega) r0 (by decide) rfl dX1_doOrder_52 ?_
    refine lv_iload C.x C.b dX1_doOrder_55 (lv_at hl 5 rfl) ?_
    refine lv_dup2_11 C.x C.b dX1_doOrder_57 rfl rfl ?_
    refine r_ialdN h rfl (by omega) (by decide) C hS (by omega) r4 dX1_doOrder_58 ?_
    refine lv_iload C.x C.b dX1_doOrder_59 (lv_at hl 0 rfl) ?_
    refine lv_if_eq (tgt := 74) C.x C.b dX1_doOrder_61 (by decide) (fun c_68 => absurd c_68 (by decide)) (fun c_68 => ?_)
    refine lv_iconst (v := 1) C.x C.b dX1_doOrder_64 (by decide) ?_
    refine lv_iload C.x C.b dX1_doOrder_65 (lv_at hl 2 rfl) ?_
    refine r_callS (As := [.int (rg (bF x))]) (rest := [.int 1, .int (ct h), .int (nI h), .ref (B + (i + 4))]) (c_X1_bitsOf l D t B N g (rg (bF x))) mf_yX1_bitsOf mlX1_62 sm_yX1_bitsOf (by decide) C hS rfl hl.1 rfl (Nat.le_of_ble_eq_true rfl) dX1_doOrder_67 ⟨Nat.zero_le _, Nat.zero_le _⟩ (fun r_71 g_69 H locs w_70 hS => ?_)
    obtain ⟨rfl, er_71⟩ := w_70
    subst er_71
    refine lv_iadd C.x C.b dX1_doOrder_70 ?_
    refine lv_goto (tgt := 75) C.x C.b dX1_doOrder_71 (by decide) ?_
    refine lv_iadd C.x C.b dX1_doOrder_75 ?_
    refine r_iastN h rfl (by omega) (by decide) C hS (by omega) r4 dX1_doOrder_76 (fun g_72 H locs e_73 o_74 hS => ?_)
    replace e_73 : g_72 (i + 4) = .inl (t.1, 8, .inl (upd ct h ((ct h) + (1 + (32 - nlzF (rg (bF x))))))) := e_73
    refine lv_aload_n C.x C.b dX1_doOrder_77 rfl (lv_at hl 9 rfl) ?_
    have e_75 : g_72 i = .inr (5, [.ref (B + (i + 1)), .ref (B + (i + 2)), .ref (B + (i + 3)), .ref (B + (i + 4)), .ref (B + (i + 5)), .int (nI len), .int st, .int vi, .int an, .int sp]) := (o_74 _ (by omega)).trans r0
    refine r_get ck5 flX1_66 C hS (by omega) e_75 (by decide) rfl dX1_doOrder_78 ?_
    refine lv_iload C.x C.b dX1_doOrder_81 (lv_at hl 5 rfl) ?_
    refine lv_dup2_11 C.x C.b dX1_doOrder_83 rfl rfl ?_
    have e_76 : g_72 (i + 5) = .inl (t.1, 8, .inl ec) := (o_74 _ (by omega)).trans r5
    refine r_ialdN h rfl (by omega) (by decide) C hS (by omega) e_76 dX1_doOrder_84 ?_
    refine lv_iload C.x C.b dX1_doOrder_85 (lv_at hl 0 rfl) ?_
    refine lv_if_eq (tgt := 95) C.x C.b dX1_doOrder_87 (by decide) (fun c_77 => absurd c_77 (by decide)) (fun c_77 => ?_)
    refine lv_bipush (v := 33) C.x C.b dX1_doOrder_90 (by decide) ?_
    refine lv_goto (tgt := 96) C.x C.b dX1_doOrder_92 (by decide) ?_
    refine lv_iadd C.x C.b dX1_doOrder_96 ?_
    refine r_iastN h rfl (by omega) (by decide) C hS (by omega) e_76 dX1_doOrder_97 (fun g_78 H locs e_79 o_80 hS => ?_)
    replace e_79 : g_78 (i + 5) = .inl (t.1, 8, .inl (upd ec h ((ec h) + 33))) := e_79
    refine lv_aload_n C.x C.b dX1_doOrder_98 rfl (lv_at hl 6 rfl) ?_
    refine lv_iload C.x C.b dX1_doOrder_99 (lv_at hl 4 rfl) ?_
    refine lv_aload_n C.x C.b dX1_doOrder_101 rfl (lv_at hl 6 rfl) ?_
    have e_81 : g_72 6 = .inr (1, [.ref (B + (6 + 1)), .ref (B + (6 + 2)), .int (nI h)]) := (o_74 _ (by omega)).trans e0
    have e_82 : g_78 6 = .inr (1, [.ref (B + (6 + 1)), .ref (B + (6 + 2)), .int (nI h)]) := (o_80 _ (by omega)).trans e_81
    refine r_get ck1 flX1_9 C hS (by omega) e_82 (by decide) rfl dX1_doOrder_102 ?_
    refine lv_iload C.x C.b dX1_doOrder_105 (lv_at hl 3 rfl) ?_
    have e_83 : g_72 (6 + 1) = .inl (t.1, 4, .inl rg) := (o_74 _ (by omega)).trans e1
    have e_84 : g_78 (6 + 1) = .inl (t.1, 4, .inl rg) := (o_80 _ (by omega)).trans e_83
    refine r_ialdN (aF x) rfl (by omega) (by decide) C hS (by omega) e_84 dX1_doOrder_107 ?_
    refine lv_iload C.x C.b dX1_doOrder_108 (lv_at hl 2 rfl) ?_
    refine lv_aload_n C.x C.b dX1_doOrder_110 rfl (lv_at hl 8 rfl) ?_
    refine lv_aload_n C.x C.b dX1_doOrder_111 rfl (lv_at hl 9 rfl) ?_
    have e_85 : g_72 (6 + 2) = .inl (t.1, 8, .inl mm) := (o_74 _ (by omega)).trans e2
    have e_86 : g_78 (6 + 2) = .inl (t.1, 8, .inl mm) := (o_80 _ (by omega)).trans e_85
    have e_87 : g_72 5 = .inr (6, [.int ey, .int wi, .int ev]) := (o_74 _ (by omega)).trans hW
    have e_88 : g_78 5 = .inr (6, [.int ey, .int wi, .int ev]) := (o_80 _ (by omega)).trans e_87
    have e_89 : g_78 i = .inr (5, [.ref (B + (i + 1)), .ref (B + (i + 2)), .ref (B + (i + 3)), .ref (B + (i + 4)), .ref (B + (i + 5)), .int (nI len), .int st, .int vi, .int an, .int sp]) := (o_80 _ (by omega)).trans e_75
    have e_90 : g_72 (i + 1) = .inl (t.1, 40, .inl ep) := (o_74 _ (by omega)).trans r1
    have e_91 : g_78 (i + 1) = .inl (t.1, 40, .inl ep) := (o_80 _ (by omega)).trans e_90
    have e_92 : g_72 (i + 2) = .inl (t.1, 40, .inl ew) := (o_74 _ (by omega)).trans r2
    have e_93 : g_78 (i + 2) = .inl (t.1, 40, .inl ew) := (o_80 _ (by omega)).trans e_92
    have e_94 : g_72 (i + 3) = .inl (t.1, 40, .inl en) := (o_74 _ (by omega)).trans r3
    have e_95 : g_78 (i + 3) = .inl (t.1, 40, .inl en) := (o_80 _ (by omega)).trans e_94
    have e_96 : g_78 (i + 4) = .inl (t.1, 8, .inl (upd ct h ((ct h) + (1 + (32 - nlzF (rg (bF x))))))) := (o_80 _ (by omega)).trans e_73
    refine r_callVv (b := 6) (As := [.int (kdF x), .int (rg (aF x)), .int (rg (bF x)), .ref (B + 5), .ref (B + i)]) (rest := []) (c_X1_tellOf l D t B N g_78 _ _ _ _ _ _ i _ _ _ _ _ _ _ _ _ _ (kdF x) (rg (aF x)) (rg (bF x)) (by omega) ⟨e_82, e_84, e_86⟩ e_88 (by omega) (by omega) ⟨e_89, e_91, e_93, e_95, e_96, e_79⟩ (by omega)) mf_yX1_tellOf mlX1_69 im_yX1_tellOf se_yX1_tellOf (by decide) C hS (by omega) e_82 (show vwCl[1]? = some _ from rfl) rfl rfl hl.1 rfl (Nat.le_of_ble_eq_true rfl) dX1_doOrder_112 ⟨Nat.zero_le _, Nat.zero_le _⟩ (fun g_97 H locs w_98 hS => ?_)
    obtain ⟨⟨e_100, e_101, e_102, e_103, e_104, e_105⟩, hf_106⟩ := w_98
    refine lv_aload_n C.x C.b dX1_doOrder_115 rfl (lv_at hl 6 rfl) ?_
    refine lv_aload_n C.x C.b dX1_doOrder_116 rfl (lv_at hl 6 rfl) ?_
    refine lv_iload C.x C.b dX1_doOrder_117 (lv_at hl 4 rfl) ?_
    refine lv_aload_n C.x C.b dX1_doOrder_119 rfl (lv_at hl 6 rfl) ?_
    have e_107 : g_97 6 = .inr (1, [.ref (B + (6 + 1)), .ref (B + (6 + 2)), .int (nI h)]) := (hf_106 _ (by omega)).trans e_82
    refine r_get ck1 flX1_9 C hS (by omega) e_107 (by decide) rfl dX1_doOrder_120 ?_
    refine lv_iload C.x C.b dX1_doOrder_123 (lv_at hl 3 rfl) ?_
    have e_108 : g_97 (6 + 1) = .inl (t.1, 4, .inl rg) := (hf_106 _ (by omega)).trans e_84
    refine r_ialdN (aF x) rfl (by omega) (by decide) C hS (by omega) e_108 dX1_doOrder_125 ?_
    refine lv_iload C.x C.b dX1_doOrder_126 (lv_at hl 1 rfl) ?_
    have e_109 : g_97 (6 + 2) = .inl (t.1, 8, .inl mm) := (hf_106 _ (by omega)).trans e_86
    refine r_callV (b := 6) (As := [.int (kdF x), .int (rg (aF x)), .int (cF x)]) (rest := [.ref (B + 6)]) (c_X1_next l D t B N g_97 _ _ _ (kdF x) (rg (aF x)) (cF x) (by omega) ⟨e_107, e_108, e_109⟩) mf_yX1_next mlX1_73 im_yX1_next se_yX1_next (by decide) C hS (by omega) e_107 (show vwCl[1]? = some _ from rfl) rfl rfl hl.1 rfl (Nat.le_of_ble_eq_true rfl) dX1_doOrder_128 ⟨Nat.zero_le _, Nat.zero_le _⟩ (fun r_112 g_110 H locs w_111 hS => ?_)
    obtain ⟨rfl, er_112⟩ := w_111
    subst er_112
    refine r_put ck1 flX1_18 C hS (by omega) e_107 (by decide) rfl rfl rfl (Nat.le_of_ble_eq_true rfl) dX1_doOrder_131 (fun g_113 H locs e_114 o_115 hS => ?_)
    replace e_114 : g_113 6 = .inr (1, [.ref (B + (6 + 1)), .ref (B + (6 + 2)), .int (nextF (kdF x) (rg (aF x)) (cF x) (nI h))]) := e_114
    refine lv_aload_n C.x C.b dX1_doOrder_134 rfl (lv_at hl 6 rfl) ?_
    refine lv_iload C.x C.b dX1_doOrder_135 (lv_at hl 4 rfl) ?_
    refine lv_iload C.x C.b dX1_doOrder_137 (lv_at hl 3 rfl) ?_
    refine lv_iload C.x C.b dX1_doOrder_139 (lv_at hl 2 rfl) ?_
    refine lv_iload C.x C.b dX1_doOrder_141 (lv_at hl 1 rfl) ?_
    have e_116 : g_113 (6 + 1) = .inl (t.1, 4, .inl rg) := (o_115 _ (by omega)).trans e_108
    have e_117 : g_113 (6 + 2) = .inl (t.1, 8, .inl mm) := (o_115 _ (by omega)).trans e_109
    refine r_callVv (b := 6) (As := [.int (kdF x), .int (nI (aF x)), .int (rg (bF x)), .int (cF x)]) (rest := []) (c_X1_work l D t B N g_113 _ _ _ (kdF x) (aF x) (rg (bF x)) (cF x) (by omega) ⟨e_114, e_116, e_117⟩ (lo2_lt _)) mf_yX1_work mlX1_77 im_yX1_work se_yX1_work (by decide) C hS (by omega) e_114 (show vwCl[1]? = some _ from rfl) rfl rfl hl.1 rfl (Nat.le_of_ble_eq_true rfl) dX1_doOrder_143 ⟨Nat.zero_le _, Nat.zero_le _⟩ (fun g_118 H locs w_119 hS => ?_)
    obtain ⟨⟨e_121, e_122, e_123⟩, hf_124⟩ := w_119
    have e_125 : g_113 i = .inr (5, [.ref (B + (i + 1)), .ref (B + (i + 2)), .ref (B + (i + 3)), .ref (B + (i + 4)), .ref (B + (i + 5)), .int (nI (tln (tlc (kdF x) ey wi) len)), .int st, .int vi, .int an, .int sp]) := (o_115 _ (by omega)).trans e_100
    have e_126 : g_118 i = .inr (5, [.ref (B + (i + 1)), .ref (B + (i + 2)), .ref (B + (i + 3)), .ref (B + (i + 4)), .ref (B + (i + 5)), .int (nI (tln (tlc (kdF x) ey wi) len)), .int st, .int vi, .int an, .int sp]) := (hf_124 _ (by omega)).trans e_125
    have e_127 : g_113 (i + 1) = .inl (t.1, 40, .inl (tuf (tlc (kdF x) ey wi) ep len (nI h))) := (o_115 _ (by omega)).trans e_101
    have e_128 : g_118 (i + 1) = .inl (t.1, 40, .inl (tuf (tlc (kdF x) ey wi) ep len (nI h))) := (hf_124 _ (by omega)).trans e_127
    have e_129 : g_113 (i + 2) = .inl (t.1, 40, .inl (tuf (tlc (kdF x) ey wi) ew len (what (tlc (kdF x) ey wi)))) := (o_115 _ (by omega)).trans e_102
    have e_130 : g_118 (i + 2) = .inl (t.1, 40, .inl (tuf (tlc (kdF x) ey wi) ew len (what (tlc (kdF x) ey wi)))) := (hf_124 _ (by omega)).trans e_129
    have e_131 : g_113 (i + 3) = .inl (t.1, 40, .inl (tuf (tlc (kdF x) ey wi) en len (tnum (tlc (kdF x) ey wi) (rg (aF x)) (rg (bF x)) wi))) := (o_115 _ (by omega)).trans e_103
    have e_132 : g_118 (i + 3) = .inl (t.1, 40, .inl (tuf (tlc (kdF x) ey wi) en len (tnum (tlc (kdF x) ey wi) (rg (aF x)) (rg (bF x)) wi))) := (hf_124 _ (by omega)).trans e_131
    have e_133 : g_113 (i + 4) = .inl (t.1, 8, .inl (upd ct h ((ct h) + (1 + (32 - nlzF (rg (bF x))))))) := (o_115 _ (by omega)).trans e_104
    have e_134 : g_118 (i + 4) = .inl (t.1, 8, .inl (upd ct h ((ct h) + (1 + (32 - nlzF (rg (bF x))))))) := (hf_124 _ (by omega)).trans e_133
    have e_135 : g_113 (i + 5) = .inl (t.1, 8, .inl (upd ec h ((ec h) + 33))) := (o_115 _ (by omega)).trans e_105
    have e_136 : g_118 (i + 5) = .inl (t.1, 8, .inl (upd ec h ((ec h) + 33))) := (hf_124 _ (by omega)).trans e_135
    exact r_vret C hr hlocks hS ⟨⟨e_121, e_122, e_123⟩, by rw [costF, ecoF, if_pos c_1, if_pos c_1]; exact ⟨e_126, e_128, e_130, e_132, e_134, e_136⟩, fun j hj => (hf_124 j (by omega)).trans ((o_115 j (by omega)).trans ((hf_106 j (by omega)).trans ((o_80 j (by omega)).trans (o_74 j (by omega)))))⟩ dX1_doOrder_146
set_option maxHeartbeats 1000000 in
set_option maxRecDepth 100000 in
theorem c_X1_go (l : Launch) (D : va_G) (t : Gx) (B N : Nat) (g : Nat → va_E) (rg mm : Nat → Int32) (pt : Int32) (o pr w : Nat → Int32) (n : Nat) (ey wi ev : Int32) (i : Nat) (ep ew en ct ec : Nat → Int32) (len : Nat) (st vi an sp : Int32) (op se : Int32) (h6 : 8 < N) (hM : isMach t B g 6 rg mm pt) (hP : isProg t B g 1 o pr w n) (hW : isWat g 5 ey wi ev) (h9 : 9 ≤ i) (hi : i + 5 < N) (hR : isRun t B g i ep ew en ct ec len st vi an sp) (hn : n ≤ 8) : Cv l D t B N N 0 0 yX1_go cX1_go 7 3 78 g [.ref (B + 6), .ref (B + 1), .ref (B + 5), .int op, .int se, .ref (B + i)] (fun g' => goP t B g' i n (gor o n ey wi 40 (rg0 rg op se, cpF w mm 8, 0, ep, ew, en, zf ct 8, zf ec 8, 0, 0, 0)) ∧ ∀ j, (j < 6 ∨ (8 < j ∧ (j < i ∨ i + 5 < j))) → g' j = g j) := by
  refine Cv.start (by decide) (Nat.le_of_ble_eq_true rfl) ?_
  intro p e s m below meth c ls C hr hlocks hnm hS hl
  replace C : Cx D t p s m [.ref (B + 6), .ref (B + 1), .ref (B + 5), .int op, .int se, .ref (B + i)].toArray c cX1_go 7 RX1 := C
  replace hl : lv_has ls 7 [(0, .ref (B + 6)), (1, .ref (B + 1)), (2, .ref (B + 5)), (3, .int op), (4, .int se), (5, .ref (B + i))] := hl
  obtain ⟨e0, e1, e2⟩ := hM
  obtain ⟨p0, p1, p2, p3⟩ := hP
  obtain ⟨r0, r1, r2, r3, r4, r5⟩ := hR
  refine lv_aload_n C.x C.b dX1_go_0 rfl (lv_at hl 0 rfl) ?_
  refine lv_aload_n C.x C.b dX1_go_1 rfl (lv_at hl 1 rfl) ?_
  refine lv_iload_n C.x C.b dX1_go_2 rfl (lv_at hl 3 rfl) ?_
  refine lv_iload C.x C.b dX1_go_3 (lv_at hl 4 rfl) ?_
  refine r_callVv (b := 6) (As := [.ref (B + 1), .int op, .int se]) (rest := []) (c_X1_begin l D t B N g _ _ _ _ _ _ _ op se (by omega) ⟨e0, e1, e2⟩ ⟨p0, p1, p2, p3⟩) mf_yX1_begin mlX1_22 im_yX1_begin se_yX1_begin (by decide) C hS (by omega) e0 (show vwCl[1]? = some _ from rfl) rfl rfl hl.1 rfl (Nat.le_of_ble_eq_true rfl) dX1_go_5 ⟨Nat.zero_le _, Nat.zero_le _⟩ (fun g_1 H locs w_2 hS => ?_)
  obtain ⟨⟨e_4, e_5, e_6⟩, hf_7⟩ := w_2
  refine lv_aload C.x C.b dX1_go_8 (lv_at hl 5 rfl) ?_
  have e_8 : g_1 i = .inr (5, [.ref (B + (i + 1)), .ref (B + (i + 2)), .ref (B + (i + 3)), .ref (B + (i + 4)), .ref (B + (i + 5)), .int (nI len), .int st, .int vi, .int an, .int sp]) := (hf_7 _ (by omega)).trans r0
  have e_9 : g_1 (i + 1) = .inl (t.1, 40, .inl ep) := (hf_7 _ (by omega)).trans r1
  have e_10 : g_1 (i + 2) = .inl (t.1, 40, .inl ew) := (hf_7 _ (by omega)).trans r2
  have e_11 : g_1 (i + 3) = .inl (t.1, 40, .inl en) := (hf_7 _ (by omega)).trans r3
  have e_12 : g_1 (i + 4) = .inl (t.1, 8, .inl ct) := (hf_7 _ (by omega)).trans r4
  have e_13 : g_1 (i + 5) = .inl (t.1, 8, .inl ec) := (hf_7 _ (by omega)).trans r5
  refine r_callVv (b := i) (As := []) (rest := []) (c_X5_begin l D t B N g_1 i _ _ _ _ _ _ _ _ _ _ (by omega) ⟨e_8, e_9, e_10, e_11, e_12, e_13⟩) mf_yX5_begin mlX1_26 im_yX5_begin se_yX5_begin (by decide) C hS (by omega) e_8 (show vwCl[5]? = some _ from rfl) rfl rfl hl.1 rfl (Nat.le_of_ble_eq_true rfl) dX1_go_10 ⟨Nat.zero_le _, Nat.zero_le _⟩ (fun g_14 H locs w_15 hS => ?_)
  obtain ⟨⟨e_17, e_18, e_19, e_20, e_21, e_22⟩, hf_23⟩ := w_15
  refine lv_iconst (v := 0) C.x C.b dX1_go_13 (by decide) ?_
  refine lv_istore (lv' := [(6, .int 0), (0, .ref (B + 6)), (1, .ref (B + 1)), (2, .ref (B + 5)), (3, .int op), (4, .int se), (5, .ref (B + i))]) C.x C.b dX1_go_14 hl (by decide) rfl (fun ls hl => ?_)
  have lp : ∀ (u k : Nat) (rg1 mm1 : Nat → Int32) (pt1 : Int32) (ep1 ew1 en1 ct1 ec1 : Nat → Int32) (len1 : Nat) (st1 vi1 : Int32) (gL : Nat → va_E) (H : Heap) (locs : List Loc) (ls : Array Slot), k + u = 40 → len1 ≤ k → gor o n ey wi u (rg1, mm1, pt1, ep1, ew1, en1, ct1, ec1, len1, st1, vi1) = (gor o n ey wi 40 (rg0 rg op se, cpF w mm 8, 0, ep, ew, en, zf ct 8, zf ec 8, 0, 0, 0)) → isMach t B gL 6 rg1 mm1 pt1 → isRun t B gL i ep1 ew1 en1 ct1 ec1 len1 st1 vi1 an sp → (∀ j, (j < 6 ∨ (8 < j ∧ (j < i ∨ i + 5 < j))) → gL j = g_14 j) → St D B s.heap N gL H locs → lv_has ls 7 [(0, .ref (B + 6)), (1, .ref (B + 1)), (2, .ref (B + 5)), (5, .ref (B + i)), (6, .int (nI k))] → W p l e (rmOf 3 78 0 0) s m [.ref (B + 6), .ref (B + 1), .ref (B + 5), .int op, .int se, .ref (B + i)].toArray below meth c H locs 0 0 (MQ below (qV D B N (fun g' => goP t B g' i n (gor o n ey wi 40 (rg0 rg op se, cpF w mm 8, 0, ep, ew, en, zf ct 8, zf ec 8, 0, 0, 0)) ∧ ∀ j, (j < 6 ∨ (8 < j ∧ (j < i ∨ i + 5 < j))) → g' j = g j)) [.ref (B + 6), .ref (B + 1), .ref (B + 5), .int op, .int se, .ref (B + i)].toArray s 0 0 (fun q => B ≤ q)) (F0 m 16 ls []) := by
    intro u
    induction u with
    | zero =>
      intro k rg1 mm1 pt1 ep1 ew1 en1 ct1 ec1 len1 st1 vi1 gL H locs ls hk hlen hG hM1 hR1 hfL hS hl
      obtain ⟨a0, a1, a2⟩ := hM1
      obtain ⟨b0, b1, b2, b3, b4, b5⟩ := hR1
      obtain rfl : 40 = k := by omega
      refine lv_iload C.x C.b dX1_go_16 (lv_at hl 4 rfl) ?_
      refine lv_bipush (v := 40) C.x C.b dX1_go_18 (by decide) ?_
      refine lv_icmp_ge (tgt := 83) C.x C.b dX1_go_20 (by decide) (fun c_24 => ?_) (fun c_24 => absurd (by decide) c_24)
      refine lv_aload C.x C.b dX1_go_83 (lv_at hl 3 rfl) ?_
      refine lv_aload_n C.x C.b dX1_go_85 rfl (lv_at hl 1 rfl) ?_
      refine lv_aload_n C.x C.b dX1_go_86 rfl (lv_at hl 0 rfl) ?_
      refine r_get ck1 flX1_18 C hS (by omega) a0 (by decide) rfl dX1_go_87 ?_
      have e_25 : g_1 1 = .inr (3, [.ref (B + (1 + 1)), .ref (B + (1 + 2)), .ref (B + (1 + 3)), .int (nI n)]) := (hf_7 _ (by omega)).trans p0
      have e_26 : g_14 1 = .inr (3, [.ref (B + (1 + 1)), .ref (B + (1 + 2)), .ref (B + (1 + 3)), .int (nI n)]) := (hf_23 _ (by omega)).trans e_25
      have e_27 : gL 1 = .inr (3, [.ref (B + (1 + 1)), .ref (B + (1 + 2)), .ref (B + (1 + 3)), .int (nI n)]) := (hfL _ (by omega)).trans e_26
      have e_28 : g_1 (1 + 1) = .inl (t.1, 8, .inl o) := (hf_7 _ (by omega)).trans p1
      have e_29 : g_14 (1 + 1) = .inl (t.1, 8, .inl o) := (hf_23 _ (by omega)).trans e_28
      have e_30 : gL (1 + 1) = .inl (t.1, 8, .inl o) := (hfL _ (by omega)).trans e_29
      have e_31 : g_1 (1 + 2) = .inl (t.1, 8, .inl pr) := (hf_7 _ (by omega)).trans p2
      have e_32 : g_14 (1 + 2) = .inl (t.1, 8, .inl pr) := (hf_23 _ (by omega)).trans e_31
      have e_33 : gL (1 + 2) = .inl (t.1, 8, .inl pr) := (hfL _ (by omega)).trans e_32
      have e_34 : g_1 (1 + 3) = .inl (t.1, 8, .inl w) := (hf_7 _ (by omega)).trans p3
      have e_35 : g_14 (1 + 3) = .inl (t.1, 8, .inl w) := (hf_23 _ (by omega)).trans e_34
      have e_36 : gL (1 + 3) = .inl (t.1, 8, .inl w) := (hfL _ (by omega)).trans e_35
      refine r_callV (b := 1) (As := [.int pt1]) (rest := [.ref (B + i)]) (c_X3_has l D t B N gL 1 _ _ _ _ pt1 (by omega) ⟨e_27, e_30, e_33, e_36⟩) mf_yX3_has mlX1_30 im_yX3_has se_yX3_has (by decide) C hS (by omega) e_27 (show vwCl[3]? = some _ from rfl) rfl rfl hl.1 rfl (Nat.le_of_ble_eq_true rfl) dX1_go_90 ⟨Nat.zero_le _, Nat.zero_le _⟩ (fun r_39 g_37 H locs w_38 hS => ?_)
      obtain ⟨rfl, er_39⟩ := w_38
      by_cases b_40 : inP n pt1
      · rw [bz_t b_40] at er_39
        subst er_39
        refine r_put ck5 flX1_49 C hS (by omega) b0 (by decide) rfl (nar_z (by decide)) (fit_z (by decide)) (Nat.le_of_ble_eq_true rfl) dX1_go_93 (fun g_41 H locs e_42 o_43 hS => ?_)
        replace e_42 : g_41 i = .inr (5, [.ref (B + (i + 1)), .ref (B + (i + 2)), .ref (B + (i + 3)), .ref (B + (i + 4)), .ref (B + (i + 5)), .int (nI len1), .int st1, .int vi1, .int an, .int 1]) := e_42
        refine lv_aload C.x C.b dX1_go_96 (lv_at hl 3 rfl) ?_
        refine r_get ck5 flX1_49 C hS (by omega) e_42 (by decide) rfl dX1_go_98 ?_
        refine lv_if_eq (tgt := 120) C.x C.b dX1_go_101 (by decide) (fun c_44 => absurd c_44 (by decide)) (fun c_44 => ?_)
        refine lv_aload C.x C.b dX1_go_104 (lv_at hl 3 rfl) ?_
        refine lv_dup C.x C.b dX1_go_106 rfl ?_
        refine r_get ck5 flX1_36 C hS (by omega) e_42 (by decide) rfl dX1_go_107 ?_
        refine lv_iconst (v := 1) C.x C.b dX1_go_110 (by decide) ?_
        refine lv_aload_n C.x C.b dX1_go_111 rfl (lv_at hl 0 rfl) ?_
        have e_45 : g_41 6 = .inr (1, [.ref (B + (6 + 1)), .ref (B + (6 + 2)), .int pt1]) := (o_43 _ (by omega)).trans a0
        refine r_get ck1 flX1_18 C hS (by omega) e_45 (by decide) rfl dX1_go_112 ?_
        refine lv_ishl C.x C.b dX1_go_115 ?_
        refine lv_ior C.x C.b dX1_go_116 ?_
        refine r_put ck5 flX1_36 C hS (by omega) e_42 (by decide) rfl rfl rfl (Nat.le_of_ble_eq_true rfl) dX1_go_117 (fun g_46 H locs e_47 o_48 hS => ?_)
        replace e_47 : g_46 i = .inr (5, [.ref (B + (i + 1)), .ref (B + (i + 2)), .ref (B + (i + 3)), .ref (B + (i + 4)), .ref (B + (i + 5)), .int (nI len1), .int st1, .int (vi1 ||| (1 <<< (pt1 &&& 31))), .int an, .int 1]) := e_47
        refine lv_aload C.x C.b dX1_go_120 (lv_at hl 3 rfl) ?_
        refine lv_aload_n C.x C.b dX1_go_122 rfl (lv_at hl 0 rfl) ?_
        have e_49 : g_46 6 = .inr (1, [.ref (B + (6 + 1)), .ref (B + (6 + 2)), .int pt1]) := (o_48 _ (by omega)).trans e_45
        refine r_get ck1 flX1_9 C hS (by omega) e_49 (by decide) rfl dX1_go_123 ?_
        refine lv_iconst (v := 0) C.x C.b dX1_go_126 (by decide) ?_
        have e_50 : g_41 (6 + 1) = .inl (t.1, 4, .inl rg1) := (o_43 _ (by omega)).trans a1
        have e_51 : g_46 (6 + 1) = .inl (t.1, 4, .inl rg1) := (o_48 _ (by omega)).trans e_50
        refine r_ialdN 0 rfl (by omega) (by decide) C hS (by omega) e_51 dX1_go_127 ?_
        refine r_put ck5 flX1_53 C hS (by omega) e_47 (by decide) rfl rfl rfl (Nat.le_of_ble_eq_true rfl) dX1_go_128 (fun g_52 H locs e_53 o_54 hS => ?_)
        replace e_53 : g_52 i = .inr (5, [.ref (B + (i + 1)), .ref (B + (i + 2)), .ref (B + (i + 3)), .ref (B + (i + 4)), .ref (B + (i + 5)), .int (nI len1), .int st1, .int (vi1 ||| (1 <<< (pt1 &&& 31))), .int (rg1 0), .int 1]) := e_53
        have hg_55 := hG
        replace hg_55 : (gor o n ey wi 40 (rg0 rg op se, cpF w mm 8, 0, ep, ew, en, zf ct 8, zf ec 8, 0, 0, 0)) = (rg1, mm1, pt1, ep1, ew1, en1, ct1, ec1, len1, st1, vi1) := hg_55.symm
        have e_56 : g_52 6 = .inr (1, [.ref (B + (6 + 1)), .ref (B + (6 + 2)), .int pt1]) := (o_54 _ (by omega)).trans e_49
        have e_57 : g_52 (6 + 1) = .inl (t.1, 4, .inl rg1) := (o_54 _ (by omega)).trans e_51
        have e_58 : g_41 (6 + 2) = .inl (t.1, 8, .inl mm1) := (o_43 _ (by omega)).trans a2
        have e_59 : g_46 (6 + 2) = .inl (t.1, 8, .inl mm1) := (o_48 _ (by omega)).trans e_58
        have e_60 : g_52 (6 + 2) = .inl (t.1, 8, .inl mm1) := (o_54 _ (by omega)).trans e_59
        have e_61 : g_41 (i + 1) = .inl (t.1, 40, .inl ep1) := (o_43 _ (by omega)).trans b1
        have e_62 : g_46 (i + 1) = .inl (t.1, 40, .inl ep1) := (o_48 _ (by omega)).trans e_61
        have e_63 : g_52 (i + 1) = .inl (t.1, 40, .inl ep1) := (o_54 _ (by omega)).trans e_62
        have e_64 : g_41 (i + 2) = .inl (t.1, 40, .inl ew1) := (o_43 _ (by omega)).trans b2
        have e_65 : g_46 (i + 2) = .inl (t.1, 40, .inl ew1) := (o_48 _ (by omega)).trans e_64
        have e_66 : g_52 (i + 2) = .inl (t.1, 40, .inl ew1) := (o_54 _ (by omega)).trans e_65
        have e_67 : g_41 (i + 3) = .inl (t.1, 40, .inl en1) := (o_43 _ (by omega)).trans b3
        have e_68 : g_46 (i + 3) = .inl (t.1, 40, .inl en1) := (o_48 _ (by omega)).trans e_67
        have e_69 : g_52 (i + 3) = .inl (t.1, 40, .inl en1) := (o_54 _ (by omega)).trans e_68
        have e_70 : g_41 (i + 4) = .inl (t.1, 8, .inl ct1) := (o_43 _ (by omega)).trans b4
        have e_71 : g_46 (i + 4) = .inl (t.1, 8, .inl ct1) := (o_48 _ (by omega)).trans e_70
        have e_72 : g_52 (i + 4) = .inl (t.1, 8, .inl ct1) := (o_54 _ (by omega)).trans e_71
        have e_73 : g_41 (i + 5) = .inl (t.1, 8, .inl ec1) := (o_43 _ (by omega)).trans b5
        have e_74 : g_46 (i + 5) = .inl (t.1, 8, .inl ec1) := (o_48 _ (by omega)).trans e_73
        have e_75 : g_52 (i + 5) = .inl (t.1, 8, .inl ec1) := (o_54 _ (by omega)).trans e_74
        exact r_vret C hr hlocks hS ⟨by rw [hg_55]; exact ⟨⟨e_56, e_57, e_60⟩, by show isRun t B _ i ep1 ew1 en1 ct1 ec1 len1 st1 (viF n pt1 vi1) (rg1 0) (bz (inP n pt1)); rw [bz_t b_40, viF_t b_40]; exact ⟨e_53, e_63, e_66, e_69, e_72, e_75⟩⟩, fun j hj => (o_54 j (by omega)).trans ((o_48 j (by omega)).trans ((o_43 j (by omega)).trans ((hfL j (by omega)).trans ((hf_23 j (by omega)).trans (hf_7 j (by omega))))))⟩ dX1_go_131
      · rw [bz_f b_40] at er_39
        subst er_39
        refine r_put ck5 flX1_49 C hS (by omega) b0 (by decide) rfl (nar_z (by decide)) (fit_z (by decide)) (Nat.le_of_ble_eq_true rfl) dX1_go_93 (fun g_76 H locs e_77 o_78 hS => ?_)
        replace e_77 : g_76 i = .inr (5, [.ref (B + (i + 1)), .ref (B + (i + 2)), .ref (B + (i + 3)), .ref (B + (i + 4)), .ref (B + (i + 5)), .int (nI len1), .int st1, .int vi1, .int an, .int 0]) := e_77
        refine lv_aload C.x C.b dX1_go_96 (lv_at hl 3 rfl) ?_
        refine r_get ck5 flX1_49 C hS (by omega) e_77 (by decide) rfl dX1_go_98 ?_
        refine lv_if_eq (tgt := 120) C.x C.b dX1_go_101 (by decide) (fun c_79 => ?_) (fun c_79 => absurd (by decide) c_79)
        refine lv_aload C.x C.b dX1_go_120 (lv_at hl 3 rfl) ?_
        refine lv_aload_n C.x C.b dX1_go_122 rfl (lv_at hl 0 rfl) ?_
        have e_80 : g_76 6 = .inr (1, [.ref (B + (6 + 1)), .ref (B + (6 + 2)), .int pt1]) := (o_78 _ (by omega)).trans a0
        refine r_get ck1 flX1_9 C hS (by omega) e_80 (by decide) rfl dX1_go_123 ?_
        refine lv_iconst (v := 0) C.x C.b dX1_go_126 (by decide) ?_
        have e_81 : g_76 (6 + 1) = .inl (t.1, 4, .inl rg1) := (o_78 _ (by omega)).trans a1
        refine r_ialdN 0 rfl (by omega) (by decide) C hS (by omega) e_81 dX1_go_127 ?_
        refine r_put ck5 flX1_53 C hS (by omega) e_77 (by decide) rfl rfl rfl (Nat.le_of_ble_eq_true rfl) dX1_go_128 (fun g_82 H locs e_83 o_84 hS => ?_)
        replace e_83 : g_82 i = .inr (5, [.ref (B + (i + 1)), .ref (B + (i + 2)), .ref (B + (i + 3)), .ref (B + (i + 4)), .ref (B + (i + 5)), .int (nI len1), .int st1, .int vi1, .int (rg1 0), .int 0]) := e_83
        have hg_85 := hG
        replace hg_85 : (gor o n ey wi 40 (rg0 rg op se, cpF w mm 8, 0, ep, ew, en, zf ct 8, zf ec 8, 0, 0, 0)) = (rg1, mm1, pt1, ep1, ew1, en1, ct1, ec1, len1, st1, vi1) := hg_85.symm
        have e_86 : g_82 6 = .inr (1, [.ref (B + (6 + 1)), .ref (B + (6 + 2)), .int pt1]) := (o_84 _ (by omega)).trans e_80
        have e_87 : g_82 (6 + 1) = .inl (t.1, 4, .inl rg1) := (o_84 _ (by omega)).trans e_81
        have e_88 : g_76 (6 + 2) = .inl (t.1, 8, .inl mm1) := (o_78 _ (by omega)).trans a2
        have e_89 : g_82 (6 + 2) = .inl (t.1, 8, .inl mm1) := (o_84 _ (by omega)).trans e_88
        have e_90 : g_76 (i + 1) = .inl (t.1, 40, .inl ep1) := (o_78 _ (by omega)).trans b1
        have e_91 : g_82 (i + 1) = .inl (t.1, 40, .inl ep1) := (o_84 _ (by omega)).trans e_90
        have e_92 : g_76 (i + 2) = .inl (t.1, 40, .inl ew1) := (o_78 _ (by omega)).trans b2
        have e_93 : g_82 (i + 2) = .inl (t.1, 40, .inl ew1) := (o_84 _ (by omega)).trans e_92
        have e_94 : g_76 (i + 3) = .inl (t.1, 40, .inl en1) := (o_78 _ (by omega)).trans b3
        have e_95 : g_82 (i + 3) = .inl (t.1, 40, .inl en1) := (o_84 _ (by omega)).trans e_94
        have e_96 : g_76 (i + 4) = .inl (t.1, 8, .inl ct1) := (o_78 _ (by omega)).trans b4
        have e_97 : g_82 (i + 4) = .inl (t.1, 8, .inl ct1) := (o_84 _ (by omega)).trans e_96
        have e_98 : g_76 (i + 5) = .inl (t.1, 8, .inl ec1) := (o_78 _ (by omega)).trans b5
        have e_99 : g_82 (i + 5) = .inl (t.1, 8, .inl ec1) := (o_84 _ (by omega)).trans e_98
        exact r_vret C hr hlocks hS ⟨by rw [hg_85]; exact ⟨⟨e_86, e_87, e_89⟩, by show isRun t B _ i ep1 ew1 en1 ct1 ec1 len1 st1 (viF n pt1 vi1) (rg1 0) (bz (inP n pt1)); rw [bz_f b_40, viF_f b_40]; exact ⟨e_83, e_91, e_93, e_95, e_97, e_99⟩⟩, fun j hj => (o_84 j (by omega)).trans ((o_78 j (by omega)).trans ((hfL j (by omega)).trans ((hf_23 j (by omega)).trans (hf_7 j (by omega)))))⟩ dX1_go_131
    | succ u ih =>
      intro k rg1 mm1 pt1 ep1 ew1 en1 ct1 ec1 len1 st1 vi1 gL H locs ls hk hlen hG hM1 hR1 hfL hS hl
      obtain ⟨a0, a1, a2⟩ := hM1
      obtain ⟨b0, b1, b2, b3, b4, b5⟩ := hR1
      refine lv_iload C.x C.b dX1_go_16 (lv_at hl 4 rfl) ?_
      refine lv_bipush (v := 40) C.x C.b dX1_go_18 (by decide) ?_
      refine lv_icmp_ge (tgt := 83) C.x C.b dX1_go_20 (by decide) (fun c_100 => absurd c_100 (nI_ge (a := k) (b := 40) (by omega) (by decide))) (fun c_100 => ?_)
      refine lv_aload_n C.x C.b dX1_go_23 rfl (lv_at hl 1 rfl) ?_
      refine lv_aload_n C.x C.b dX1_go_24 rfl (lv_at hl 0 rfl) ?_
      refine r_get ck1 flX1_18 C hS (by omega) a0 (by decide) rfl dX1_go_25 ?_
      have e_101 : g_1 1 = .inr (3, [.ref (B + (1 + 1)), .ref (B + (1 + 2)), .ref (B + (1 + 3)), .int (nI n)]) := (hf_7 _ (by omega)).trans p0
      have e_102 : g_14 1 = .inr (3, [.ref (B + (1 + 1)), .ref (B + (1 + 2)), .ref (B + (1 + 3)), .int (nI n)]) := (hf_23 _ (by omega)).trans e_101
      have e_103 : gL 1 = .inr (3, [.ref (B + (1 + 1)), .ref (B + (1 + 2)), .ref (B + (1 + 3)), .int (nI n)]) := (hfL _ (by omega)).trans e_102
      have e_104 : g_1 (1 + 1) = .inl (t.1, 8, .inl o) := (hf_7 _ (by omega)).trans p1
      have e_105 : g_14 (1 + 1) = .inl (t.1, 8, .inl o) := (hf_23 _ (by omega)).trans e_104
      have e_106 : gL (1 + 1) = .inl (t.1, 8, .inl o) := (hfL _ (by omega)).trans e_105
      have e_107 : g_1 (1 + 2) = .inl (t.1, 8, .inl pr) := (hf_7 _ (by omega)).trans p2
      have e_108 : g_14 (1 + 2) = .inl (t.1, 8, .inl pr) := (hf_23 _ (by omega)).trans e_107
      have e_109 : gL (1 + 2) = .inl (t.1, 8, .inl pr) := (hfL _ (by omega)).trans e_108
      have e_110 : g_1 (1 + 3) = .inl (t.1, 8, .inl w) := (hf_7 _ (by omega)).trans p3
      have e_111 : g_14 (1 + 3) = .inl (t.1, 8, .inl w) := (hf_23 _ (by omega)).trans e_110
      have e_112 : gL (1 + 3) = .inl (t.1, 8, .inl w) := (hfL _ (by omega)).trans e_111
      refine r_callV (b := 1) (As := [.int pt1]) (rest := []) (c_X3_has l D t B N gL 1 _ _ _ _ pt1 (by omega) ⟨e_103, e_106, e_109, e_112⟩) mf_yX3_has mlX1_30 im_yX3_has se_yX3_has (by decide) C hS (by omega) e_103 (show vwCl[3]? = some _ from rfl) rfl rfl hl.1 rfl (Nat.le_of_ble_eq_true rfl) dX1_go_28 ⟨Nat.zero_le _, Nat.zero_le _⟩ (fun r_115 g_113 H locs w_114 hS => ?_)
      obtain ⟨rfl, er_115⟩ := w_114
      by_cases b_116 : inP n pt1
      · rw [bz_t b_116] at er_115
        subst er_115
        obtain ⟨q, hq, rfl⟩ := inP_nI b_116 (by omega)
        refine lv_if_eq (tgt := 83) C.x C.b dX1_go_31 (by decide) (fun c_117 => absurd c_117 (by decide)) (fun c_117 => ?_)
        refine lv_aload C.x C.b dX1_go_34 (lv_at hl 3 rfl) ?_
        refine lv_dup C.x C.b dX1_go_36 rfl ?_
        refine r_get ck5 flX1_36 C hS (by omega) b0 (by decide) rfl dX1_go_37 ?_
        refine lv_iconst (v := 1) C.x C.b dX1_go_40 (by decide) ?_
        refine lv_aload_n C.x C.b dX1_go_41 rfl (lv_at hl 0 rfl) ?_
        refine r_get ck1 flX1_18 C hS (by omega) a0 (by decide) rfl dX1_go_42 ?_
        refine lv_ishl C.x C.b dX1_go_45 ?_
        refine lv_ior C.x C.b dX1_go_46 ?_
        refine r_put ck5 flX1_36 C hS (by omega) b0 (by decide) rfl rfl rfl (Nat.le_of_ble_eq_true rfl) dX1_go_47 (fun g_118 H locs e_119 o_120 hS => ?_)
        replace e_119 : g_118 i = .inr (5, [.ref (B + (i + 1)), .ref (B + (i + 2)), .ref (B + (i + 3)), .ref (B + (i + 4)), .ref (B + (i + 5)), .int (nI len1), .int st1, .int (vi1 ||| (1 <<< ((nI q) &&& 31))), .int an, .int sp]) := e_119
        refine lv_aload C.x C.b dX1_go_50 (lv_at hl 3 rfl) ?_
        refine lv_dup C.x C.b dX1_go_52 rfl ?_
        refine r_get ck5 flX1_39 C hS (by omega) e_119 (by decide) rfl dX1_go_53 ?_
        refine lv_iconst (v := 1) C.x C.b dX1_go_56 (by decide) ?_
        refine lv_iadd C.x C.b dX1_go_57 ?_
        refine r_put ck5 flX1_39 C hS (by omega) e_119 (by decide) rfl rfl rfl (Nat.le_of_ble_eq_true rfl) dX1_go_58 (fun g_121 H locs e_122 o_123 hS => ?_)
        replace e_122 : g_121 i = .inr (5, [.ref (B + (i + 1)), .ref (B + (i + 2)), .ref (B + (i + 3)), .ref (B + (i + 4)), .ref (B + (i + 5)), .int (nI len1), .int (st1 + 1), .int (vi1 ||| (1 <<< ((nI q) &&& 31))), .int an, .int sp]) := e_122
        refine lv_aload_n C.x C.b dX1_go_61 rfl (lv_at hl 0 rfl) ?_
        refine lv_aload_n C.x C.b dX1_go_62 rfl (lv_at hl 1 rfl) ?_
        have e_124 : g_118 1 = .inr (3, [.ref (B + (1 + 1)), .ref (B + (1 + 2)), .ref (B + (1 + 3)), .int (nI n)]) := (o_120 _ (by omega)).trans e_103
        have e_125 : g_121 1 = .inr (3, [.ref (B + (1 + 1)), .ref (B + (1 + 2)), .ref (B + (1 + 3)), .int (nI n)]) := (o_123 _ (by omega)).trans e_124
        refine r_get ck3 flX1_42 C hS (by omega) e_125 (by decide) rfl dX1_go_63 ?_
        refine lv_aload_n C.x C.b dX1_go_66 rfl (lv_at hl 0 rfl) ?_
        have e_126 : g_118 6 = .inr (1, [.ref (B + (6 + 1)), .ref (B + (6 + 2)), .int (nI q)]) := (o_120 _ (by omega)).trans a0
        have e_127 : g_121 6 = .inr (1, [.ref (B + (6 + 1)), .ref (B + (6 + 2)), .int (nI q)]) := (o_123 _ (by omega)).trans e_126
        refine r_get ck1 flX1_18 C hS (by omega) e_127 (by decide) rfl dX1_go_67 ?_
        have e_128 : g_118 (1 + 1) = .inl (t.1, 8, .inl o) := (o_120 _ (by omega)).trans e_106
        have e_129 : g_121 (1 + 1) = .inl (t.1, 8, .inl o) := (o_123 _ (by omega)).trans e_128
        refine r_ialdN q rfl (by omega) (by decide) C hS (by omega) e_129 dX1_go_70 ?_
        refine lv_aload_n C.x C.b dX1_go_71 rfl (lv_at hl 2 rfl) ?_
        refine lv_aload C.x C.b dX1_go_72 (lv_at hl 3 rfl) ?_
        have e_130 : g_118 (6 + 1) = .inl (t.1, 4, .inl rg1) := (o_120 _ (by omega)).trans a1
        have e_131 : g_121 (6 + 1) = .inl (t.1, 4, .inl rg1) := (o_123 _ (by omega)).trans e_130
        have e_132 : g_118 (6 + 2) = .inl (t.1, 8, .inl mm1) := (o_120 _ (by omega)).trans a2
        have e_133 : g_121 (6 + 2) = .inl (t.1, 8, .inl mm1) := (o_123 _ (by omega)).trans e_132
        have e_134 : g_1 5 = .inr (6, [.int ey, .int wi, .int ev]) := (hf_7 _ (by omega)).trans hW
        have e_135 : g_14 5 = .inr (6, [.int ey, .int wi, .int ev]) := (hf_23 _ (by omega)).trans e_134
        have e_136 : gL 5 = .inr (6, [.int ey, .int wi, .int ev]) := (hfL _ (by omega)).trans e_135
        have e_137 : g_118 5 = .inr (6, [.int ey, .int wi, .int ev]) := (o_120 _ (by omega)).trans e_136
        have e_138 : g_121 5 = .inr (6, [.int ey, .int wi, .int ev]) := (o_123 _ (by omega)).trans e_137
        have e_139 : g_118 (i + 1) = .inl (t.1, 40, .inl ep1) := (o_120 _ (by omega)).trans b1
        have e_140 : g_121 (i + 1) = .inl (t.1, 40, .inl ep1) := (o_123 _ (by omega)).trans e_139
        have e_141 : g_118 (i + 2) = .inl (t.1, 40, .inl ew1) := (o_120 _ (by omega)).trans b2
        have e_142 : g_121 (i + 2) = .inl (t.1, 40, .inl ew1) := (o_123 _ (by omega)).trans e_141
        have e_143 : g_118 (i + 3) = .inl (t.1, 40, .inl en1) := (o_120 _ (by omega)).trans b3
        have e_144 : g_121 (i + 3) = .inl (t.1, 40, .inl en1) := (o_123 _ (by omega)).trans e_143
        have e_145 : g_118 (i + 4) = .inl (t.1, 8, .inl ct1) := (o_120 _ (by omega)).trans b4
        have e_146 : g_121 (i + 4) = .inl (t.1, 8, .inl ct1) := (o_123 _ (by omega)).trans e_145
        have e_147 : g_118 (i + 5) = .inl (t.1, 8, .inl ec1) := (o_120 _ (by omega)).trans b5
        have e_148 : g_121 (i + 5) = .inl (t.1, 8, .inl ec1) := (o_123 _ (by omega)).trans e_147
        refine r_callVv (b := 6) (As := [.int (o q), .ref (B + 5), .ref (B + i)]) (rest := []) (c_X1_doOrder l D t B N g_121 _ _ q _ _ _ i _ _ _ _ _ _ _ _ _ _ (o q) (by omega) ⟨e_127, e_131, e_133⟩ e_138 (by omega) (by omega) ⟨e_122, e_140, e_142, e_144, e_146, e_148⟩ (by omega) (by omega)) mf_yX1_doOrder mlX1_45 im_yX1_doOrder se_yX1_doOrder (by decide) C hS (by omega) e_127 (show vwCl[1]? = some _ from rfl) rfl rfl hl.1 rfl (Nat.le_of_ble_eq_true rfl) dX1_go_74 ⟨Nat.zero_le _, Nat.zero_le _⟩ (fun g_149 H locs w_150 hS => ?_)
        obtain ⟨⟨e_152, e_153, e_154⟩, ⟨e_155, e_156, e_157, e_158, e_159, e_160⟩, hf_161⟩ := w_150
        refine lv_iinc (v := nI (k + 1)) (lv' := [(6, .int (nI (k + 1))), (0, .ref (B + 6)), (1, .ref (B + 1)), (2, .ref (B + 5)), (5, .ref (B + i))]) C.x C.b dX1_go_77 hl (k := 4) rfl (nI_1 k) (by decide) rfl (fun ls hl => ?_)
        refine lv_goto (tgt := 16) C.x C.b dX1_go_80 (by decide) ?_
        exact ih (k + 1) _ _ _ _ _ _ _ _ _ _ _ g_149 _ _ _ (by omega) (tln_le _ hlen) ((gor_step hq).symm.trans hG) ⟨e_152, e_153, e_154⟩ ⟨e_155, e_156, e_157, e_158, e_159, e_160⟩ (fun j hj => (hf_161 j (by omega)).trans ((o_123 j (by omega)).trans ((o_120 j (by omega)).trans (hfL j hj)))) hS (lv_sub hl [1, 2, 3, 4, 0] rfl)
      · rw [bz_f b_116] at er_115
        subst er_115
        refine lv_if_eq (tgt := 83) C.x C.b dX1_go_31 (by decide) (fun c_162 => ?_) (fun c_162 => absurd (by decide) c_162)
        refine lv_aload C.x C.b dX1_go_83 (lv_at hl 3 rfl) ?_
        refine lv_aload_n C.x C.b dX1_go_85 rfl (lv_at hl 1 rfl) ?_
        refine lv_aload_n C.x C.b dX1_go_86 rfl (lv_at hl 0 rfl) ?_
        refine r_get ck1 flX1_18 C hS (by omega) a0 (by decide) rfl dX1_go_87 ?_
        refine r_callV (b := 1) (As := [.int pt1]) (rest := [.ref (B + i)]) (c_X3_has l D t B N gL 1 _ _ _ _ pt1 (by omega) ⟨e_103, e_106, e_109, e_112⟩) mf_yX3_has mlX1_30 im_yX3_has se_yX3_has (by decide) C hS (by omega) e_103 (show vwCl[3]? = some _ from rfl) rfl rfl hl.1 rfl (Nat.le_of_ble_eq_true rfl) dX1_go_90 ⟨Nat.zero_le _, Nat.zero_le _⟩ (fun r_165 g_163 H locs w_164 hS => ?_)
        obtain ⟨rfl, er_165⟩ := w_164
        rw [bz_f b_116] at er_165
        subst er_165
        refine r_put ck5 flX1_49 C hS (by omega) b0 (by decide) rfl (nar_z (by decide)) (fit_z (by decide)) (Nat.le_of_ble_eq_true rfl) dX1_go_93 (fun g_166 H locs e_167 o_168 hS => ?_)
        replace e_167 : g_166 i = .inr (5, [.ref (B + (i + 1)), .ref (B + (i + 2)), .ref (B + (i + 3)), .ref (B + (i + 4)), .ref (B + (i + 5)), .int (nI len1), .int st1, .int vi1, .int an, .int 0]) := e_167
        refine lv_aload C.x C.b dX1_go_96 (lv_at hl 3 rfl) ?_
        refine r_get ck5 flX1_49 C hS (by omega) e_167 (by decide) rfl dX1_go_98 ?_
        refine lv_if_eq (tgt := 120) C.x C.b dX1_go_101 (by decide) (fun c_169 => ?_) (fun c_169 => absurd (by decide) c_169)
        refine lv_aload C.x C.b dX1_go_120 (lv_at hl 3 rfl) ?_
        refine lv_aload_n C.x C.b dX1_go_122 rfl (lv_at hl 0 rfl) ?_
        have e_170 : g_166 6 = .inr (1, [.ref (B + (6 + 1)), .ref (B + (6 + 2)), .int pt1]) := (o_168 _ (by omega)).trans a0
        refine r_get ck1 flX1_9 C hS (by omega) e_170 (by decide) rfl dX1_go_123 ?_
        refine lv_iconst (v := 0) C.x C.b dX1_go_126 (by decide) ?_
        have e_171 : g_166 (6 + 1) = .inl (t.1, 4, .inl rg1) := (o_168 _ (by omega)).trans a1
        refine r_ialdN 0 rfl (by omega) (by decide) C hS (by omega) e_171 dX1_go_127 ?_
        refine r_put ck5 flX1_53 C hS (by omega) e_167 (by decide) rfl rfl rfl (Nat.le_of_ble_eq_true rfl) dX1_go_128 (fun g_172 H locs e_173 o_174 hS => ?_)
        replace e_173 : g_172 i = .inr (5, [.ref (B + (i + 1)), .ref (B + (i + 2)), .ref (B + (i + 3)), .ref (B + (i + 4)), .ref (B + (i + 5)), .int (nI len1), .int st1, .int vi1, .int (rg1 0), .int 0]) := e_173
        have hg_175 := (gor_stop b_116).symm.trans hG
        replace hg_175 : (gor o n ey wi 40 (rg0 rg op se, cpF w mm 8, 0, ep, ew, en, zf ct 8, zf ec 8, 0, 0, 0)) = (rg1, mm1, pt1, ep1, ew1, en1, ct1, ec1, len1, st1, vi1) := hg_175.symm
        have e_176 : g_172 6 = .inr (1, [.ref (B + (6 + 1)), .ref (B + (6 + 2)), .int pt1]) := (o_174 _ (by omega)).trans e_170
        have e_177 : g_172 (6 + 1) = .inl (t.1, 4, .inl rg1) := (o_174 _ (by omega)).trans e_171
        have e_178 : g_166 (6 + 2) = .inl (t.1, 8, .inl mm1) := (o_168 _ (by omega)).trans a2
        have e_179 : g_172 (6 + 2) = .inl (t.1, 8, .inl mm1) := (o_174 _ (by omega)).trans e_178
        have e_180 : g_166 (i + 1) = .inl (t.1, 40, .inl ep1) := (o_168 _ (by omega)).trans b1
        have e_181 : g_172 (i + 1) = .inl (t.1, 40, .inl ep1) := (o_174 _ (by omega)).trans e_180
        have e_182 : g_166 (i + 2) = .inl (t.1, 40, .inl ew1) := (o_168 _ (by omega)).trans b2
        have e_183 : g_172 (i + 2) = .inl (t.1, 40, .inl ew1) := (o_174 _ (by omega)).trans e_182
        have e_184 : g_166 (i + 3) = .inl (t.1, 40, .inl en1) := (o_168 _ (by omega)).trans b3
        have e_185 : g_172 (i + 3) = .inl (t.1, 40, .inl en1) := (o_174 _ (by omega)).trans e_184
        have e_186 : g_166 (i + 4) = .inl (t.1, 8, .inl ct1) := (o_168 _ (by omega)).trans b4
        have e_187 : g_172 (i + 4) = .inl (t.1, 8, .inl ct1) := (o_174 _ (by omega)).trans e_186
        have e_188 : g_166 (i + 5) = .inl (t.1, 8, .inl ec1) := (o_168 _ (by omega)).trans b5
        have e_189 : g_172 (i + 5) = .inl (t.1, 8, .inl ec1) := (o_174 _ (by omega)).trans e_188
        exact r_vret C hr hlocks hS ⟨by rw [hg_175]; exact ⟨⟨e_176, e_177, e_179⟩, by show isRun t B _ i ep1 ew1 en1 ct1 ec1 len1 st1 (viF n pt1 vi1) (rg1 0) (bz (inP n pt1)); rw [bz_f b_116, viF_f b_116]; exact ⟨e_173, e_181, e_183, e_185, e_187, e_189⟩⟩, fun j hj => (o_174 j (by omega)).trans ((o_168 j (by omega)).trans ((hfL j (by omega)).trans ((hf_23 j (by omega)).trans (hf_7 j (by omega)))))⟩ dX1_go_131
  have e_190 : g_14 6 = .inr (1, [.ref (B + (6 + 1)), .ref (B + (6 + 2)), .int 0]) := (hf_23 _ (by omega)).trans e_4
  have e_191 : g_14 (6 + 1) = .inl (t.1, 4, .inl (rg0 rg op se)) := (hf_23 _ (by omega)).trans e_5
  have e_192 : g_14 (6 + 2) = .inl (t.1, 8, .inl (cpF w mm 8)) := (hf_23 _ (by omega)).trans e_6
  exact lp 40 0 _ _ _ _ _ _ _ _ _ _ _ g_14 _ _ _ (by omega) (by omega) rfl ⟨e_190, e_191, e_192⟩ ⟨e_17, e_18, e_19, e_20, e_21, e_22⟩ (fun _ _ => rfl) hS (lv_sub hl [1, 2, 3, 6, 0] rfl)
end
section
abbrev RW : Type := (Nat → Int32) × (Nat → Int32) × (Nat → Int32) × Nat
def radd (S : RW) (x y z : Int32) : RW := (upd S.1 S.2.2.2 x, upd S.2.1 S.2.2.2 y, upd S.2.2.1 S.2.2.2 z, S.2.2.2 + 1)
/-- the first k events that no even place hides -/
def rowF (ev : Int32) (ep ew en : Nat → Int32) (S : RW) : Nat → RW
  | 0 => S
  | k + 1 => if ((ev >>> (ep k &&& 31)) &&& 1) = 0 then radd (rowF ev ep ew en S k) (ep k) (ew k) (en k) else rowF ev ep ew en S k
theorem rowF_le (ev : Int32) (ep2 ew2 en2 ep ew en : Nat → Int32) : ∀ k, (rowF ev ep2 ew2 en2 (ep, ew, en, 0) k).2.2.2 ≤ k
  | 0 => Nat.le_refl 0
  | k + 1 => by
    have h := rowF_le ev ep2 ew2 en2 ep ew en k
    rw [rowF]
    split
    · show (rowF ev ep2 ew2 en2 (ep, ew, en, 0) k).2.2.2 + 1 ≤ k + 1
      omega
    · omega
def rowC (ey ev : Int32) (ct ec : Nat → Int32) (sp : Int32) (S : RW) : RW := if (ey &&& 1) = 0 then S else radd S (-1) 1 (2 * cwF ct ec ev 8 + if sp = 0 then 0 else 1)
def rowA (ey an : Int32) (S : RW) : RW := if (ey &&& 8) = 0 then S else radd S (-1) 8 an
/-- what the eyes ey see of a run, ev even, laid over S -/
def fillF (ey ev : Int32) (ep ew en ct ec : Nat → Int32) (len : Nat) (an sp : Int32) (S : RW) : RW := rowA ey an (rowC ey ev ct ec sp (rowF ev ep ew en S len))
theorem fillF_le (ey ev : Int32) (ep2 ew2 en2 ct ec : Nat → Int32) (len : Nat) (an sp : Int32) (ep ew en : Nat → Int32) (h : len ≤ 40) : (fillF ey ev ep2 ew2 en2 ct ec len an sp (ep, ew, en, 0)).2.2.2 ≤ 42 := by
  have h1 := rowF_le ev ep2 ew2 en2 ep ew en len
  unfold fillF rowA rowC radd
  split <;> split <;> (try dsimp only) <;> omega
abbrev isRowS (t : Gx) (B : Nat) (g : Nat → va_E) (i : Nat) (S : RW) : Prop := isRow t B g i S.1 S.2.1 S.2.2.1 S.2.2.2
def minF (x y : Int32) : Int32 := if y < x then y else x
def maxF (x y : Int32) : Int32 := if x < y then y else x
theorem minF_nI {a b : Nat} (ha : a < 2 ^ 31) (hb : b < 2 ^ 31) : minF (nI a) (nI b) = nI (min a b) := by
  unfold minF
  by_cases h : b < a
  · rw [if_pos (nI_lt h ha), Nat.min_eq_right (by omega)]
  · rw [if_neg (nI_nlt (by omega) hb), Nat.min_eq_left (by omega)]
theorem maxF_nI {a b : Nat} (ha : a < 2 ^ 31) (hb : b < 2 ^ 31) : maxF (nI a) (nI b) = nI (max a b) := by
  unfold maxF
  by_cases h : a < b
  · rw [if_pos (nI_lt h hb), Nat.max_eq_right (by omega)]
  · rw [if_neg (nI_nlt (by omega) ha), Nat.max_eq_left (by omega)]
theorem co_min : Cond.code Lib.Math.min.name Lib.Math.min.code 2 (some .int) ∈ lw_good := mgT 411 (by decide +kernel) rfl
theorem co_max : Cond.code Lib.Math.max.name Lib.Math.max.code 2 (some .int) ∈ lw_good := mgT 422 (by decide +kernel) rfl
section RM
variable {p : Program} {l : Launch} {e : Env} {R : Room} {s : State} {m : MethodId} {args : Array Value} {below : List Frame} {meth : Method} {c : Code} {H : Heap} {locs : List Loc} {cells slots : Nat} {Q : State → Prop}
variable {cc : ByteArray} {pc nL : Nat} {ls : Array Slot} {rest : List Value} {D : va_G} {t : Gx} {own : String} {index : Nat}
theorem r_mmin (hl : Cond.methodLink own index yJ9_min_7cf53 ∈ lw_good) (C : Cx D t p s m args c cc nL own) (hsize : ls.size = nL) (hfr : 1 ≤ R.frames) (hlo : (rest.map fun v => v.category).sum + 13 ≤ R.locals) (hcs : cells ≤ R.cells ∧ slots ≤ R.slots) {x y : Int32} (hdg : decode cc pc = .ok (.invokestatic index, 3))
    (kk : W p l e R s m args below meth c H locs cells slots Q (F0 m (pc + 3) ls (.int (minF x y) :: rest))) : W p l e R s m args below meth c H locs cells slots Q (F0 m pc ls (.int y :: .int x :: rest)) :=
  va_mmin C.x C.b (C.1.2.2.1.trans hsize.symm) C.o (C.w hl) (C.w sm_yJ9_min_7cf53) (C.w ini_J9) (C.w co_min) hfr hlo hcs.1 hcs.2 hdg kk
theorem r_mmax (hl : Cond.methodLink own index yJ9_max_7cf53 ∈ lw_good) (C : Cx D t p s m args c cc nL own) (hsize : ls.size = nL) (hfr : 1 ≤ R.frames) (hlo : (rest.map fun v => v.category).sum + 13 ≤ R.locals) (hcs : cells ≤ R.cells ∧ slots ≤ R.slots) {x y : Int32} (hdg : decode cc pc = .ok (.invokestatic index, 3))
    (kk : W p l e R s m args below meth c H locs cells slots Q (F0 m (pc + 3) ls (.int (maxF x y) :: rest))) : W p l e R s m args below meth c H locs cells slots Q (F0 m pc ls (.int y :: .int x :: rest)) :=
  va_mmax C.x C.b (C.1.2.2.1.trans hsize.symm) C.o (C.w hl) (C.w sm_yJ9_max_7cf53) (C.w ini_J9) (C.w co_max) hfr hlo hcs.1 hcs.2 hdg kk
end RM
def bc1 (x : Int32) : Int32 := x - (ush x 1 &&& 1431655765)
def bc2 (x : Int32) : Int32 := (x &&& 858993459) + (ush x 2 &&& 858993459)
def bc3 (x : Int32) : Int32 := (x + ush x 4) &&& 252645135
def bc4 (x : Int32) : Int32 := x + ush x 8
def bc5 (x : Int32) : Int32 := x + ush x 16
def bcF (x : Int32) : Int32 := bc5 (bc4 (bc3 (bc2 (bc1 x)))) &&& 63
/-- r is the first difference of two rows, or -1 -/
def foS (w1 n1 : Nat → Int32) (l1 : Nat) (w2 n2 : Nat → Int32) (l2 : Nat) (r : Int32) : Prop := (l1 = l2 ∧ (∀ q, q < l1 → w1 q = w2 q ∧ n1 q = n2 q) ∧ r = -1) ∨ ∃ k, k ≤ l1 ∧ k ≤ l2 ∧ (k < l1 ∨ k < l2) ∧ (∀ q, q < k → w1 q = w2 q ∧ n1 q = n2 q) ∧ (k < l1 → k < l2 → ¬ (w1 k = w2 k ∧ n1 k = n2 k)) ∧ r = nI k
set_option maxHeartbeats 1000000 in
set_option maxRecDepth 100000 in
theorem c_X4_has (l : Launch) (D : va_G) (t : Gx) (B N : Nat) (g : Nat → va_E) (i : Nat) (ep ew en : Nat → Int32) (len : Nat) (x : Int32) (hi : i + 3 < N) (hR : isRow t B g i ep ew en len) : Ci l D t B N yX4_has cX4_has 2 (some .boolean) 0 0 g [.ref (B + i), .int x] (fun r g' => g = g' ∧ r = bz (inP len x)) := by
  refine Ci.start (by decide) (Nat.le_of_ble_eq_true rfl) ?_
  intro p e s m below meth c ls C hr hlocks hS hl
  replace C : Cx D t p s m [.ref (B + i), .int x].toArray c cX4_has 2 RX4 := C
  replace hl : lv_has ls 2 [(0, .ref (B + i)), (1, .int x)] := hl
  obtain ⟨e0, e1, e2, e3⟩ := hR
  refine lv_iload_n C.x C.b dX4_has_0 rfl (lv_at hl 1 rfl) ?_
  refine lv_if_lt (tgt := 16) C.x C.b dX4_has_1 (by decide) (fun c_1 => ?_) (fun c_1 => ?_)
  · skip
    refine lv_iconst (v := 0) C.x C.b dX4_has_16 (by decide) ?_
    exact r_zret C hr hlocks hS (by decide) ⟨rfl, (bz_f (fun q => q.1 c_1)).symm⟩ dX4_has_17
  · skip
    refine lv_iload_n C.x C.b dX4_has_4 rfl (lv_at hl 1 rfl) ?_
    refine lv_aload_n C.x C.b dX4_has_5 rfl (lv_at hl 0 rfl) ?_
    refine r_get ck4 flX4_21 C hS (by omega) e0 (by decide) rfl dX4_has_6 ?_
    refine lv_icmp_ge (tgt := 16) C.x C.b dX4_has_9 (by decide) (fun c_2 => ?_) (fun c_2 => ?_)
    · skip
      refine lv_iconst (v := 0) C.x C.b dX4_has_16 (by decide) ?_
      exact r_zret C hr hlocks hS (by decide) ⟨rfl, (bz_f (fun q => q.2 c_2)).symm⟩ dX4_has_17
    · skip
      refine lv_iconst (v := 1) C.x C.b dX4_has_12 (by decide) ?_
      refine lv_goto (tgt := 17) C.x C.b dX4_has_13 (by decide) ?_
      exact r_zret C hr hlocks hS (by decide) ⟨rfl, (bz_t ⟨c_1, c_2⟩).symm⟩ dX4_has_17
set_option maxHeartbeats 1000000 in
set_option maxRecDepth 100000 in
theorem c_X4_add (l : Launch) (D : va_G) (t : Gx) (B N : Nat) (g : Nat → va_E) (i : Nat) (ep ew en : Nat → Int32) (len : Nat) (x y z : Int32) (hi : i + 3 < N) (hR : isRow t B g i ep ew en len) (hn : len < 42) : Cv l D t B N N 0 0 yX4_add cX4_add 4 0 0 g [.ref (B + i), .int x, .int y, .int z] (fun g' => isRow t B g' i (upd ep len x) (upd ew len y) (upd en len z) (len + 1) ∧ ∀ j, (j < i ∨ i + 3 < j) → g' j = g j) := by
  refine Cv.start (by decide) (Nat.le_of_ble_eq_true rfl) ?_
  intro p e s m below meth c ls C hr hlocks hnm hS hl
  replace C : Cx D t p s m [.ref (B + i), .int x, .int y, .int z].toArray c cX4_add 4 RX4 := C
  replace hl : lv_has ls 4 [(0, .ref (B + i)), (1, .int x), (2, .int y), (3, .int z)] := hl
  obtain ⟨e0, e1, e2, e3⟩ := hR
  refine lv_aload_n C.x C.b dX4_add_0 rfl (lv_at hl 0 rfl) ?_
  refine r_get ck4 flX4_21 C hS (by omega) e0 (by decide) rfl dX4_add_1 ?_
  refine lv_bipush (v := 42) C.x C.b dX4_add_4 (by decide) ?_
  refine lv_icmp_lt (tgt := 10) C.x C.b dX4_add_6 (by decide) (fun c_1 => ?_) (fun c_1 => absurd (nI_lt hn (by decide)) c_1)
  refine lv_aload_n C.x C.b dX4_add_10 rfl (lv_at hl 0 rfl) ?_
  refine r_get ck4 flX4_11 C hS (by omega) e0 (by decide) rfl dX4_add_11 ?_
  refine lv_aload_n C.x C.b dX4_add_14 rfl (lv_at hl 0 rfl) ?_
  refine r_get ck4 flX4_21 C hS (by omega) e0 (by decide) rfl dX4_add_15 ?_
  refine lv_iload_n C.x C.b dX4_add_18 rfl (lv_at hl 1 rfl) ?_
  refine r_iastN len rfl (by omega) (by decide) C hS (by omega) e1 dX4_add_19 (fun g_2 H locs e_3 o_4 hS => ?_)
  replace e_3 : g_2 (i + 1) = .inl (t.1, 42, .inl (upd ep len x)) := e_3
  refine lv_aload_n C.x C.b dX4_add_20 rfl (lv_at hl 0 rfl) ?_
  have e_5 : g_2 i = .inr (4, [.ref (B + (i + 1)), .ref (B + (i + 2)), .ref (B + (i + 3)), .int (nI len)]) := (o_4 _ (by omega)).trans e0
  refine r_get ck4 flX4_15 C hS (by omega) e_5 (by decide) rfl dX4_add_21 ?_
  refine lv_aload_n C.x C.b dX4_add_24 rfl (lv_at hl 0 rfl) ?_
  refine r_get ck4 flX4_21 C hS (by omega) e_5 (by decide) rfl dX4_add_25 ?_
  refine lv_iload_n C.x C.b dX4_add_28 rfl (lv_at hl 2 rfl) ?_
  have e_6 : g_2 (i + 2) = .inl (t.1, 42, .inl ew) := (o_4 _ (by omega)).trans e2
  refine r_iastN len rfl (by omega) (by decide) C hS (by omega) e_6 dX4_add_29 (fun g_7 H locs e_8 o_9 hS => ?_)
  replace e_8 : g_7 (i + 2) = .inl (t.1, 42, .inl (upd ew len y)) := e_8
  refine lv_aload_n C.x C.b dX4_add_30 rfl (lv_at hl 0 rfl) ?_
  have e_10 : g_7 i = .inr (4, [.ref (B + (i + 1)), .ref (B + (i + 2)), .ref (B + (i + 3)), .int (nI len)]) := (o_9 _ (by omega)).trans e_5
  refine r_get ck4 flX4_18 C hS (by omega) e_10 (by decide) rfl dX4_add_31 ?_
  refine lv_aload_n C.x C.b dX4_add_34 rfl (lv_at hl 0 rfl) ?_
  refine r_get ck4 flX4_21 C hS (by omega) e_10 (by decide) rfl dX4_add_35 ?_
  refine lv_iload_n C.x C.b dX4_add_38 rfl (lv_at hl 3 rfl) ?_
  have e_11 : g_2 (i + 3) = .inl (t.1, 42, .inl en) := (o_4 _ (by omega)).trans e3
  have e_12 : g_7 (i + 3) = .inl (t.1, 42, .inl en) := (o_9 _ (by omega)).trans e_11
  refine r_iastN len rfl (by omega) (by decide) C hS (by omega) e_12 dX4_add_39 (fun g_13 H locs e_14 o_15 hS => ?_)
  replace e_14 : g_13 (i + 3) = .inl (t.1, 42, .inl (upd en len z)) := e_14
  refine lv_aload_n C.x C.b dX4_add_40 rfl (lv_at hl 0 rfl) ?_
  refine lv_dup C.x C.b dX4_add_41 rfl ?_
  have e_16 : g_13 i = .inr (4, [.ref (B + (i + 1)), .ref (B + (i + 2)), .ref (B + (i + 3)), .int (nI len)]) := (o_15 _ (by omega)).trans e_10
  refine r_get ck4 flX4_21 C hS (by omega) e_16 (by decide) rfl dX4_add_42 ?_
  refine lv_iconst (v := 1) C.x C.b dX4_add_45 (by decide) ?_
  refine lv_iadd C.x C.b dX4_add_46 ?_
  refine r_top (y := nI (len + 1)) (nI_1 len) ?_
  refine r_put ck4 flX4_21 C hS (by omega) e_16 (by decide) rfl rfl rfl (Nat.le_of_ble_eq_true rfl) dX4_add_47 (fun g_17 H locs e_18 o_19 hS => ?_)
  replace e_18 : g_17 i = .inr (4, [.ref (B + (i + 1)), .ref (B + (i + 2)), .ref (B + (i + 3)), .int (nI (len + 1))]) := e_18
  have e_20 : g_7 (i + 1) = .inl (t.1, 42, .inl (upd ep len x)) := (o_9 _ (by omega)).trans e_3
  have e_21 : g_13 (i + 1) = .inl (t.1, 42, .inl (upd ep len x)) := (o_15 _ (by omega)).trans e_20
  have e_22 : g_17 (i + 1) = .inl (t.1, 42, .inl (upd ep len x)) := (o_19 _ (by omega)).trans e_21
  have e_23 : g_13 (i + 2) = .inl (t.1, 42, .inl (upd ew len y)) := (o_15 _ (by omega)).trans e_8
  have e_24 : g_17 (i + 2) = .inl (t.1, 42, .inl (upd ew len y)) := (o_19 _ (by omega)).trans e_23
  have e_25 : g_17 (i + 3) = .inl (t.1, 42, .inl (upd en len z)) := (o_19 _ (by omega)).trans e_14
  exact r_vret C hr hlocks hS ⟨⟨e_18, e_22, e_24, e_25⟩, fun j hj => (o_19 j (by omega)).trans ((o_15 j (by omega)).trans ((o_9 j (by omega)).trans (o_4 j (by omega))))⟩ dX4_add_50
set_option maxHeartbeats 1000000 in
set_option maxRecDepth 100000 in
theorem c_X4_fill (l : Launch) (D : va_G) (t : Gx) (B N : Nat) (g : Nat → va_E) (i : Nat) (ep ew en : Nat → Int32) (len : Nat) (i2 : Nat) (ep2 ew2 en2 ct ec : Nat → Int32) (ln2 : Nat) (st vi an sp : Int32) (ey ev : Int32) (hi : i + 3 < N) (hR : isRow t B g i ep ew en len) (hi2 : i2 + 5 < N) (hd : i + 3 < i2 ∨ i2 + 5 < i) (hR2 : isRun t B g i2 ep2 ew2 en2 ct ec ln2 st vi an sp) (hn2 : ln2 ≤ 40) : Cv l D t B N N 0 0 yX4_fill cX4_fill 5 1 23 g [.ref (B + i), .ref (B + i2), .int ey, .int ev] (fun g' => isRowS t B g' i (fillF ey ev ep2 ew2 en2 ct ec ln2 an sp (ep, ew, en, 0)) ∧ ∀ j, (j < i ∨ i + 3 < j) → g' j = g j) := by
  refine Cv.start (by decide) (Nat.le_of_ble_eq_true rfl) ?_
  intro p e s m below meth c ls C hr hlocks hnm hS hl
  replace C : Cx D t p s m [.ref (B + i), .ref (B + i2), .int ey, .int ev].toArray c cX4_fill 5 RX4 := C
  replace hl : lv_has ls 5 [(0, .ref (B + i)), (1, .ref (B + i2)), (2, .int ey), (3, .int ev)] := hl
  obtain ⟨e0, e1, e2, e3⟩ := hR
  obtain ⟨f0, f1, f2, f3, f4, f5⟩ := hR2
  refine lv_aload_n C.x C.b dX4_fill_0 rfl (lv_at hl 0 rfl) ?_
  refine lv_iconst (v := 0) C.x C.b dX4_fill_1 (by decide) ?_
  refine r_put ck4 flX4_21 C hS (by omega) e0 (by decide) rfl rfl rfl (Nat.le_of_ble_eq_true rfl) dX4_fill_2 (fun g_1 H locs e_2 o_3 hS => ?_)
  replace e_2 : g_1 i = .inr (4, [.ref (B + (i + 1)), .ref (B + (i + 2)), .ref (B + (i + 3)), .int 0]) := e_2
  refine lv_iconst (v := 0) C.x C.b dX4_fill_5 (by decide) ?_
  refine lv_istore (lv' := [(4, .int 0), (0, .ref (B + i)), (1, .ref (B + i2)), (2, .int ey), (3, .int ev)]) C.x C.b dX4_fill_6 hl (by decide) rfl (fun ls hl => ?_)
  have lp_4 : ∀ (u_5 k_6 : Nat) (g_10 : Nat → va_E) (H : Heap) (locs : List Loc) (ls : Array Slot), k_6 + u_5 = ln2 → (g_10 i = .inr (4, [.ref (B + (i + 1)), .ref (B + (i + 2)), .ref (B + (i + 3)), .int (nI (rowF ev ep2 ew2 en2 (ep, ew, en, 0) k_6).2.2.2)])) → (g_10 (i + 1) = .inl (t.1, 42, .inl ((rowF ev ep2 ew2 en2 (ep, ew, en, 0) k_6).1))) → (g_10 (i + 2) = .inl (t.1, 42, .inl ((rowF ev ep2 ew2 en2 (ep, ew, en, 0) k_6).2.1))) → (g_10 (i + 3) = .inl (t.1, 42, .inl ((rowF ev ep2 ew2 en2 (ep, ew, en, 0) k_6).2.2.1))) → (∀ j, (j < i ∨ i + 3 < j) → g_10 j = g_1 j) → St D B s.heap N g_10 H locs → lv_has ls 5 [(0, .ref (B + i)), (1, .ref (B + i2)), (2, .int ey), (3, .int ev), (4, .int (nI k_6))] → W p l e (rmOf 1 23 0 0) s m [.ref (B + i), .ref (B + i2), .int ey, .int ev].toArray below meth c H locs 0 0 (MQ below (qV D B N (fun g' => isRowS t B g' i (fillF ey ev ep2 ew2 en2 ct ec ln2 an sp (ep, ew, en, 0)) ∧ ∀ j, (j < i ∨ i + 3 < j) → g' j = g j)) [.ref (B + i), .ref (B + i2), .int ey, .int ev].toArray s 0 0 (fun q => B ≤ q)) (F0 m 8 ls []) := by
    intro u_5
    induction u_5 with
    | zero =>
      intro k_6 g_10 H locs ls hk_7 e_11 e_12 e_13 e_14 hf_9 hS hl
      obtain rfl : ln2 = k_6 := by omega
      refine lv_iload C.x C.b dX4_fill_8 (lv_at hl 4 rfl) ?_
      refine lv_aload_n C.x C.b dX4_fill_10 rfl (lv_at hl 1 rfl) ?_
      have e_15 : g_1 i2 = .inr (5, [.ref (B + (i2 + 1)), .ref (B + (i2 + 2)), .ref (B + (i2 + 3)), .ref (B + (i2 + 4)), .ref (B + (i2 + 5)), .int (nI ln2), .int st, .int vi, .int an, .int sp]) := (o_3 _ (by omega)).trans f0
      have e_16 : g_10 i2 = .inr (5, [.ref (B + (i2 + 1)), .ref (B + (i2 + 2)), .ref (B + (i2 + 3)), .ref (B + (i2 + 4)), .ref (B + (i2 + 5)), .int (nI ln2), .int st, .int vi, .int an, .int sp]) := (hf_9 _ (by omega)).trans e_15
      refine r_get ck5 flX4_25 C hS (by omega) e_16 (by decide) rfl dX4_fill_11 ?_
      refine lv_icmp_ge (tgt := 62) C.x C.b dX4_fill_14 (by decide) (fun c_17 => ?_) (fun c_17 => absurd (nI_le (Nat.le_refl _) (by omega)) c_17)
      refine lv_iload_n C.x C.b dX4_fill_62 rfl (lv_at hl 2 rfl) ?_
      refine lv_iconst (v := 1) C.x C.b dX4_fill_63 (by decide) ?_
      refine lv_iand C.x C.b dX4_fill_64 ?_
      refine lv_if_eq (tgt := 94) C.x C.b dX4_fill_65 (by decide) (fun c_18 => ?_) (fun c_18 => ?_)
      · skip
        refine lv_iload_n C.x C.b dX4_fill_94 rfl (lv_at hl 2 rfl) ?_
        refine lv_bipush (v := 8) C.x C.b dX4_fill_95 (by decide) ?_
        refine lv_iand C.x C.b dX4_fill_97 ?_
        refine lv_if_eq (tgt := 112) C.x C.b dX4_fill_98 (by decide) (fun c_19 => ?_) (fun c_19 => ?_)
        · skip
          exact r_vret C hr hlocks hS ⟨by rw [fillF, rowA, rowC, if_pos c_19, if_pos c_18]; exact ⟨e_11, e_12, e_13, e_14⟩, fun j hj => (hf_9 j (by omega)).trans (o_3 j (by omega))⟩ dX4_fill_112
        · skip
          refine lv_aload_n C.x C.b dX4_fill_101 rfl (lv_at hl 0 rfl) ?_
          refine lv_iconst (v := (-1)) C.x C.b dX4_fill_102 (by decide) ?_
          refine lv_bipush (v := 8) C.x C.b dX4_fill_103 (by decide) ?_
          refine lv_aload_n C.x C.b dX4_fill_105 rfl (lv_at hl 1 rfl) ?_
          refine r_get ck5 flX4_43 C hS (by omega) e_16 (by decide) rfl dX4_fill_106 ?_
          refine r_callVv (b := i) (As := [.int (-1), .int 8, .int an]) (rest := []) (c_X4_add l D t B N g_10 i _ _ _ ((rowF ev ep2 ew2 en2 (ep, ew, en, 0) ln2).2.2.2) (-1) 8 an (by omega) ⟨e_11, e_12, e_13, e_14⟩ (by have := rowF_le ev ep2 ew2 en2 ep ew en ln2; omega)) mf_yX4_add mlX4_31 im_yX4_add se_yX4_add (by decide) C hS (by omega) e_11 (show vwCl[4]? = some _ from rfl) rfl rfl hl.1 rfl (Nat.le_of_ble_eq_true rfl) dX4_fill_109 ⟨Nat.zero_le _, Nat.zero_le _⟩ (fun g_20 H locs w_21 hS => ?_)
          obtain ⟨⟨e_23, e_24, e_25, e_26⟩, hf_27⟩ := w_21
          exact r_vret C hr hlocks hS ⟨by rw [fillF, rowA, rowC, if_neg c_19, if_pos c_18]; exact ⟨e_23, e_24, e_25, e_26⟩, fun j hj => (hf_27 j (by omega)).trans ((hf_9 j (by omega)).trans (o_3 j (by omega)))⟩ dX4_fill_112
      · skip
        refine lv_aload_n C.x C.b dX4_fill_68 rfl (lv_at hl 0 rfl) ?_
        refine lv_iconst (v := (-1)) C.x C.b dX4_fill_69 (by decide) ?_
        refine lv_iconst (v := 1) C.x C.b dX4_fill_70 (by decide) ?_
        refine lv_iconst (v := 2) C.x C.b dX4_fill_71 (by decide) ?_
        refine lv_aload_n C.x C.b dX4_fill_72 rfl (lv_at hl 1 rfl) ?_
        refine lv_iload_n C.x C.b dX4_fill_73 rfl (lv_at hl 3 rfl) ?_
        have e_28 : g_1 (i2 + 1) = .inl (t.1, 40, .inl ep2) := (o_3 _ (by omega)).trans f1
        have e_29 : g_10 (i2 + 1) = .inl (t.1, 40, .inl ep2) := (hf_9 _ (by omega)).trans e_28
        have e_30 : g_1 (i2 + 2) = .inl (t.1, 40, .inl ew2) := (o_3 _ (by omega)).trans f2
        have e_31 : g_10 (i2 + 2) = .inl (t.1, 40, .inl ew2) := (hf_9 _ (by omega)).trans e_30
        have e_32 : g_1 (i2 + 3) = .inl (t.1, 40, .inl en2) := (o_3 _ (by omega)).trans f3
        have e_33 : g_10 (i2 + 3) = .inl (t.1, 40, .inl en2) := (hf_9 _ (by omega)).trans e_32
        have e_34 : g_1 (i2 + 4) = .inl (t.1, 8, .inl ct) := (o_3 _ (by omega)).trans f4
        have e_35 : g_10 (i2 + 4) = .inl (t.1, 8, .inl ct) := (hf_9 _ (by omega)).trans e_34
        have e_36 : g_1 (i2 + 5) = .inl (t.1, 8, .inl ec) := (o_3 _ (by omega)).trans f5
        have e_37 : g_10 (i2 + 5) = .inl (t.1, 8, .inl ec) := (hf_9 _ (by omega)).trans e_36
        refine r_callV (b := i2) (As := [.int ev]) (rest := [.int 2, .int 1, .int (-1), .ref (B + i)]) (c_X5_costWith l D t B N g_10 i2 _ _ _ _ _ _ _ _ _ _ ev (by omega) ⟨e_16, e_29, e_31, e_33, e_35, e_37⟩) mf_yX5_costWith mlX4_35 im_yX5_costWith se_yX5_costWith (by decide) C hS (by omega) e_16 (show vwCl[5]? = some _ from rfl) rfl rfl hl.1 rfl (Nat.le_of_ble_eq_true rfl) dX4_fill_74 ⟨Nat.zero_le _, Nat.zero_le _⟩ (fun r_40 g_38 H locs w_39 hS => ?_)
        obtain ⟨rfl, er_40⟩ := w_39
        subst er_40
        refine lv_imul C.x C.b dX4_fill_77 ?_
        refine lv_aload_n C.x C.b dX4_fill_78 rfl (lv_at hl 1 rfl) ?_
        refine r_get ck5 flX4_39 C hS (by omega) e_16 (by decide) rfl dX4_fill_79 ?_
        refine lv_if_eq (tgt := 89) C.x C.b dX4_fill_82 (by decide) (fun c_41 => ?_) (fun c_41 => ?_)
        · skip
          refine lv_iconst (v := 0) C.x C.b dX4_fill_89 (by decide) ?_
          refine lv_iadd C.x C.b dX4_fill_90 ?_
          refine r_callVv (b := i) (As := [.int (-1), .int 1, .int ((2 * (cwF ct ec ev 8)) + 0)]) (rest := []) (c_X4_add l D t B N g_10 i _ _ _ ((rowF ev ep2 ew2 en2 (ep, ew, en, 0) ln2).2.2.2) (-1) 1 ((2 * (cwF ct ec ev 8)) + 0) (by omega) ⟨e_11, e_12, e_13, e_14⟩ (Nat.lt_of_le_of_lt (rowF_le ev ep2 ew2 en2 ep ew en _) (by omega))) mf_yX4_add mlX4_31 im_yX4_add se_yX4_add (by decide) C hS (by omega) e_11 (show vwCl[4]? = some _ from rfl) rfl rfl hl.1 rfl (Nat.le_of_ble_eq_true rfl) dX4_fill_91 ⟨Nat.zero_le _, Nat.zero_le _⟩ (fun g_42 H locs w_43 hS => ?_)
          obtain ⟨⟨e_45, e_46, e_47, e_48⟩, hf_49⟩ := w_43
          refine lv_iload_n C.x C.b dX4_fill_94 rfl (lv_at hl 2 rfl) ?_
          refine lv_bipush (v := 8) C.x C.b dX4_fill_95 (by decide) ?_
          refine lv_iand C.x C.b dX4_fill_97 ?_
          refine lv_if_eq (tgt := 112) C.x C.b dX4_fill_98 (by decide) (fun c_50 => ?_) (fun c_50 => ?_)
          · skip
            exact r_vret C hr hlocks hS ⟨by rw [fillF, rowA, rowC, if_pos c_50, if_neg c_18, if_pos c_41]; exact ⟨e_45, e_46, e_47, e_48⟩, fun j hj => (hf_49 j (by omega)).trans ((hf_9 j (by omega)).trans (o_3 j (by omega)))⟩ dX4_fill_112
          · skip
            refine lv_aload_n C.x C.b dX4_fill_101 rfl (lv_at hl 0 rfl) ?_
            refine lv_iconst (v := (-1)) C.x C.b dX4_fill_102 (by decide) ?_
            refine lv_bipush (v := 8) C.x C.b dX4_fill_103 (by decide) ?_
            refine lv_aload_n C.x C.b dX4_fill_105 rfl (lv_at hl 1 rfl) ?_
            have e_51 : g_42 i2 = .inr (5, [.ref (B + (i2 + 1)), .ref (B + (i2 + 2)), .ref (B + (i2 + 3)), .ref (B + (i2 + 4)), .ref (B + (i2 + 5)), .int (nI ln2), .int st, .int vi, .int an, .int sp]) := (hf_49 _ (by omega)).trans e_16
            refine r_get ck5 flX4_43 C hS (by omega) e_51 (by decide) rfl dX4_fill_106 ?_
            refine r_callVv (b := i) (As := [.int (-1), .int 8, .int an]) (rest := []) (c_X4_add l D t B N g_42 i _ _ _ (((rowF ev ep2 ew2 en2 (ep, ew, en, 0) ln2).2.2.2) + 1) (-1) 8 an (by omega) ⟨e_45, e_46, e_47, e_48⟩ (by have := rowF_le ev ep2 ew2 en2 ep ew en ln2; omega)) mf_yX4_add mlX4_31 im_yX4_add se_yX4_add (by decide) C hS (by omega) e_45 (show vwCl[4]? = some _ from rfl) rfl rfl hl.1 rfl (Nat.le_of_ble_eq_true rfl) dX4_fill_109 ⟨Nat.zero_le _, Nat.zero_le _⟩ (fun g_52 H locs w_53 hS => ?_)
            obtain ⟨⟨e_55, e_56, e_57, e_58⟩, hf_59⟩ := w_53
            exact r_vret C hr hlocks hS ⟨by rw [fillF, rowA, rowC, if_neg c_50, if_neg c_18, if_pos c_41]; exact ⟨e_55, e_56, e_57, e_58⟩, fun j hj => (hf_59 j (by omega)).trans ((hf_49 j (by omega)).trans ((hf_9 j (by omega)).trans (o_3 j (by omega))))⟩ dX4_fill_112
        · skip
          refine lv_iconst (v := 1) C.x C.b dX4_fill_85 (by decide) ?_
          refine lv_goto (tgt := 90) C.x C.b dX4_fill_86 (by decide) ?_
          refine lv_iadd C.x C.b dX4_fill_90 ?_
          refine r_callVv (b := i) (As := [.int (-1), .int 1, .int ((2 * (cwF ct ec ev 8)) + 1)]) (rest := []) (c_X4_add l D t B N g_10 i _ _ _ ((rowF ev ep2 ew2 en2 (ep, ew, en, 0) ln2).2.2.2) (-1) 1 ((2 * (cwF ct ec ev 8)) + 1) (by omega) ⟨e_11, e_12, e_13, e_14⟩ (Nat.lt_of_le_of_lt (rowF_le ev ep2 ew2 en2 ep ew en _) (by omega))) mf_yX4_add mlX4_31 im_yX4_add se_yX4_add (by decide) C hS (by omega) e_11 (show vwCl[4]? = some _ from rfl) rfl rfl hl.1 rfl (Nat.le_of_ble_eq_true rfl) dX4_fill_91 ⟨Nat.zero_le _, Nat.zero_le _⟩ (fun g_60 H locs w_61 hS => ?_)
          obtain ⟨⟨e_63, e_64, e_65, e_66⟩, hf_67⟩ := w_61
          refine lv_iload_n C.x C.b dX4_fill_94 rfl (lv_at hl 2 rfl) ?_
          refine lv_bipush (v := 8) C.x C.b dX4_fill_95 (by decide) ?_
          refine lv_iand C.x C.b dX4_fill_97 ?_
          refine lv_if_eq (tgt := 112) C.x C.b dX4_fill_98 (by decide) (fun c_68 => ?_) (fun c_68 => ?_)
          · skip
            exact r_vret C hr hlocks hS ⟨by rw [fillF, rowA, rowC, if_pos c_68, if_neg c_18, if_neg c_41]; exact ⟨e_63, e_64, e_65, e_66⟩, fun j hj => (hf_67 j (by omega)).trans ((hf_9 j (by omega)).trans (o_3 j (by omega)))⟩ dX4_fill_112
          · skip
            refine lv_aload_n C.x C.b dX4_fill_101 rfl (lv_at hl 0 rfl) ?_
            refine lv_iconst (v := (-1)) C.x C.b dX4_fill_102 (by decide) ?_
            refine lv_bipush (v := 8) C.x C.b dX4_fill_103 (by decide) ?_
            refine lv_aload_n C.x C.b dX4_fill_105 rfl (lv_at hl 1 rfl) ?_
            have e_69 : g_60 i2 = .inr (5, [.ref (B + (i2 + 1)), .ref (B + (i2 + 2)), .ref (B + (i2 + 3)), .ref (B + (i2 + 4)), .ref (B + (i2 + 5)), .int (nI ln2), .int st, .int vi, .int an, .int sp]) := (hf_67 _ (by omega)).trans e_16
            refine r_get ck5 flX4_43 C hS (by omega) e_69 (by decide) rfl dX4_fill_106 ?_
            refine r_callVv (b := i) (As := [.int (-1), .int 8, .int an]) (rest := []) (c_X4_add l D t B N g_60 i _ _ _ (((rowF ev ep2 ew2 en2 (ep, ew, en, 0) ln2).2.2.2) + 1) (-1) 8 an (by omega) ⟨e_63, e_64, e_65, e_66⟩ (by have := rowF_le ev ep2 ew2 en2 ep ew en ln2; omega)) mf_yX4_add mlX4_31 im_yX4_add se_yX4_add (by decide) C hS (by omega) e_63 (show vwCl[4]? = some _ from rfl) rfl rfl hl.1 rfl (Nat.le_of_ble_eq_true rfl) dX4_fill_109 ⟨Nat.zero_le _, Nat.zero_le _⟩ (fun g_70 H locs w_71 hS => ?_)
            obtain ⟨⟨e_73, e_74, e_75, e_76⟩, hf_77⟩ := w_71
            exact r_vret C hr hlocks hS ⟨by rw [fillF, rowA, rowC, if_neg c_68, if_neg c_18, if_neg c_41]; exact ⟨e_73, e_74, e_75, e_76⟩, fun j hj => (hf_77 j (by omega)).trans ((hf_67 j (by omega)).trans ((hf_9 j (by omega)).trans (o_3 j (by omega))))⟩ dX4_fill_112
    | succ u_5 ih_8 =>
      intro k_6 g_10 H locs ls hk_7 e_11 e_12 e_13 e_14 hf_9 hS hl
      refine lv_iload C.x C.b dX4_fill_8 (lv_at hl 4 rfl) ?_
      refine lv_aload_n C.x C.b dX4_fill_10 rfl (lv_at hl 1 rfl) ?_
      have e_78 : g_1 i2 = .inr (5, [.ref (B + (i2 + 1)), .ref (B + (i2 + 2)), .ref (B + (i2 + 3)), .ref (B + (i2 + 4)), .ref (B + (i2 + 5)), .int (nI ln2), .int st, .int vi, .int an, .int sp]) := (o_3 _ (by omega)).trans f0
      have e_79 : g_10 i2 = .inr (5, [.ref (B + (i2 + 1)), .ref (B + (i2 + 2)), .ref (B + (i2 + 3)), .ref (B + (i2 + 4)), .ref (B + (i2 + 5)), .int (nI ln2), .int st, .int vi, .int an, .int sp]) := (hf_9 _ (by omega)).trans e_78
      refine r_get ck5 flX4_25 C hS (by omega) e_79 (by decide) rfl dX4_fill_11 ?_
      refine lv_icmp_ge (tgt := 62) C.x C.b dX4_fill_14 (by decide) (fun c_80 => absurd c_80 (nI_ge (a := k_6) (b := ln2) (by omega) (by omega))) (fun c_80 => ?_)
      refine lv_iload_n C.x C.b dX4_fill_17 rfl (lv_at hl 3 rfl) ?_
      refine lv_aload_n C.x C.b dX4_fill_18 rfl (lv_at hl 1 rfl) ?_
      refine r_get ck5 flX4_28 C hS (by omega) e_79 (by decide) rfl dX4_fill_19 ?_
      refine lv_iload C.x C.b dX4_fill_22 (lv_at hl 4 rfl) ?_
      have e_81 : g_1 (i2 + 1) = .inl (t.1, 40, .inl ep2) := (o_3 _ (by omega)).trans f1
      have e_82 : g_10 (i2 + 1) = .inl (t.1, 40, .inl ep2) := (hf_9 _ (by omega)).trans e_81
      refine r_ialdN k_6 rfl (by omega) (by decide) C hS (by omega) e_82 dX4_fill_24 ?_
      refine lv_ishr C.x C.b dX4_fill_25 ?_
      refine lv_iconst (v := 1) C.x C.b dX4_fill_26 (by decide) ?_
      refine lv_iand C.x C.b dX4_fill_27 ?_
      refine lv_if_ne (tgt := 56) C.x C.b dX4_fill_28 (by decide) (fun c_83 => ?_) (fun c_83 => ?_)
      · skip
        refine lv_iinc (v := nI (k_6 + 1)) (lv' := [(4, .int (nI (k_6 + 1))), (0, .ref (B + i)), (1, .ref (B + i2)), (2, .int ey), (3, .int ev)]) C.x C.b dX4_fill_56 hl (k := 4) rfl (nI_1 k_6) (by decide) rfl (fun ls hl => ?_)
        refine lv_goto (tgt := 8) C.x C.b dX4_fill_59 (by decide) ?_
        have z_84 : (rowF ev ep2 ew2 en2 (ep, ew, en, 0) (k_6 + 1)) = (rowF ev ep2 ew2 en2 (ep, ew, en, 0) k_6) := if_neg c_83
        exact ih_8 (k_6 + 1) g_10 _ _ _ (by omega) (by rw [z_84]; exact e_11) (by rw [z_84]; exact e_12) (by rw [z_84]; exact e_13) (by rw [z_84]; exact e_14) (fun j hj => hf_9 j hj) hS (lv_sub hl [1, 2, 3, 4, 0] rfl)
      · skip
        refine lv_aload_n C.x C.b dX4_fill_31 rfl (lv_at hl 0 rfl) ?_
        refine lv_aload_n C.x C.b dX4_fill_32 rfl (lv_at hl 1 rfl) ?_
        refine r_get ck5 flX4_28 C hS (by omega) e_79 (by decide) rfl dX4_fill_33 ?_
        refine lv_iload C.x C.b dX4_fill_36 (lv_at hl 4 rfl) ?_
        refine r_ialdN k_6 rfl (by omega) (by decide) C hS (by omega) e_82 dX4_fill_38 ?_
        refine lv_aload_n C.x C.b dX4_fill_39 rfl (lv_at hl 1 rfl) ?_
        refine r_get ck5 flX4_29 C hS (by omega) e_79 (by decide) rfl dX4_fill_40 ?_
        refine lv_iload C.x C.b dX4_fill_43 (lv_at hl 4 rfl) ?_
        have e_85 : g_1 (i2 + 2) = .inl (t.1, 40, .inl ew2) := (o_3 _ (by omega)).trans f2
        have e_86 : g_10 (i2 + 2) = .inl (t.1, 40, .inl ew2) := (hf_9 _ (by omega)).trans e_85
        refine r_ialdN k_6 rfl (by omega) (by decide) C hS (by omega) e_86 dX4_fill_45 ?_
        refine lv_aload_n C.x C.b dX4_fill_46 rfl (lv_at hl 1 rfl) ?_
        refine r_get ck5 flX4_30 C hS (by omega) e_79 (by decide) rfl dX4_fill_47 ?_
        refine lv_iload C.x C.b dX4_fill_50 (lv_at hl 4 rfl) ?_
        have e_87 : g_1 (i2 + 3) = .inl (t.1, 40, .inl en2) := (o_3 _ (by omega)).trans f3
        have e_88 : g_10 (i2 + 3) = .inl (t.1, 40, .inl en2) := (hf_9 _ (by omega)).trans e_87
        refine r_ialdN k_6 rfl (by omega) (by decide) C hS (by omega) e_88 dX4_fill_52 ?_
        refine r_callVv (b := i) (As := [.int (ep2 k_6), .int (ew2 k_6), .int (en2 k_6)]) (rest := []) (c_X4_add l D t B N g_10 i _ _ _ ((rowF ev ep2 ew2 en2 (ep, ew, en, 0) k_6).2.2.2) (ep2 k_6) (ew2 k_6) (en2 k_6) (by omega) ⟨e_11, e_12, e_13, e_14⟩ (Nat.lt_of_le_of_lt (rowF_le ev ep2 ew2 en2 ep ew en _) (by omega))) mf_yX4_add mlX4_31 im_yX4_add se_yX4_add (by decide) C hS (by omega) e_11 (show vwCl[4]? = some _ from rfl) rfl rfl hl.1 rfl (Nat.le_of_ble_eq_true rfl) dX4_fill_53 ⟨Nat.zero_le _, Nat.zero_le _⟩ (fun g_89 H locs w_90 hS => ?_)
        obtain ⟨⟨e_92, e_93, e_94, e_95⟩, hf_96⟩ := w_90
        refine lv_iinc (v := nI (k_6 + 1)) (lv' := [(4, .int (nI (k_6 + 1))), (0, .ref (B + i)), (1, .ref (B + i2)), (2, .int ey), (3, .int ev)]) C.x C.b dX4_fill_56 hl (k := 4) rfl (nI_1 k_6) (by decide) rfl (fun ls hl => ?_)
        refine lv_goto (tgt := 8) C.x C.b dX4_fill_59 (by decide) ?_
        have z_97 : (rowF ev ep2 ew2 en2 (ep, ew, en, 0) (k_6 + 1)) = radd (rowF ev ep2 ew2 en2 (ep, ew, en, 0) k_6) (ep2 k_6) (ew2 k_6) (en2 k_6) := if_pos c_83
        exact ih_8 (k_6 + 1) g_89 _ _ _ (by omega) (by rw [z_97]; exact e_92) (by rw [z_97]; exact e_93) (by rw [z_97]; exact e_94) (by rw [z_97]; exact e_95) (fun j hj => (hf_96 j (by omega)).trans (hf_9 j hj)) hS (lv_sub hl [1, 2, 3, 4, 0] rfl)
  have e_98 : g_1 (i + 1) = .inl (t.1, 42, .inl ep) := (o_3 _ (by omega)).trans e1
  have e_99 : g_1 (i + 2) = .inl (t.1, 42, .inl ew) := (o_3 _ (by omega)).trans e2
  have e_100 : g_1 (i + 3) = .inl (t.1, 42, .inl en) := (o_3 _ (by omega)).trans e3
  exact lp_4 ln2 0 g_1 _ _ _ (by omega) e_2 e_98 e_99 e_100 (fun _ _ => rfl) hS (lv_sub hl [1, 2, 3, 4, 0] rfl)
set_option maxHeartbeats 1000000 in
set_option maxRecDepth 100000 in
theorem c_J6_bitCount_0f7a4 (l : Launch) (D : va_G) (t : Gx) (B N : Nat) (g : Nat → va_E) (x : Int32)  : Ci l D t B N yJ6_bitCount_0f7a4 cJ6_bitCount_0f7a4 1 (some .int) 0 0 g [.int x] (fun r g' => g = g' ∧ r = bcF x) := by
  refine Ci.start (by decide) (Nat.le_of_ble_eq_true rfl) ?_
  intro p e s m below meth c ls C hr hlocks hS hl
  replace C : Cx D t p s m [.int x].toArray c cJ6_bitCount_0f7a4 1 RJ6 := C
  replace hl : lv_has ls 1 [(0, .int x)] := hl
  refine lv_iload_n C.x C.b dJ6_bitCount_0f7a4_0 rfl (lv_at hl 0 rfl) ?_
  refine lv_iload_n C.x C.b dJ6_bitCount_0f7a4_1 rfl (lv_at hl 0 rfl) ?_
  refine lv_iconst (v := 1) C.x C.b dJ6_bitCount_0f7a4_2 (by decide) ?_
  refine lv_iushr (v := (ush x 1)) C.x C.b dJ6_bitCount_0f7a4_3 rfl ?_
  refine lv_ldcw (v := 1431655765) C.x C.b C.o (C.w kkJ6_265) dJ6_bitCount_0f7a4_4 ?_
  refine lv_iand C.x C.b dJ6_bitCount_0f7a4_7 ?_
  refine lv_isub C.x C.b dJ6_bitCount_0f7a4_8 ?_
  refine r_top (y := (bc1 x)) (rfl) ?_
  refine lv_istore_n (lv' := [(0, .int (bc1 x))]) C.x C.b dJ6_bitCount_0f7a4_9 rfl hl (by decide) rfl (fun ls hl => ?_)
  refine lv_iload_n C.x C.b dJ6_bitCount_0f7a4_10 rfl (lv_at hl 0 rfl) ?_
  refine lv_ldcw (v := 858993459) C.x C.b C.o (C.w kkJ6_266) dJ6_bitCount_0f7a4_11 ?_
  refine lv_iand C.x C.b dJ6_bitCount_0f7a4_14 ?_
  refine lv_iload_n C.x C.b dJ6_bitCount_0f7a4_15 rfl (lv_at hl 0 rfl) ?_
  refine lv_iconst (v := 2) C.x C.b dJ6_bitCount_0f7a4_16 (by decide) ?_
  refine lv_iushr (v := (ush (bc1 x) 2)) C.x C.b dJ6_bitCount_0f7a4_17 rfl ?_
  refine lv_ldcw (v := 858993459) C.x C.b C.o (C.w kkJ6_266) dJ6_bitCount_0f7a4_18 ?_
  refine lv_iand C.x C.b dJ6_bitCount_0f7a4_21 ?_
  refine lv_iadd C.x C.b dJ6_bitCount_0f7a4_22 ?_
  refine r_top (y := (bc2 (bc1 x))) (rfl) ?_
  refine lv_istore_n (lv' := [(0, .int (bc2 (bc1 x)))]) C.x C.b dJ6_bitCount_0f7a4_23 rfl hl (by decide) rfl (fun ls hl => ?_)
  refine lv_iload_n C.x C.b dJ6_bitCount_0f7a4_24 rfl (lv_at hl 0 rfl) ?_
  refine lv_iload_n C.x C.b dJ6_bitCount_0f7a4_25 rfl (lv_at hl 0 rfl) ?_
  refine lv_iconst (v := 4) C.x C.b dJ6_bitCount_0f7a4_26 (by decide) ?_
  refine lv_iushr (v := (ush (bc2 (bc1 x)) 4)) C.x C.b dJ6_bitCount_0f7a4_27 rfl ?_
  refine lv_iadd C.x C.b dJ6_bitCount_0f7a4_28 ?_
  refine lv_ldcw (v := 252645135) C.x C.b C.o (C.w kkJ6_267) dJ6_bitCount_0f7a4_29 ?_
  refine lv_iand C.x C.b dJ6_bitCount_0f7a4_32 ?_
  refine r_top (y := (bc3 (bc2 (bc1 x)))) (rfl) ?_
  refine lv_istore_n (lv' := [(0, .int (bc3 (bc2 (bc1 x))))]) C.x C.b dJ6_bitCount_0f7a4_33 rfl hl (by decide) rfl (fun ls hl => ?_)
  refine lv_iload_n C.x C.b dJ6_bitCount_0f7a4_34 rfl (lv_at hl 0 rfl) ?_
  refine lv_iload_n C.x C.b dJ6_bitCount_0f7a4_35 rfl (lv_at hl 0 rfl) ?_
  refine lv_bipush (v := 8) C.x C.b dJ6_bitCount_0f7a4_36 (by decide) ?_
  refine lv_iushr (v := (ush (bc3 (bc2 (bc1 x))) 8)) C.x C.b dJ6_bitCount_0f7a4_38 rfl ?_
  refine lv_iadd C.x C.b dJ6_bitCount_0f7a4_39 ?_
  refine r_top (y := (bc4 (bc3 (bc2 (bc1 x))))) (rfl) ?_
  refine lv_istore_n (lv' := [(0, .int (bc4 (bc3 (bc2 (bc1 x)))))]) C.x C.b dJ6_bitCount_0f7a4_40 rfl hl (by decide) rfl (fun ls hl => ?_)
  refine lv_iload_n C.x C.b dJ6_bitCount_0f7a4_41 rfl (lv_at hl 0 rfl) ?_
  refine lv_iload_n C.x C.b dJ6_bitCount_0f7a4_42 rfl (lv_at hl 0 rfl) ?_
  refine lv_bipush (v := 16) C.x C.b dJ6_bitCount_0f7a4_43 (by decide) ?_
  refine lv_iushr (v := (ush (bc4 (bc3 (bc2 (bc1 x)))) 16)) C.x C.b dJ6_bitCount_0f7a4_45 rfl ?_
  refine lv_iadd C.x C.b dJ6_bitCount_0f7a4_46 ?_
  refine r_top (y := (bc5 (bc4 (bc3 (bc2 (bc1 x)))))) (rfl) ?_
  refine lv_istore_n (lv' := [(0, .int (bc5 (bc4 (bc3 (bc2 (bc1 x))))))]) C.x C.b dJ6_bitCount_0f7a4_47 rfl hl (by decide) rfl (fun ls hl => ?_)
  refine lv_iload_n C.x C.b dJ6_bitCount_0f7a4_48 rfl (lv_at hl 0 rfl) ?_
  refine lv_bipush (v := 63) C.x C.b dJ6_bitCount_0f7a4_49 (by decide) ?_
  refine lv_iand C.x C.b dJ6_bitCount_0f7a4_51 ?_
  exact r_iret C hr hlocks hS ⟨rfl, rfl⟩ dJ6_bitCount_0f7a4_52
set_option maxHeartbeats 1000000 in
set_option maxRecDepth 100000 in
theorem c_X4_firstOtherwise (l : Launch) (D : va_G) (t : Gx) (B N : Nat) (g : Nat → va_E) (i : Nat) (ep ew en : Nat → Int32) (len : Nat) (i2 : Nat) (ep2 ew2 en2 : Nat → Int32) (len2 : Nat) (hi : i + 3 < N) (hR : isRow t B g i ep ew en len) (hi2 : i2 + 3 < N) (hR2 : isRow t B g i2 ep2 ew2 en2 len2) (hn : len ≤ 42) (hn2 : len2 ≤ 42) : Ci l D t B N yX4_firstOtherwise cX4_firstOtherwise 4 (some .int) 1 13 g [.ref (B + i), .ref (B + i2)] (fun r g' => g = g' ∧ foS ew en len ew2 en2 len2 r) := by
  refine Ci.start (by decide) (Nat.le_of_ble_eq_true rfl) ?_
  intro p e s m below meth c ls C hr hlocks hS hl
  replace C : Cx D t p s m [.ref (B + i), .ref (B + i2)].toArray c cX4_firstOtherwise 4 RX4 := C
  replace hl : lv_has ls 4 [(0, .ref (B + i)), (1, .ref (B + i2))] := hl
  obtain ⟨e0, e1, e2, e3⟩ := hR
  obtain ⟨f0, f1, f2, f3⟩ := hR2
  refine lv_aload_n C.x C.b dX4_firstOtherwise_0 rfl (lv_at hl 0 rfl) ?_
  refine r_get ck4 flX4_21 C hS (by omega) e0 (by decide) rfl dX4_firstOtherwise_1 ?_
  refine lv_aload_n C.x C.b dX4_firstOtherwise_4 rfl (lv_at hl 1 rfl) ?_
  refine r_get ck4 flX4_21 C hS (by omega) f0 (by decide) rfl dX4_firstOtherwise_5 ?_
  refine r_mmin mlX4_46 C hl.1 (by decide) (Nat.le_of_ble_eq_true rfl) ⟨Nat.zero_le _, Nat.zero_le _⟩ dX4_firstOtherwise_8 ?_
  refine r_top (y := nI (min len len2)) (minF_nI (by omega) (by omega)) ?_
  refine lv_istore_n (lv' := [(2, .int (nI (min len len2))), (0, .ref (B + i)), (1, .ref (B + i2))]) C.x C.b dX4_firstOtherwise_11 rfl hl (by decide) rfl (fun ls hl => ?_)
  refine lv_iconst (v := 0) C.x C.b dX4_firstOtherwise_12 (by decide) ?_
  refine lv_istore_n (lv' := [(3, .int 0), (2, .int (nI (min len len2))), (0, .ref (B + i)), (1, .ref (B + i2))]) C.x C.b dX4_firstOtherwise_13 rfl hl (by decide) rfl (fun ls hl => ?_)
  have lp_1 : ∀ (u_2 k_3 : Nat) (H : Heap) (locs : List Loc) (ls : Array Slot), k_3 + u_2 = (min len len2) → (∀ q, q < k_3 → ew q = ew2 q ∧ en q = en2 q) → St D B s.heap N g H locs → lv_has ls 4 [(2, .int (nI (min len len2))), (0, .ref (B + i)), (1, .ref (B + i2)), (3, .int (nI k_3))] → W p l e (rmOf 1 13 0 0) s m [.ref (B + i), .ref (B + i2)].toArray below meth c H locs 0 0 (MQ below (qI D B N (fun r g' => g = g' ∧ foS ew en len ew2 en2 len2 r)) [.ref (B + i), .ref (B + i2)].toArray s 0 0 (fun q => B ≤ q)) (F0 m 14 ls []) := by
    intro u_2
    induction u_2 with
    | zero =>
      intro k_3 H locs ls hk_4 hq hS hl
      obtain rfl : (min len len2) = k_3 := by omega
      refine lv_iload_n C.x C.b dX4_firstOtherwise_14 rfl (lv_at hl 3 rfl) ?_
      refine lv_iload_n C.x C.b dX4_firstOtherwise_15 rfl (lv_at hl 0 rfl) ?_
      refine lv_icmp_ge (tgt := 57) C.x C.b dX4_firstOtherwise_16 (by decide) (fun c_7 => ?_) (fun c_7 => absurd (nI_le (Nat.le_refl _) (by omega)) c_7)
      refine lv_aload_n C.x C.b dX4_firstOtherwise_57 rfl (lv_at hl 1 rfl) ?_
      refine r_get ck4 flX4_21 C hS (by omega) e0 (by decide) rfl dX4_firstOtherwise_58 ?_
      refine lv_aload_n C.x C.b dX4_firstOtherwise_61 rfl (lv_at hl 2 rfl) ?_
      refine r_get ck4 flX4_21 C hS (by omega) f0 (by decide) rfl dX4_firstOtherwise_62 ?_
      refine lv_icmp_ne (tgt := 72) C.x C.b dX4_firstOtherwise_65 (by decide) (fun c_8 => ?_) (fun c_8 => ?_)
      · skip
        refine lv_iload_n C.x C.b dX4_firstOtherwise_72 rfl (lv_at hl 0 rfl) ?_
        have hll : ¬ len = len2 := fun q => c_8 (by rw [q])
        exact r_iret C hr hlocks hS ⟨rfl, Or.inr ⟨min len len2, by omega, by omega, by omega, hq, fun _ _ => by omega, rfl⟩⟩ dX4_firstOtherwise_73
      · skip
        refine lv_iconst (v := (-1)) C.x C.b dX4_firstOtherwise_68 (by decide) ?_
        refine lv_goto (tgt := 73) C.x C.b dX4_firstOtherwise_69 (by decide) ?_
        have hll : len = len2 := (nI_eq (by omega) (by omega)).mp c_8
        exact r_iret C hr hlocks hS ⟨rfl, Or.inl ⟨hll, fun q h => hq q (by omega), rfl⟩⟩ dX4_firstOtherwise_73
    | succ u_2 ih_5 =>
      intro k_3 H locs ls hk_4 hq hS hl
      refine lv_iload_n C.x C.b dX4_firstOtherwise_14 rfl (lv_at hl 3 rfl) ?_
      refine lv_iload_n C.x C.b dX4_firstOtherwise_15 rfl (lv_at hl 0 rfl) ?_
      refine lv_icmp_ge (tgt := 57) C.x C.b dX4_firstOtherwise_16 (by decide) (fun c_9 => absurd c_9 (nI_ge (a := k_3) (b := (min len len2)) (by omega) (by omega))) (fun c_9 => ?_)
      refine lv_aload_n C.x C.b dX4_firstOtherwise_19 rfl (lv_at hl 1 rfl) ?_
      refine r_get ck4 flX4_15 C hS (by omega) e0 (by decide) rfl dX4_firstOtherwise_20 ?_
      refine lv_iload_n C.x C.b dX4_firstOtherwise_23 rfl (lv_at hl 3 rfl) ?_
      refine r_ialdN k_3 rfl (by omega) (by decide) C hS (by omega) e2 dX4_firstOtherwise_24 ?_
      refine lv_aload_n C.x C.b dX4_firstOtherwise_25 rfl (lv_at hl 2 rfl) ?_
      refine r_get ck4 flX4_15 C hS (by omega) f0 (by decide) rfl dX4_firstOtherwise_26 ?_
      refine lv_iload_n C.x C.b dX4_firstOtherwise_29 rfl (lv_at hl 3 rfl) ?_
      refine r_ialdN k_3 rfl (by omega) (by decide) C hS (by omega) f2 dX4_firstOtherwise_30 ?_
      refine lv_icmp_ne (tgt := 49) C.x C.b dX4_firstOtherwise_31 (by decide) (fun c_10 => ?_) (fun c_10 => ?_)
      · skip
        refine lv_iload_n C.x C.b dX4_firstOtherwise_49 rfl (lv_at hl 3 rfl) ?_
        exact r_iret C hr hlocks hS ⟨rfl, Or.inr ⟨k_3, by omega, by omega, by omega, hq, fun _ _ q => c_10 q.1, rfl⟩⟩ dX4_firstOtherwise_50
      · skip
        refine lv_aload_n C.x C.b dX4_firstOtherwise_34 rfl (lv_at hl 1 rfl) ?_
        refine r_get ck4 flX4_18 C hS (by omega) e0 (by decide) rfl dX4_firstOtherwise_35 ?_
        refine lv_iload_n C.x C.b dX4_firstOtherwise_38 rfl (lv_at hl 3 rfl) ?_
        refine r_ialdN k_3 rfl (by omega) (by decide) C hS (by omega) e3 dX4_firstOtherwise_39 ?_
        refine lv_aload_n C.x C.b dX4_firstOtherwise_40 rfl (lv_at hl 2 rfl) ?_
        refine r_get ck4 flX4_18 C hS (by omega) f0 (by decide) rfl dX4_firstOtherwise_41 ?_
        refine lv_iload_n C.x C.b dX4_firstOtherwise_44 rfl (lv_at hl 3 rfl) ?_
        refine r_ialdN k_3 rfl (by omega) (by decide) C hS (by omega) f3 dX4_firstOtherwise_45 ?_
        refine lv_icmp_eq (tgt := 51) C.x C.b dX4_firstOtherwise_46 (by decide) (fun c_11 => ?_) (fun c_11 => ?_)
        · skip
          refine lv_iinc (v := nI (k_3 + 1)) (lv' := [(3, .int (nI (k_3 + 1))), (2, .int (nI (min len len2))), (0, .ref (B + i)), (1, .ref (B + i2))]) C.x C.b dX4_firstOtherwise_51 hl (k := 3) rfl (nI_1 k_3) (by decide) rfl (fun ls hl => ?_)
          refine lv_goto (tgt := 14) C.x C.b dX4_firstOtherwise_54 (by decide) ?_
          exact ih_5 (k_3 + 1) _ _ _ (by omega) (lt_s hq ⟨c_10, c_11⟩) hS (lv_sub hl [1, 2, 3, 0] rfl)
        · skip
          refine lv_iload_n C.x C.b dX4_firstOtherwise_49 rfl (lv_at hl 3 rfl) ?_
          exact r_iret C hr hlocks hS ⟨rfl, Or.inr ⟨k_3, by omega, by omega, by omega, hq, fun _ _ q => c_11 q.2, rfl⟩⟩ dX4_firstOtherwise_50
  exact lp_1 (min len len2) 0 _ _ _ (by omega) (fun _ h => absurd h (Nat.not_lt_zero _)) hS (lv_sub hl [1, 2, 3, 0] rfl)
end
section
/-! THE SHAPE of the class's own rows: what lies where; lengths within bounds -/
def sMach (t : Gx) (B : Nat) (g : Nat → va_E) : Prop := ∃ rg mm pt, isMach t B g 6 rg mm pt
def sRun (t : Gx) (B : Nat) (g : Nat → va_E) (i : Nat) : Prop := ∃ ep ew en ct ec len st vi an sp, isRun t B g i ep ew en ct ec len st vi an sp ∧ len ≤ 40 ∧ (sp = 0 ∨ sp = 1)
def sRow (t : Gx) (B : Nat) (g : Nat → va_E) (i : Nat) : Prop := ∃ ep ew en len, isRow t B g i ep ew en len ∧ len ≤ 42
def runId (i : Nat) : Prop := i = 9 ∨ i = 42 ∨ ∃ k, k < 16 ∧ i = 124 + 6 * k
def rowId (i : Nat) : Prop := i = 15 ∨ i = 19 ∨ i = 116 ∨ i = 120 ∨ ∃ k, k < 16 ∧ i = 49 + 4 * k
def cnQ (B : Nat) : Nat → Option Nat := fun k => if k < 16 then some (B + (25 + k)) else none
def lrQ (B : Nat) : Nat → Option Nat := fun k => if k < 16 then some (B + (49 + 4 * k)) else none
def ruQ (B : Nat) : Nat → Option Nat := fun k => if k < 16 then some (B + (124 + 6 * k)) else none
theorem cnQ_at {B k : Nat} (h : k < 16) : cnQ B k = some (B + (25 + k)) := if_pos h
theorem lrQ_at {B k : Nat} (h : k < 16) : lrQ B k = some (B + (49 + 4 * k)) := if_pos h
theorem ruQ_at {B k : Nat} (h : k < 16) : ruQ B k = some (B + (124 + 6 * k)) := if_pos h
def sFix (t : Gx) (B : Nat) (g : Nat → va_E) : Prop := g 23 = .inr (2, [.ref (B + 24), .ref (B + 41), .ref (B + 42), .ref (B + 48)]) ∧ g 24 = .inl (t.2.2.2.2, 16, .inr (.inr (.inr (.inr (cnQ B))))) ∧ g 48 = .inl (t.2.2.1, 16, .inr (.inr (.inr (.inr (lrQ B))))) ∧ g 115 = .inl (t.2.2.2.1, 16, .inr (.inr (.inr (.inr (ruQ B)))))
def sCnt (t : Gx) (g : Nat → va_E) : Prop := ∃ cn, g 41 = .inl (t.1, 16, .inl cn)
def sCn (t : Gx) (g : Nat → va_E) (k : Nat) : Prop := ∃ f, g (25 + k) = .inl (t.1, 16, .inl f)
def sCur (B : Nat) (g : Nat → va_E) : Prop := ∃ kn, g 113 = .inr (0, [.ref (B + 114), .ref (B + 115), .ref (B + 116), .ref (B + 120), .int kn]) ∧ (kn = 0 ∨ kn = 1)
def sCalm (t : Gx) (g : Nat → va_E) : Prop := ∃ cm, g 114 = .inl (t.2.1, 256, .inl cm) ∧ ∀ q, cm q = 0 ∨ cm q = 1
def sTop (B : Nat) (g : Nat → va_E) : Prop := ∃ v, g 0 = .inr (7, [.ref (B + 1), .ref (B + 5), .ref (B + 6), .ref (B + 9), .ref (B + 15), .ref (B + 19), .ref (B + 23), .ref (B + 113), .int v])
def Scr (t : Gx) (B : Nat) (g : Nat → va_E) : Prop := sTop B g ∧ sMach t B g ∧ (∀ i, runId i → sRun t B g i) ∧ (∀ i, rowId i → sRow t B g i) ∧ sFix t B g ∧ sCnt t g ∧ (∀ k, k < 16 → sCn t g k) ∧ sCur B g ∧ sCalm t g
/-- the program, the watcher and the model stay; the class's own rows keep their shape -/
def Kp (t : Gx) (B : Nat) (g g' : Nat → va_E) : Prop := (∀ j, ((1 ≤ j ∧ j ≤ 5) ∨ 220 ≤ j) → g' j = g j) ∧ Scr t B g'
theorem Kp.rf {t : Gx} {B : Nat} {g : Nat → va_E} (h : Scr t B g) : Kp t B g g := ⟨fun _ _ => rfl, h⟩
theorem Kp.tr {t : Gx} {B : Nat} {g g' g'' : Nat → va_E} (h : Kp t B g g') (h' : Kp t B g' g'') : Kp t B g g'' := ⟨fun j hj => (h'.1 j hj).trans (h.1 j hj), h'.2⟩
section SH
variable {t : Gx} {B : Nat} {g g' : Nat → va_E}
theorem sMach.keep (h : sMach t B g) (k : ∀ j, 6 ≤ j → j ≤ 8 → g' j = g j) : sMach t B g' := by
  obtain ⟨rg, mm, pt, h⟩ := h
  exact ⟨rg, mm, pt, h.keep k⟩
theorem sRun.keep {i : Nat} (h : sRun t B g i) (k : ∀ j, i ≤ j → j ≤ i + 5 → g' j = g j) : sRun t B g' i := by
  obtain ⟨ep, ew, en, ct, ec, len, st, vi, an, sp, h, q⟩ := h
  exact ⟨ep, ew, en, ct, ec, len, st, vi, an, sp, h.keep k, q⟩
theorem sRow.keep {i : Nat} (h : sRow t B g i) (k : ∀ j, i ≤ j → j ≤ i + 3 → g' j = g j) : sRow t B g' i := by
  obtain ⟨ep, ew, en, len, h, q⟩ := h
  exact ⟨ep, ew, en, len, h.keep k, q⟩
theorem Scr.upd (h : Scr t B g) (hT : sTop B g' ∨ g' 0 = g 0) (hM : sMach t B g' ∨ ∀ j, 6 ≤ j → j ≤ 8 → g' j = g j) (hR : ∀ i, runId i → sRun t B g' i ∨ ∀ j, i ≤ j → j ≤ i + 5 → g' j = g j) (hW : ∀ i, rowId i → sRow t B g' i ∨ ∀ j, i ≤ j → j ≤ i + 3 → g' j = g j) (hF : g' 23 = g 23 ∧ g' 24 = g 24 ∧ g' 48 = g 48 ∧ g' 115 = g 115) (hC : sCnt t g' ∨ g' 41 = g 41) (hN : ∀ k, k < 16 → sCn t g' k ∨ g' (25 + k) = g (25 + k)) (hU : sCur B g' ∨ g' 113 = g 113) (hK : sCalm t g' ∨ g' 114 = g 114) : Scr t B g' := by
  obtain ⟨a, b, c, d, ⟨e1, e2, e3, e4⟩, f, n, u, k⟩ := h
  refine ⟨?_, ?_, ?_, ?_, ⟨hF.1.trans e1, hF.2.1.trans e2, hF.2.2.1.trans e3, hF.2.2.2.trans e4⟩, ?_, ?_, ?_, ?_⟩
  · exact hT.elim id (fun q => a.elim fun v hv => ⟨v, q.trans hv⟩)
  · exact hM.elim id (fun q => b.keep q)
  · exact fun i hi => (hR i hi).elim id (fun q => (c i hi).keep q)
  · exact fun i hi => (hW i hi).elim id (fun q => (d i hi).keep q)
  · exact hC.elim id (fun q => f.elim fun v hv => ⟨v, q.trans hv⟩)
  · exact fun i hi => (hN i hi).elim id (fun q => (n i hi).elim fun v hv => ⟨v, q.trans hv⟩)
  · exact hU.elim id (fun q => u.elim fun v hv => ⟨v, q.trans hv.1, hv.2⟩)
  · exact hK.elim id (fun q => k.elim fun v hv => ⟨v, q.trans hv.1, hv.2⟩)
theorem runId.ap {i i' : Nat} (h : runId i) (h' : runId i') (n : i' ≠ i) : i' + 5 < i ∨ i + 5 < i' := by
  rcases h with rfl | rfl | ⟨k, hk, rfl⟩ <;> rcases h' with rfl | rfl | ⟨k', hk', rfl⟩ <;> omega
theorem rowId.ap {i i' : Nat} (h : rowId i) (h' : rowId i') (n : i' ≠ i) : i' + 3 < i ∨ i + 3 < i' := by
  rcases h with rfl | rfl | rfl | rfl | ⟨k, hk, rfl⟩ <;> rcases h' with rfl | rfl | rfl | rfl | ⟨k', hk', rfl⟩ <;> omega
theorem runId.row {i i' : Nat} (h : runId i) (h' : rowId i') : i' + 3 < i ∨ i + 5 < i' := by
  rcases h with rfl | rfl | ⟨k, hk, rfl⟩ <;> rcases h' with rfl | rfl | rfl | rfl | ⟨k', hk', rfl⟩ <;> omega
theorem runId.off {i j : Nat} (h : runId i) (hj : j ≤ 8 ∨ j = 23 ∨ j = 24 ∨ (25 ≤ j ∧ j ≤ 41) ∨ j = 48 ∨ (113 ≤ j ∧ j ≤ 115) ∨ 220 ≤ j) : j < i ∨ i + 5 < j := by
  rcases h with rfl | rfl | ⟨k, hk, rfl⟩ <;> omega
theorem rowId.off {i j : Nat} (h : rowId i) (hj : j ≤ 8 ∨ j = 23 ∨ j = 24 ∨ (25 ≤ j ∧ j ≤ 41) ∨ j = 48 ∨ (113 ≤ j ∧ j ≤ 115) ∨ 220 ≤ j) : j < i ∨ i + 3 < j := by
  rcases h with rfl | rfl | rfl | rfl | ⟨k, hk, rfl⟩ <;> omega
theorem runId.lo {i : Nat} (h : runId i) : 9 ≤ i ∧ i + 5 < 220 := by
  rcases h with rfl | rfl | ⟨k, hk, rfl⟩ <;> omega
theorem rowId.lo {i : Nat} (h : rowId i) : 9 ≤ i ∧ i + 3 < 220 := by
  rcases h with rfl | rfl | rfl | rfl | ⟨k, hk, rfl⟩ <;> omega
theorem Scr.row (h : Scr t B g) {i : Nat} (hi : rowId i) (hR : sRow t B g' i) (hf : ∀ j, (j < i ∨ i + 3 < j) → g' j = g j) : Scr t B g' :=
  h.upd (Or.inr (hf _ (hi.off (by omega)))) (Or.inr fun j h1 h2 => hf _ (hi.off (by omega))) (fun i' hi' => Or.inr fun j h1 h2 => hf j (by have := hi'.row hi; omega))
    (fun i' hi' => if e : i' = i then Or.inl (e ▸ hR) else Or.inr fun j h1 h2 => hf j (by have := hi.ap hi' e; omega)) ⟨hf _ (hi.off (by omega)), hf _ (hi.off (by omega)), hf _ (hi.off (by omega)), hf _ (hi.off (by omega))⟩ (Or.inr (hf _ (hi.off (by omega)))) (fun k hk => Or.inr (hf _ (hi.off (by omega)))) (Or.inr (hf _ (hi.off (by omega)))) (Or.inr (hf _ (hi.off (by omega))))
/-- the machine and one run have changed -/
theorem Scr.go (h : Scr t B g) {i : Nat} (hi : runId i) (hM : sMach t B g') (hR : sRun t B g' i) (hf : ∀ j, (j < 6 ∨ (8 < j ∧ (j < i ∨ i + 5 < j))) → g' j = g j) : Scr t B g' :=
  h.upd (Or.inr (hf _ (by omega))) (Or.inl hM) (fun i' hi' => if e : i' = i then Or.inl (e ▸ hR) else Or.inr fun j h1 h2 => hf j (by have := hi.ap hi' e; have := hi'.lo; omega))
    (fun i' hi' => Or.inr fun j h1 h2 => hf j (by have := hi.row hi'; have := hi'.lo; omega)) ⟨hf _ (by have := hi.off (j := 23) (by omega); omega), hf _ (by have := hi.off (j := 24) (by omega); omega), hf _ (by have := hi.off (j := 48) (by omega); omega), hf _ (by have := hi.off (j := 115) (by omega); omega)⟩ (Or.inr (hf _ (by have := hi.off (j := 41) (by omega); omega))) (fun k hk => Or.inr (hf _ (by have := hi.off (j := 25 + k) (by omega); omega))) (Or.inr (hf _ (by have := hi.off (j := 113) (by omega); omega))) (Or.inr (hf _ (by have := hi.off (j := 114) (by omega); omega)))
/-- one cell beside the runs and rows has changed -/
theorem Scr.one (h : Scr t B g) {a : Nat} (hf : ∀ j, j ≠ a → g' j = g j) (ha : a = 0 ∨ (25 ≤ a ∧ a ≤ 41) ∨ a = 113 ∨ a = 114) (hT : a = 0 → sTop B g') (hC : a = 41 → sCnt t g') (hN : ∀ k, k < 16 → a = 25 + k → sCn t g' k) (hU : a = 113 → sCur B g') (hK : a = 114 → sCalm t g') : Scr t B g' :=
  h.upd (if e : a = 0 then Or.inl (hT e) else Or.inr (hf _ (by omega))) (Or.inr fun j h1 h2 => hf _ (by omega)) (fun i' hi' => Or.inr fun j h1 h2 => hf j (by have := hi'.off (j := a) (by omega); omega)) (fun i' hi' => Or.inr fun j h1 h2 => hf j (by have := hi'.off (j := a) (by omega); omega)) ⟨hf _ (by omega), hf _ (by omega), hf _ (by omega), hf _ (by omega)⟩ (if e : a = 41 then Or.inl (hC e) else Or.inr (hf _ (by omega))) (fun k hk => if e : a = 25 + k then Or.inl (hN k hk e) else Or.inr (hf _ (by omega))) (if e : a = 113 then Or.inl (hU e) else Or.inr (hf _ (by omega))) (if e : a = 114 then Or.inl (hK e) else Or.inr (hf _ (by omega)))
theorem Scr.core (h : Scr t B g) (hf : ∀ j, (j = 0 ∨ 6 ≤ j) → g' j = g j) : Scr t B g' :=
  h.upd (Or.inr (hf _ (by omega))) (Or.inr fun j h1 h2 => hf _ (by omega)) (fun i' hi' => Or.inr fun j h1 h2 => hf j (by have := hi'.lo; omega)) (fun i' hi' => Or.inr fun j h1 h2 => hf j (by have := hi'.lo; omega)) ⟨hf _ (by omega), hf _ (by omega), hf _ (by omega), hf _ (by omega)⟩ (Or.inr (hf _ (by omega))) (fun k hk => Or.inr (hf _ (by omega))) (Or.inr (hf _ (by omega))) (Or.inr (hf _ (by omega)))
end SH
theorem Met.mono {l : Launch} {y : MethodName} {ws : List Cond} {rm : Room} {Pc : Array Value → State → Prop} {Qc Q2 : Array Value → State → Outcome → State → Prop} {mc ms : Nat} {free : Addr → Prop} (h : Met l y ws rm Pc Qc mc ms free) (hq : ∀ a st o t, Qc a st o t → Q2 a st o t) : Met l y ws rm Pc Q2 mc ms free := by
  intro p e ha hc hk s m args below hf happ hP hK
  obtain ⟨k, o, h1, h2, h3, hQ, hL⟩ := h p e ha hc hk s m args below hf happ hP hK
  exact ⟨k, o, h1, h2, h3, hq _ _ _ _ hQ, hL⟩
theorem Cv.mono {l : Launch} {D : va_G} {t : Gx} {B N N' mc ms : Nat} {y : MethodName} {cc : ByteArray} {nL fr lo : Nat} {g : Nat → va_E} {av : List Value} {post post2 : (Nat → va_E) → Prop} (h : Cv l D t B N N' mc ms y cc nL fr lo g av post) (hq : ∀ g', post g' → post2 g') : Cv l D t B N N' mc ms y cc nL fr lo g av post2 :=
  Met.mono h (fun _ _ _ _ ⟨⟨u, h1, h2, h3⟩, h4⟩ => ⟨⟨u, h1, hq u h2, h3⟩, h4⟩)
theorem Ci.mono {l : Launch} {D : va_G} {t : Gx} {B N : Nat} {y : MethodName} {cc : ByteArray} {nL : Nat} {ret : Option FieldType} {fr lo : Nat} {g : Nat → va_E} {av : List Value} {post post2 : Int32 → (Nat → va_E) → Prop} (h : Ci l D t B N y cc nL ret fr lo g av post) (hq : ∀ r g', post r g' → post2 r g') : Ci l D t B N y cc nL ret fr lo g av post2 :=
  Met.mono h (fun _ _ _ _ ⟨⟨r, u, h1, h2, h3⟩, h4⟩ => ⟨⟨r, u, h1, hq r u h2, h3⟩, h4⟩)
theorem gor_len {o : Nat → Int32} {n : Nat} {ey wi : Int32} : ∀ (k : Nat) (S : GS), (gor o n ey wi k S).2.2.2.2.2.2.2.2.1 ≤ S.2.2.2.2.2.2.2.2.1 + k
  | 0, S => Nat.le_refl _
  | k + 1, S => by
    rw [gor]
    split
    · obtain ⟨rg, mm, pt, ep, ew, en, ct, ec, len, st, vi⟩ := S
      refine Nat.le_trans (gor_len k _) ?_
      have hx : ∀ w, tln w len + k ≤ len + (k + 1) := fun w => by have := tln_le w (Nat.le_refl len); omega
      exact hx _
    · exact Nat.le_add_right _ _
/-- Machine.go, by shape -/
theorem k_go (l : Launch) (D : va_G) (t : Gx) (B N : Nat) (g : Nat → va_E) (o pr w : Nat → Int32) (n : Nat) (ey wi ev : Int32) (i : Nat) (op se : Int32) (hN : 220 ≤ N) (hP : isProg t B g 1 o pr w n) (hW : isWat g 5 ey wi ev) (hn : n ≤ 8) (hi : runId i) (hS : Scr t B g) : Cv l D t B N N 0 0 yX1_go cX1_go 7 3 78 g [.ref (B + 6), .ref (B + 1), .ref (B + 5), .int op, .int se, .ref (B + i)] (fun g' => Kp t B g g') := by
  obtain ⟨rg, mm, pt, hM⟩ := hS.2.1
  obtain ⟨ep, ew, en, ct, ec, len, st, vi, an, sp, hR, -, -⟩ := hS.2.2.1 i hi
  have hlo := hi.lo
  refine (c_X1_go l D t B N g rg mm pt o pr w n ey wi ev i ep ew en ct ec len st vi an sp op se (by omega) hM hP hW (by omega) (by omega) hR hn).mono ?_
  intro g' h
  obtain ⟨⟨h1, h2⟩, hf⟩ := h
  refine ⟨fun j hj => hf j (by omega), hS.go hi ⟨_, _, _, h1⟩ ⟨_, _, _, _, _, _, _, _, _, _, h2, ?_, bz_01 _⟩ hf⟩
  have := gor_len (o := o) (n := n) (ey := ey) (wi := wi) 40 (rg0 rg op se, cpF w mm 8, 0, ep, ew, en, zf ct 8, zf ec 8, 0, 0, 0)
  simpa using this
/-- Row.fill, by shape -/
theorem k_fill (l : Launch) (D : va_G) (t : Gx) (B N : Nat) (g : Nat → va_E) (i i2 : Nat) (ey ev : Int32) (hN : 220 ≤ N) (hi : rowId i) (hi2 : runId i2) (hS : Scr t B g) : Cv l D t B N N 0 0 yX4_fill cX4_fill 5 1 23 g [.ref (B + i), .ref (B + i2), .int ey, .int ev] (fun g' => Kp t B g g') := by
  obtain ⟨ep, ew, en, len, hR, -⟩ := hS.2.2.2.1 i hi
  obtain ⟨ep2, ew2, en2, ct, ec, ln2, st, vi, an, sp, hR2, hl2, -⟩ := hS.2.2.1 i2 hi2
  have hlo := hi.lo
  have hlo2 := hi2.lo
  have hap := hi2.row hi
  refine (c_X4_fill l D t B N g i ep ew en len i2 ep2 ew2 en2 ct ec ln2 st vi an sp ey ev (by omega) hR (by omega) (by omega) hR2 hl2).mono ?_
  intro g' h
  obtain ⟨h1, hf⟩ := h
  exact ⟨fun j hj => hf j (by omega), hS.row hi ⟨_, _, _, _, h1, fillF_le _ _ _ _ _ _ _ _ _ _ _ _ _ hl2⟩ hf⟩
theorem upd01 {f : Nat → Int32} (h : ∀ q, f q = 0 ∨ f q = 1) (k : Nat) {v : Int32} (hv : v = 0 ∨ v = 1) : ∀ q, upd f k v q = 0 ∨ upd f k v q = 1 := fun q => by
  by_cases e : q = k
  · rw [e, pk_us]; exact hv
  · rw [pk_un e]; exact h q
section KS
variable {t : Gx} {B : Nat} {g0 g g' : Nat → va_E}
theorem Kp.st (h : Kp t B g0 g) (hf : ∀ j, ((1 ≤ j ∧ j ≤ 5) ∨ 220 ≤ j) → g' j = g j) (hs : Scr t B g') : Kp t B g0 g' := ⟨fun j hj => (hf j hj).trans (h.1 j hj), hs⟩
theorem Kp.cnt (h : Kp t B g0 g) {f : Nat → Int32} (e : g' 41 = .inl (t.1, 16, .inl f)) (hf : ∀ j, j ≠ 41 → g' j = g j) : Kp t B g0 g' :=
  h.st (fun j hj => hf j (by omega)) (h.2.one hf (by omega) (fun q => absurd q (by decide)) (fun _ => ⟨f, e⟩) (fun k hk q => absurd q (by omega)) (fun q => absurd q (by decide)) (fun q => absurd q (by decide)))
theorem Kp.cn (h : Kp t B g0 g) {f : Nat → Int32} {k : Nat} (hk : k < 16) (e : g' (25 + k) = .inl (t.1, 16, .inl f)) (hf : ∀ j, j ≠ 25 + k → g' j = g j) : Kp t B g0 g' :=
  h.st (fun j hj => hf j (by omega)) (h.2.one hf (by omega) (fun q => absurd q (by omega)) (fun q => absurd q (by omega)) (fun k' hk' q => ⟨f, by rw [← q]; exact e⟩) (fun q => absurd q (by omega)) (fun q => absurd q (by omega)))
theorem Kp.cal (h : Kp t B g0 g) {f : Nat → Int32} (e : g' 114 = .inl (t.2.1, 256, .inl f)) (h01 : ∀ q, f q = 0 ∨ f q = 1) (hf : ∀ j, j ≠ 114 → g' j = g j) : Kp t B g0 g' :=
  h.st (fun j hj => hf j (by omega)) (h.2.one hf (by omega) (fun q => absurd q (by decide)) (fun q => absurd q (by decide)) (fun k hk q => absurd q (by omega)) (fun q => absurd q (by decide)) (fun _ => ⟨f, e, h01⟩))
theorem Kp.cur (h : Kp t B g0 g) {v : Int32} (hv : v = 0 ∨ v = 1) (e : g' 113 = .inr (0, [.ref (B + 114), .ref (B + 115), .ref (B + 116), .ref (B + 120), .int v])) (hf : ∀ j, j ≠ 113 → g' j = g j) : Kp t B g0 g' :=
  h.st (fun j hj => hf j (by omega)) (h.2.one hf (by omega) (fun q => absurd q (by decide)) (fun q => absurd q (by decide)) (fun k hk q => absurd q (by omega)) (fun _ => ⟨v, e, hv⟩) (fun q => absurd q (by decide)))
theorem Kp.top (h : Kp t B g0 g) {v : Int32} (e : g' 0 = .inr (7, [.ref (B + 1), .ref (B + 5), .ref (B + 6), .ref (B + 9), .ref (B + 15), .ref (B + 19), .ref (B + 23), .ref (B + 113), .int v])) (hf : ∀ j, j ≠ 0 → g' j = g j) : Kp t B g0 g' :=
  h.st (fun j hj => hf j (by omega)) (h.2.one hf (by omega) (fun _ => ⟨v, e⟩) (fun q => absurd q (by decide)) (fun k hk q => absurd q (by omega)) (fun q => absurd q (by decide)) (fun q => absurd q (by decide)))
end KS
end
section
set_option maxHeartbeats 1000000 in
set_option maxRecDepth 100000 in
theorem k_X2_forget (l : Launch) (D : va_G) (t : Gx) (B N : Nat) (g : Nat → va_E) (o pr w : Nat → Int32) (n : Nat) (ey wi ev : Int32)  (hN : 220 ≤ N) (hP : isProg t B g 1 o pr w n) (hn : n ≤ 8) (hW : isWat g 5 ey wi ev) (hScr : Scr t B g)  : Cv l D t B N N 0 0 yX2_forget cX2_forget 2 0 0 g [.ref (B + 23)] (fun g' => Kp t B g g') := by
  refine Cv.start (by decide) (Nat.le_of_ble_eq_true rfl) ?_
  intro p e s m below meth c ls C hr hlocks hnm hS hl
  replace C : Cx D t p s m [.ref (B + 23)].toArray c cX2_forget 2 RX2 := C
  replace hl : lv_has ls 2 [(0, .ref (B + 23))] := hl
  obtain ⟨p0, p1, p2, p3⟩ := id hP
  have hKp : Kp t B g g := Kp.rf hScr
  refine lv_iconst (v := 0) C.x C.b dX2_forget_0 (by decide) ?_
  refine lv_istore_n (lv' := [(1, .int 0), (0, .ref (B + 23))]) C.x C.b dX2_forget_1 rfl hl (by decide) rfl (fun ls hl => ?_)
  have lp_1 : ∀ (u_2 k_3 : Nat) (g_6 : Nat → va_E) (H : Heap) (locs : List Loc) (ls : Array Slot), k_3 + u_2 = 16 → Kp t B g g_6 → St D B s.heap N g_6 H locs → lv_has ls 2 [(0, .ref (B + 23)), (1, .int (nI k_3))] → W p l e (rmOf 0 0 0 0) s m [.ref (B + 23)].toArray below meth c H locs 0 0 (MQ below (qV D B N (fun g' => Kp t B g g')) [.ref (B + 23)].toArray s 0 0 (fun q => B ≤ q)) (F0 m 2 ls []) := by
    intro u_2
    induction u_2 with
    | zero =>
      intro k_3 g_6 H locs ls hk_4 hKp hS hl
      obtain rfl : 16 = k_3 := by omega
      refine lv_iload_n C.x C.b dX2_forget_2 rfl (lv_at hl 1 rfl) ?_
      refine lv_bipush (v := 16) C.x C.b dX2_forget_3 (by decide) ?_
      refine lv_icmp_ge (tgt := 21) C.x C.b dX2_forget_5 (by decide) (fun c_7 => ?_) (fun c_7 => absurd (by decide) c_7)
      exact r_vret C hr hlocks hS hKp dX2_forget_21
    | succ u_2 ih_5 =>
      intro k_3 g_6 H locs ls hk_4 hKp hS hl
      refine lv_iload_n C.x C.b dX2_forget_2 rfl (lv_at hl 1 rfl) ?_
      refine lv_bipush (v := 16) C.x C.b dX2_forget_3 (by decide) ?_
      refine lv_icmp_ge (tgt := 21) C.x C.b dX2_forget_5 (by decide) (fun c_8 => absurd c_8 (nI_ge (a := k_3) (b := 16) (by omega) (by decide))) (fun c_8 => ?_)
      refine lv_aload_n C.x C.b dX2_forget_8 rfl (lv_at hl 0 rfl) ?_
      have e_9 := hKp.2.2.2.2.2.1.1
      refine r_get ck2 flX2_16 C hS (by omega) e_9 (by decide) rfl dX2_forget_9 ?_
      refine lv_iload_n C.x C.b dX2_forget_12 rfl (lv_at hl 1 rfl) ?_
      refine lv_iconst (v := 0) C.x C.b dX2_forget_13 (by decide) ?_
      obtain ⟨q_10, e_11⟩ := hKp.2.2.2.2.2.2.1
      refine r_iastN k_3 rfl (by omega) (by decide) C hS (by omega) e_11 dX2_forget_14 (fun g_12 H locs e_13 o_14 hS => ?_)
      replace e_13 : g_12 41 = .inl (t.1, 16, .inl (upd q_10 k_3 0)) := e_13
      replace hKp : Kp t B g g_12 := hKp.cnt e_13 o_14
      refine lv_iinc (v := nI (k_3 + 1)) (lv' := [(1, .int (nI (k_3 + 1))), (0, .ref (B + 23))]) C.x C.b dX2_forget_15 hl (k := 1) rfl (nI_1 k_3) (by decide) rfl (fun ls hl => ?_)
      refine lv_goto (tgt := 2) C.x C.b dX2_forget_18 (by decide) ?_
      exact ih_5 (k_3 + 1) g_12 _ _ _ (by omega)  hKp hS (lv_sub hl [1, 0] rfl)
  exact lp_1 16 0 g _ _ _ (by omega)  hKp hS (lv_sub hl [1, 0] rfl)
set_option maxHeartbeats 1000000 in
set_option maxRecDepth 100000 in
theorem k_X2_firstParted (l : Launch) (D : va_G) (t : Gx) (B N : Nat) (g : Nat → va_E) (o pr w : Nat → Int32) (n : Nat) (ey wi ev : Int32) (q : Nat) (hN : 220 ≤ N) (hP : isProg t B g 1 o pr w n) (hn : n ≤ 8) (hW : isWat g 5 ey wi ev) (hScr : Scr t B g) (hq : q < 16) : Ci l D t B N yX2_firstParted cX2_firstParted 3 (some .int) 0 0 g [.ref (B + 23), .int (nI q)] (fun r g' => Kp t B g g' ∧ (r = -1 ∨ ∃ k, k < 16 ∧ r = nI k)) := by
  refine Ci.start (by decide) (Nat.le_of_ble_eq_true rfl) ?_
  intro p e s m below meth c ls C hr hlocks hS hl
  replace C : Cx D t p s m [.ref (B + 23), .int (nI q)].toArray c cX2_firstParted 3 RX2 := C
  replace hl : lv_has ls 3 [(0, .ref (B + 23)), (1, .int (nI q))] := hl
  obtain ⟨p0, p1, p2, p3⟩ := id hP
  have hKp : Kp t B g g := Kp.rf hScr
  refine lv_iconst (v := 1) C.x C.b dX2_firstParted_0 (by decide) ?_
  refine lv_istore_n (lv' := [(2, .int 1), (0, .ref (B + 23)), (1, .int (nI q))]) C.x C.b dX2_firstParted_1 rfl hl (by decide) rfl (fun ls hl => ?_)
  have lp_1 : ∀ (u_2 k_3 : Nat) (g_6 : Nat → va_E) (H : Heap) (locs : List Loc) (ls : Array Slot), k_3 + u_2 = 16 → Kp t B g g_6 → St D B s.heap N g_6 H locs → lv_has ls 3 [(0, .ref (B + 23)), (1, .int (nI q)), (2, .int (nI k_3))] → W p l e (rmOf 0 0 0 0) s m [.ref (B + 23), .int (nI q)].toArray below meth c H locs 0 0 (MQ below (qI D B N (fun r g' => Kp t B g g' ∧ (r = -1 ∨ ∃ k, k < 16 ∧ r = nI k))) [.ref (B + 23), .int (nI q)].toArray s 0 0 (fun q => B ≤ q)) (F0 m 2 ls []) := by
    intro u_2
    induction u_2 with
    | zero =>
      intro k_3 g_6 H locs ls hk_4 hKp hS hl
      obtain rfl : 16 = k_3 := by omega
      refine lv_iload_n C.x C.b dX2_firstParted_2 rfl (lv_at hl 2 rfl) ?_
      refine lv_bipush (v := 16) C.x C.b dX2_firstParted_3 (by decide) ?_
      refine lv_icmp_ge (tgt := 27) C.x C.b dX2_firstParted_5 (by decide) (fun c_7 => ?_) (fun c_7 => absurd (by decide) c_7)
      refine lv_iconst (v := (-1)) C.x C.b dX2_firstParted_27 (by decide) ?_
      exact r_iret C hr hlocks hS ⟨hKp, Or.inl rfl⟩ dX2_firstParted_28
    | succ u_2 ih_5 =>
      intro k_3 g_6 H locs ls hk_4 hKp hS hl
      refine lv_iload_n C.x C.b dX2_firstParted_2 rfl (lv_at hl 2 rfl) ?_
      refine lv_bipush (v := 16) C.x C.b dX2_firstParted_3 (by decide) ?_
      refine lv_icmp_ge (tgt := 27) C.x C.b dX2_firstParted_5 (by decide) (fun c_8 => absurd c_8 (nI_ge (a := k_3) (b := 16) (by omega) (by decide))) (fun c_8 => ?_)
      refine lv_aload_n C.x C.b dX2_firstParted_8 rfl (lv_at hl 0 rfl) ?_
      have e_9 := hKp.2.2.2.2.2.1.1
      refine r_get ck2 flX2_11 C hS (by omega) e_9 (by decide) rfl dX2_firstParted_9 ?_
      refine lv_iload_n C.x C.b dX2_firstParted_12 rfl (lv_at hl 1 rfl) ?_
      have e_10 := hKp.2.2.2.2.2.1.2.1
      refine r_aald q rfl (by omega) (by decide) (cnQ_at (by omega)) C hS (by omega) 4 rfl rfl e_10 dX2_firstParted_13 ?_
      refine lv_iload_n C.x C.b dX2_firstParted_14 rfl (lv_at hl 2 rfl) ?_
      obtain ⟨q_11, e_12⟩ := hKp.2.2.2.2.2.2.2.1 q (by omega)
      refine r_ialdN k_3 rfl (by omega) (by decide) C hS (by omega) e_12 dX2_firstParted_15 ?_
      refine lv_if_eq (tgt := 21) C.x C.b dX2_firstParted_16 (by decide) (fun c_13 => ?_) (fun c_13 => ?_)
      · skip
        refine lv_iinc (v := nI (k_3 + 1)) (lv' := [(2, .int (nI (k_3 + 1))), (0, .ref (B + 23)), (1, .int (nI q))]) C.x C.b dX2_firstParted_21 hl (k := 2) rfl (nI_1 k_3) (by decide) rfl (fun ls hl => ?_)
        refine lv_goto (tgt := 2) C.x C.b dX2_firstParted_24 (by decide) ?_
        exact ih_5 (k_3 + 1) g_6 _ _ _ (by omega)  hKp hS (lv_sub hl [1, 2, 0] rfl)
      · skip
        refine lv_iload_n C.x C.b dX2_firstParted_19 rfl (lv_at hl 2 rfl) ?_
        exact r_iret C hr hlocks hS ⟨hKp, Or.inr ⟨k_3, by omega, rfl⟩⟩ dX2_firstParted_20
  exact lp_1 (16 - 1) 1 g _ _ _ (by omega)  hKp hS (lv_sub hl [1, 2, 0] rfl)
set_option maxHeartbeats 1000000 in
set_option maxRecDepth 100000 in
theorem k_X2_classAmong (l : Launch) (D : va_G) (t : Gx) (B N : Nat) (g : Nat → va_E) (o pr w : Nat → Int32) (n : Nat) (ey wi ev : Int32) (f : Nat) (hN : 220 ≤ N) (hP : isProg t B g 1 o pr w n) (hn : n ≤ 8) (hW : isWat g 5 ey wi ev) (hScr : Scr t B g) (hf : f < 16) : Ci l D t B N yX2_classAmong cX2_classAmong 4 (some .int) 2 36 g [.ref (B + 23), .ref (B + (49 + 4 * f)), .int (nI f)] (fun r g' => Kp t B g g' ∧ ∃ k, k ≤ f ∧ r = nI k) := by
  refine Ci.start (by decide) (Nat.le_of_ble_eq_true rfl) ?_
  intro p e s m below meth c ls C hr hlocks hS hl
  replace C : Cx D t p s m [.ref (B + 23), .ref (B + (49 + 4 * f)), .int (nI f)].toArray c cX2_classAmong 4 RX2 := C
  replace hl : lv_has ls 4 [(0, .ref (B + 23)), (1, .ref (B + (49 + 4 * f))), (2, .int (nI f))] := hl
  obtain ⟨p0, p1, p2, p3⟩ := id hP
  have hKp : Kp t B g g := Kp.rf hScr
  refine lv_iconst (v := 0) C.x C.b dX2_classAmong_0 (by decide) ?_
  refine lv_istore_n (lv' := [(3, .int 0), (0, .ref (B + 23)), (1, .ref (B + (49 + 4 * f))), (2, .int (nI f))]) C.x C.b dX2_classAmong_1 rfl hl (by decide) rfl (fun ls hl => ?_)
  have lp_1 : ∀ (u_2 k_3 : Nat) (g_6 : Nat → va_E) (H : Heap) (locs : List Loc) (ls : Array Slot), k_3 + u_2 = f → Kp t B g g_6 → St D B s.heap N g_6 H locs → lv_has ls 4 [(0, .ref (B + 23)), (1, .ref (B + (49 + 4 * f))), (2, .int (nI f)), (3, .int (nI k_3))] → W p l e (rmOf 2 36 0 0) s m [.ref (B + 23), .ref (B + (49 + 4 * f)), .int (nI f)].toArray below meth c H locs 0 0 (MQ below (qI D B N (fun r g' => Kp t B g g' ∧ ∃ k, k ≤ f ∧ r = nI k)) [.ref (B + 23), .ref (B + (49 + 4 * f)), .int (nI f)].toArray s 0 0 (fun q => B ≤ q)) (F0 m 2 ls []) := by
    intro u_2
    induction u_2 with
    | zero =>
      intro k_3 g_6 H locs ls hk_4 hKp hS hl
      obtain rfl : f = k_3 := by omega
      refine lv_iload_n C.x C.b dX2_classAmong_2 rfl (lv_at hl 3 rfl) ?_
      refine lv_iload_n C.x C.b dX2_classAmong_3 rfl (lv_at hl 2 rfl) ?_
      refine lv_icmp_ge (tgt := 29) C.x C.b dX2_classAmong_4 (by decide) (fun c_7 => ?_) (fun c_7 => absurd (nI_le (Nat.le_refl _) (by omega)) c_7)
      refine lv_iload_n C.x C.b dX2_classAmong_29 rfl (lv_at hl 2 rfl) ?_
      exact r_iret C hr hlocks hS ⟨hKp, ⟨f, by omega, rfl⟩⟩ dX2_classAmong_30
    | succ u_2 ih_5 =>
      intro k_3 g_6 H locs ls hk_4 hKp hS hl
      refine lv_iload_n C.x C.b dX2_classAmong_2 rfl (lv_at hl 3 rfl) ?_
      refine lv_iload_n C.x C.b dX2_classAmong_3 rfl (lv_at hl 2 rfl) ?_
      refine lv_icmp_ge (tgt := 29) C.x C.b dX2_classAmong_4 (by decide) (fun c_8 => absurd c_8 (nI_ge (a := k_3) (b := f) (by omega) (by omega))) (fun c_8 => ?_)
      refine lv_aload_n C.x C.b dX2_classAmong_7 rfl (lv_at hl 1 rfl) ?_
      refine lv_aload_n C.x C.b dX2_classAmong_8 rfl (lv_at hl 0 rfl) ?_
      have e_9 := hKp.2.2.2.2.2.1.1
      refine r_get ck2 flX2_29 C hS (by omega) e_9 (by decide) rfl dX2_classAmong_9 ?_
      refine lv_iload_n C.x C.b dX2_classAmong_12 rfl (lv_at hl 3 rfl) ?_
      have e_10 := hKp.2.2.2.2.2.1.2.2.1
      refine r_aald k_3 rfl (by omega) (by decide) (lrQ_at (by omega)) C hS (by omega) 2 rfl rfl e_10 dX2_classAmong_13 ?_
      obtain ⟨q_11, q_12, q_13, q_14, ⟨e_15, e_16, e_17, e_18⟩, hl_19⟩ := hKp.2.2.2.2.1 (49 + 4 * f) (Or.inr (Or.inr (Or.inr (Or.inr ⟨f, by omega, rfl⟩))))
      obtain ⟨q_20, q_21, q_22, q_23, ⟨e_24, e_25, e_26, e_27⟩, hl_28⟩ := hKp.2.2.2.2.1 (49 + 4 * k_3) (Or.inr (Or.inr (Or.inr (Or.inr ⟨k_3, by omega, rfl⟩))))
      refine r_callV (b := (49 + 4 * f)) (As := [.ref (B + (49 + 4 * k_3))]) (rest := []) (c_X4_firstOtherwise l D t B N g_6 (49 + 4 * f) _ _ _ _ (49 + 4 * k_3) _ _ _ _ (by omega) ⟨e_15, e_16, e_17, e_18⟩ (by omega) ⟨e_24, e_25, e_26, e_27⟩ (by omega) (by omega)) mf_yX4_firstOtherwise mlX2_57 im_yX4_firstOtherwise se_yX4_firstOtherwise (by decide) C hS (by omega) e_15 (show vwCl[4]? = some _ from rfl) rfl rfl hl.1 rfl (Nat.le_of_ble_eq_true rfl) dX2_classAmong_14 ⟨Nat.zero_le _, Nat.zero_le _⟩ (fun r_31 g_29 H locs w_30 hS => ?_)
      obtain ⟨rfl, er_31⟩ := w_30
      refine lv_iconst (v := (-1)) C.x C.b dX2_classAmong_17 (by decide) ?_
      refine lv_icmp_ne (tgt := 23) C.x C.b dX2_classAmong_18 (by decide) (fun c_32 => ?_) (fun c_32 => ?_)
      · skip
        refine lv_iinc (v := nI (k_3 + 1)) (lv' := [(3, .int (nI (k_3 + 1))), (0, .ref (B + 23)), (1, .ref (B + (49 + 4 * f))), (2, .int (nI f))]) C.x C.b dX2_classAmong_23 hl (k := 3) rfl (nI_1 k_3) (by decide) rfl (fun ls hl => ?_)
        refine lv_goto (tgt := 2) C.x C.b dX2_classAmong_26 (by decide) ?_
        exact ih_5 (k_3 + 1) g_6 _ _ _ (by omega)  hKp hS (lv_sub hl [1, 2, 3, 0] rfl)
      · skip
        refine lv_iload_n C.x C.b dX2_classAmong_21 rfl (lv_at hl 3 rfl) ?_
        exact r_iret C hr hlocks hS ⟨hKp, ⟨k_3, by omega, rfl⟩⟩ dX2_classAmong_22
  exact lp_1 f 0 g _ _ _ (by omega)  hKp hS (lv_sub hl [1, 2, 3, 0] rfl)
set_option maxHeartbeats 1000000 in
set_option maxRecDepth 100000 in
theorem k_X2_learn (l : Launch) (D : va_G) (t : Gx) (B N : Nat) (g : Nat → va_E) (o pr w : Nat → Int32) (n : Nat) (ey wi ev : Int32) (q : Nat) (hN : 220 ≤ N) (hP : isProg t B g 1 o pr w n) (hn : n ≤ 8) (hW : isWat g 5 ey wi ev) (hScr : Scr t B g) (hq : q < 16) : Cv l D t B N N 0 0 yX2_learn cX2_learn 9 4 104 g [.ref (B + 23), .ref (B + 6), .ref (B + 1), .ref (B + 5), .int (nI q)] (fun g' => Kp t B g g') := by
  refine Cv.start (by decide) (Nat.le_of_ble_eq_true rfl) ?_
  intro p e s m below meth c ls C hr hlocks hnm hS hl
  replace C : Cx D t p s m [.ref (B + 23), .ref (B + 6), .ref (B + 1), .ref (B + 5), .int (nI q)].toArray c cX2_learn 9 RX2 := C
  replace hl : lv_has ls 9 [(0, .ref (B + 23)), (1, .ref (B + 6)), (2, .ref (B + 1)), (3, .ref (B + 5)), (4, .int (nI q))] := hl
  obtain ⟨p0, p1, p2, p3⟩ := id hP
  have hKp : Kp t B g g := Kp.rf hScr
  refine lv_aload_n C.x C.b dX2_learn_0 rfl (lv_at hl 0 rfl) ?_
  have e_1 := hKp.2.2.2.2.2.1.1
  refine r_get ck2 flX2_16 C hS (by omega) e_1 (by decide) rfl dX2_learn_1 ?_
  refine lv_iload C.x C.b dX2_learn_4 (lv_at hl 4 rfl) ?_
  obtain ⟨q_2, e_3⟩ := hKp.2.2.2.2.2.2.1
  refine r_ialdN q rfl (by omega) (by decide) C hS (by omega) e_3 dX2_learn_6 ?_
  refine lv_if_le (tgt := 11) C.x C.b dX2_learn_7 (by decide) (fun c_4 => ?_) (fun c_4 => ?_)
  · skip
    refine lv_iconst (v := 0) C.x C.b dX2_learn_11 (by decide) ?_
    refine lv_istore (lv' := [(5, .int 0), (0, .ref (B + 23)), (1, .ref (B + 6)), (2, .ref (B + 1)), (3, .ref (B + 5)), (4, .int (nI q))]) C.x C.b dX2_learn_12 hl (by decide) rfl (fun ls hl => ?_)
    refine lv_iconst (v := 0) C.x C.b dX2_learn_14 (by decide) ?_
    refine lv_istore (lv' := [(6, .int 0), (5, .int 0), (0, .ref (B + 23)), (1, .ref (B + 6)), (2, .ref (B + 1)), (3, .ref (B + 5)), (4, .int (nI q))]) C.x C.b dX2_learn_15 hl (by decide) rfl (fun ls hl => ?_)
    have lp_5 : ∀ (u_6 k_7 : Nat) (f_11 : Nat) (g_10 : Nat → va_E) (H : Heap) (locs : List Loc) (ls : Array Slot), k_7 + u_6 = 16 → (f_11 ≤ k_7) → Kp t B g g_10 → St D B s.heap N g_10 H locs → lv_has ls 9 [(0, .ref (B + 23)), (1, .ref (B + 6)), (2, .ref (B + 1)), (3, .ref (B + 5)), (4, .int (nI q)), (5, .int (nI f_11)), (6, .int (nI k_7))] → W p l e (rmOf 4 104 0 0) s m [.ref (B + 23), .ref (B + 6), .ref (B + 1), .ref (B + 5), .int (nI q)].toArray below meth c H locs 0 0 (MQ below (qV D B N (fun g' => Kp t B g g')) [.ref (B + 23), .ref (B + 6), .ref (B + 1), .ref (B + 5), .int (nI q)].toArray s 0 0 (fun q => B ≤ q)) (F0 m 17 ls []) := by
      intro u_6
      induction u_6 with
      | zero =>
        intro k_7 f_11 g_10 H locs ls hk_8 hf_12 hKp hS hl
        obtain rfl : 16 = k_7 := by omega
        refine lv_iload C.x C.b dX2_learn_17 (lv_at hl 6 rfl) ?_
        refine lv_bipush (v := 16) C.x C.b dX2_learn_19 (by decide) ?_
        refine lv_icmp_ge (tgt := 102) C.x C.b dX2_learn_21 (by decide) (fun c_13 => ?_) (fun c_13 => absurd (by decide) c_13)
        refine lv_aload_n C.x C.b dX2_learn_102 rfl (lv_at hl 0 rfl) ?_
        have e_14 := hKp.2.2.2.2.2.1.1
        refine r_get ck2 flX2_16 C hS (by omega) e_14 (by decide) rfl dX2_learn_103 ?_
        refine lv_iload C.x C.b dX2_learn_106 (lv_at hl 4 rfl) ?_
        refine lv_iload C.x C.b dX2_learn_108 (lv_at hl 5 rfl) ?_
        obtain ⟨q_15, e_16⟩ := hKp.2.2.2.2.2.2.1
        refine r_iastN q rfl (by omega) (by decide) C hS (by omega) e_16 dX2_learn_110 (fun g_17 H locs e_18 o_19 hS => ?_)
        replace e_18 : g_17 41 = .inl (t.1, 16, .inl (upd q_15 q (nI f_11))) := e_18
        replace hKp : Kp t B g g_17 := hKp.cnt e_18 o_19
        exact r_vret C hr hlocks hS hKp dX2_learn_111
      | succ u_6 ih_9 =>
        intro k_7 f_11 g_10 H locs ls hk_8 hf_12 hKp hS hl
        refine lv_iload C.x C.b dX2_learn_17 (lv_at hl 6 rfl) ?_
        refine lv_bipush (v := 16) C.x C.b dX2_learn_19 (by decide) ?_
        refine lv_icmp_ge (tgt := 102) C.x C.b dX2_learn_21 (by decide) (fun c_20 => absurd c_20 (nI_ge (a := k_7) (b := 16) (by omega) (by decide))) (fun c_20 => ?_)
        refine lv_aload_n C.x C.b dX2_learn_24 rfl (lv_at hl 0 rfl) ?_
        have e_21 := hKp.2.2.2.2.2.1.1
        refine r_get ck2 flX2_29 C hS (by omega) e_21 (by decide) rfl dX2_learn_25 ?_
        refine lv_iload C.x C.b dX2_learn_28 (lv_at hl 5 rfl) ?_
        have e_22 := hKp.2.2.2.2.2.1.2.2.1
        refine r_aald f_11 rfl (by omega) (by decide) (lrQ_at (by omega)) C hS (by omega) 2 rfl rfl e_22 dX2_learn_30 ?_
        refine lv_astore (lv' := [(7, .ref (B + (49 + 4 * f_11))), (0, .ref (B + 23)), (1, .ref (B + 6)), (2, .ref (B + 1)), (3, .ref (B + 5)), (4, .int (nI q)), (5, .int (nI f_11)), (6, .int (nI k_7))]) C.x C.b dX2_learn_31 hl (by decide) rfl (fun ls hl => ?_)
        refine lv_aload_n C.x C.b dX2_learn_33 rfl (lv_at hl 2 rfl) ?_
        refine lv_aload_n C.x C.b dX2_learn_34 rfl (lv_at hl 3 rfl) ?_
        refine lv_aload_n C.x C.b dX2_learn_35 rfl (lv_at hl 4 rfl) ?_
        refine lv_iload C.x C.b dX2_learn_36 (lv_at hl 5 rfl) ?_
        refine lv_iload C.x C.b dX2_learn_38 (lv_at hl 7 rfl) ?_
        refine lv_aload_n C.x C.b dX2_learn_40 rfl (lv_at hl 1 rfl) ?_
        refine r_get ck2 flX2_23 C hS (by omega) e_21 (by decide) rfl dX2_learn_41 ?_
        have e_23 : g_10 1 = .inr (3, [.ref (B + (1 + 1)), .ref (B + (1 + 2)), .ref (B + (1 + 3)), .int (nI n)]) := (hKp.1 _ (by omega)).trans p0
        have e_24 : g_10 (1 + 1) = .inl (t.1, 8, .inl o) := (hKp.1 _ (by omega)).trans p1
        have e_25 : g_10 (1 + 2) = .inl (t.1, 8, .inl pr) := (hKp.1 _ (by omega)).trans p2
        have e_26 : g_10 (1 + 3) = .inl (t.1, 8, .inl w) := (hKp.1 _ (by omega)).trans p3
        have e_27 : g_10 5 = .inr (6, [.int ey, .int wi, .int ev]) := (hKp.1 _ (by omega)).trans hW
        obtain ⟨q_31, q_32, q_33, ⟨e_34, e_35, e_36⟩⟩ := hKp.2.2.1
        refine r_callVv (b := 6) (As := [.ref (B + 1), .ref (B + 5), .int (nI q), .int (nI k_7), .ref (B + 42)]) (rest := []) (k_go l D t B N g_10 _ _ _ _ _ _ _ 42 (nI q) (nI k_7) (by omega) ⟨e_23, e_24, e_25, e_26⟩ e_27 (by omega) (Or.inr (Or.inl rfl)) hKp.2) mf_yX1_go mlX2_34 im_yX1_go se_yX1_go (by decide) C hS (by omega) e_34 (show vwCl[1]? = some _ from rfl) rfl rfl hl.1 rfl (Nat.le_of_ble_eq_true rfl) dX2_learn_44 ⟨Nat.zero_le _, Nat.zero_le _⟩ (fun g_28 H locs w_29 hS => ?_)
        replace hKp : Kp t B g g_28 := hKp.tr w_29
        refine lv_aload C.x C.b dX2_learn_47 (lv_at hl 0 rfl) ?_
        refine lv_aload_n C.x C.b dX2_learn_49 rfl (lv_at hl 1 rfl) ?_
        have e_37 := hKp.2.2.2.2.2.1.1
        refine r_get ck2 flX2_23 C hS (by omega) e_37 (by decide) rfl dX2_learn_50 ?_
        refine lv_aload_n C.x C.b dX2_learn_53 rfl (lv_at hl 4 rfl) ?_
        have e_38 : g_28 5 = .inr (6, [.int ey, .int wi, .int ev]) := (hKp.1 _ (by omega)).trans hW
        refine r_get ck6 flX2_40 C hS (by omega) e_38 (by decide) rfl dX2_learn_54 ?_
        refine lv_aload_n C.x C.b dX2_learn_57 rfl (lv_at hl 4 rfl) ?_
        refine r_get ck6 flX2_46 C hS (by omega) e_38 (by decide) rfl dX2_learn_58 ?_
        obtain ⟨q_42, q_43, q_44, q_45, ⟨e_46, e_47, e_48, e_49⟩, hl_50⟩ := hKp.2.2.2.2.1 (49 + 4 * f_11) (Or.inr (Or.inr (Or.inr (Or.inr ⟨f_11, by omega, rfl⟩))))
        refine r_callVv (b := (49 + 4 * f_11)) (As := [.ref (B + 42), .int ey, .int ev]) (rest := []) (k_fill l D t B N g_28 (49 + 4 * f_11) 42 ey ev (by omega) (Or.inr (Or.inr (Or.inr (Or.inr ⟨f_11, by omega, rfl⟩)))) (Or.inr (Or.inl rfl)) hKp.2) mf_yX4_fill mlX2_49 im_yX4_fill se_yX4_fill (by decide) C hS (by omega) e_46 (show vwCl[4]? = some _ from rfl) rfl rfl hl.1 rfl (Nat.le_of_ble_eq_true rfl) dX2_learn_61 ⟨Nat.zero_le _, Nat.zero_le _⟩ (fun g_39 H locs w_40 hS => ?_)
        replace hKp : Kp t B g g_39 := hKp.tr w_40
        refine lv_aload_n C.x C.b dX2_learn_64 rfl (lv_at hl 1 rfl) ?_
        refine lv_aload C.x C.b dX2_learn_65 (lv_at hl 0 rfl) ?_
        refine lv_iload C.x C.b dX2_learn_67 (lv_at hl 6 rfl) ?_
        have e_51 : g_39 1 = .inr (3, [.ref (B + (1 + 1)), .ref (B + (1 + 2)), .ref (B + (1 + 3)), .int (nI n)]) := (hKp.1 _ (by omega)).trans p0
        have e_52 : g_39 (1 + 1) = .inl (t.1, 8, .inl o) := (hKp.1 _ (by omega)).trans p1
        have e_53 : g_39 (1 + 2) = .inl (t.1, 8, .inl pr) := (hKp.1 _ (by omega)).trans p2
        have e_54 : g_39 (1 + 3) = .inl (t.1, 8, .inl w) := (hKp.1 _ (by omega)).trans p3
        have e_55 : g_39 5 = .inr (6, [.int ey, .int wi, .int ev]) := (hKp.1 _ (by omega)).trans hW
        have e_59 := hKp.2.2.2.2.2.1.1
        refine r_callV (b := 23) (As := [.ref (B + (49 + 4 * f_11)), .int (nI f_11)]) (rest := []) (k_X2_classAmong l D t B N g_39 _ _ _ _ _ _ _ f_11 (by omega) ⟨e_51, e_52, e_53, e_54⟩ (by omega) e_55 hKp.2 (by omega)) mf_yX2_classAmong mlX2_53 im_yX2_classAmong se_yX2_classAmong (by decide) C hS (by omega) e_59 (show vwCl[2]? = some _ from rfl) rfl rfl hl.1 rfl (Nat.le_of_ble_eq_true rfl) dX2_learn_69 ⟨Nat.zero_le _, Nat.zero_le _⟩ (fun r_58 g_56 H locs w_57 hS => ?_)
        obtain ⟨w_57, er_58⟩ := w_57
        replace hKp : Kp t B g g_56 := hKp.tr w_57
        obtain ⟨k_60, hk_61, rfl⟩ := er_58
        refine lv_istore (lv' := [(8, .int (nI k_60)), (7, .ref (B + (49 + 4 * f_11))), (0, .ref (B + 23)), (1, .ref (B + 6)), (2, .ref (B + 1)), (3, .ref (B + 5)), (4, .int (nI q)), (5, .int (nI f_11)), (6, .int (nI k_7))]) C.x C.b dX2_learn_72 hl (by decide) rfl (fun ls hl => ?_)
        refine lv_aload_n C.x C.b dX2_learn_74 rfl (lv_at hl 2 rfl) ?_
        have e_62 := hKp.2.2.2.2.2.1.1
        refine r_get ck2 flX2_11 C hS (by omega) e_62 (by decide) rfl dX2_learn_75 ?_
        refine lv_iload C.x C.b dX2_learn_78 (lv_at hl 6 rfl) ?_
        have e_63 := hKp.2.2.2.2.2.1.2.1
        refine r_aald q rfl (by omega) (by decide) (cnQ_at (by omega)) C hS (by omega) 4 rfl rfl e_63 dX2_learn_80 ?_
        refine lv_iload C.x C.b dX2_learn_81 (lv_at hl 8 rfl) ?_
        refine lv_iload C.x C.b dX2_learn_83 (lv_at hl 0 rfl) ?_
        obtain ⟨q_64, e_65⟩ := hKp.2.2.2.2.2.2.2.1 q (by omega)
        refine r_iastN k_7 rfl (by omega) (by decide) C hS (by omega) e_65 dX2_learn_85 (fun g_66 H locs e_67 o_68 hS => ?_)
        replace e_67 : g_66 (25 + q) = .inl (t.1, 16, .inl (upd q_64 k_7 (nI k_60))) := e_67
        replace hKp : Kp t B g g_66 := hKp.cn (by omega) e_67 o_68
        refine lv_iload C.x C.b dX2_learn_86 (lv_at hl 0 rfl) ?_
        refine lv_iload C.x C.b dX2_learn_88 (lv_at hl 7 rfl) ?_
        refine lv_icmp_ne (tgt := 96) C.x C.b dX2_learn_90 (by decide) (fun c_69 => ?_) (fun c_69 => ?_)
        · skip
          refine lv_iinc (v := nI (k_7 + 1)) (lv' := [(6, .int (nI (k_7 + 1))), (8, .int (nI k_60)), (7, .ref (B + (49 + 4 * f_11))), (0, .ref (B + 23)), (1, .ref (B + 6)), (2, .ref (B + 1)), (3, .ref (B + 5)), (4, .int (nI q)), (5, .int (nI f_11))]) C.x C.b dX2_learn_96 hl (k := 8) rfl (nI_1 k_7) (by decide) rfl (fun ls hl => ?_)
          refine lv_goto (tgt := 17) C.x C.b dX2_learn_99 (by decide) ?_
          exact ih_9 (k_7 + 1) f_11 g_66 _ _ _ (by omega) (by omega) hKp hS (lv_sub hl [3, 4, 5, 6, 7, 8, 0] rfl)
        · skip
          refine lv_iinc (v := nI (f_11 + 1)) (lv' := [(5, .int (nI (f_11 + 1))), (8, .int (nI k_60)), (7, .ref (B + (49 + 4 * f_11))), (0, .ref (B + 23)), (1, .ref (B + 6)), (2, .ref (B + 1)), (3, .ref (B + 5)), (4, .int (nI q)), (6, .int (nI k_7))]) C.x C.b dX2_learn_93 hl (k := 7) rfl (nI_1 f_11) (by decide) rfl (fun ls hl => ?_)
          refine lv_iinc (v := nI (k_7 + 1)) (lv' := [(6, .int (nI (k_7 + 1))), (5, .int (nI (f_11 + 1))), (8, .int (nI k_60)), (7, .ref (B + (49 + 4 * f_11))), (0, .ref (B + 23)), (1, .ref (B + 6)), (2, .ref (B + 1)), (3, .ref (B + 5)), (4, .int (nI q))]) C.x C.b dX2_learn_96 hl (k := 8) rfl (nI_1 k_7) (by decide) rfl (fun ls hl => ?_)
          refine lv_goto (tgt := 17) C.x C.b dX2_learn_99 (by decide) ?_
          exact ih_9 (k_7 + 1) (f_11 + 1) g_66 _ _ _ (by omega) (by omega) hKp hS (lv_sub hl [4, 5, 6, 7, 8, 1, 0] rfl)
    exact lp_5 16 0 0 g _ _ _ (by omega) (by omega) hKp hS (lv_sub hl [2, 3, 4, 5, 6, 1, 0] rfl)
  · skip
    exact r_vret C hr hlocks hS hKp dX2_learn_10
end
section
theorem fa_and (a b : Nat) : nI a &&& nI b = nI (a &&& b) := by
  apply Int32.toBitVec_inj.1
  show BitVec.ofNat 32 a &&& BitVec.ofNat 32 b = BitVec.ofNat 32 (a &&& b)
  apply BitVec.eq_of_getLsbD_eq
  intro i hi
  simp [hi]
theorem wb_of32 (x : Int32) : ∃ n, n < 2 ^ 32 ∧ x = nI n := ⟨x.toBitVec.toNat, x.toBitVec.isLt, Int32.toBitVec_inj.mp (by show _ = BitVec.ofNat 32 _; simp)⟩
def an (k : Nat) (x : Int32) : Nat := k &&& x.toBitVec.toNat
theorem an_eq (k : Nat) (x : Int32) : nI k &&& x = nI (an k x) := by
  have e : x = nI x.toBitVec.toNat := Int32.toBitVec_inj.mp (by show _ = BitVec.ofNat 32 _; simp)
  unfold an
  rw [← fa_and, ← e]
theorem an_le (k : Nat) (x : Int32) : an k x ≤ k := Nat.and_le_left
theorem sh1_all : ∀ n, n < 9 → (1 : Int32) <<< (nI n &&& 31) = nI (2 ^ n) ∧ 2 ^ n ≤ 256 := by decide +kernel
theorem sh1 {n : Nat} (h : n ≤ 8) : ∃ M, M ≤ 256 ∧ (1 : Int32) <<< (nI n &&& 31) = nI M := ⟨2 ^ n, (sh1_all n (by omega)).2, (sh1_all n (by omega)).1⟩
theorem gt1 {k : Nat} (h : ¬ nI k ≤ 1) (hk : k < 2 ^ 31) : 1 < k := by
  rcases Nat.lt_or_ge 1 k with q | q
  · exact q
  · exact absurd (nI_le (a := k) (b := 1) q (by decide)) h
set_option maxHeartbeats 1000000 in
set_option maxRecDepth 100000 in
theorem k_X0_forget (l : Launch) (D : va_G) (t : Gx) (B N : Nat) (g : Nat → va_E) (o pr w : Nat → Int32) (n : Nat) (ey wi ev : Int32)  (hN : 220 ≤ N) (hP : isProg t B g 1 o pr w n) (hn : n ≤ 8) (hW : isWat g 5 ey wi ev) (hScr : Scr t B g)  : Cv l D t B N N 0 0 yX0_forget cX0_forget 1 0 0 g [.ref (B + 113)] (fun g' => Kp t B g g') := by
  refine Cv.start (by decide) (Nat.le_of_ble_eq_true rfl) ?_
  intro p e s m below meth c ls C hr hlocks hnm hS hl
  replace C : Cx D t p s m [.ref (B + 113)].toArray c cX0_forget 1 RX0 := C
  replace hl : lv_has ls 1 [(0, .ref (B + 113))] := hl
  obtain ⟨p0, p1, p2, p3⟩ := id hP
  have hKp : Kp t B g g := Kp.rf hScr
  refine lv_aload_n C.x C.b dX0_forget_0 rfl (lv_at hl 0 rfl) ?_
  refine lv_iconst (v := 0) C.x C.b dX0_forget_1 (by decide) ?_
  obtain ⟨v_1, e_2, hz_3⟩ := hKp.2.2.2.2.2.2.2.2.1
  refine r_put ck0 flX0_31 C hS (by omega) e_2 (by decide) rfl (nar_z (by decide)) (fit_z (by decide)) (Nat.le_of_ble_eq_true rfl) dX0_forget_2 (fun g_4 H locs e_5 o_6 hS => ?_)
  replace e_5 : g_4 113 = .inr (0, [.ref (B + 114), .ref (B + 115), .ref (B + 116), .ref (B + 120), .int 0]) := e_5
  replace hKp : Kp t B g g_4 := hKp.cur (by decide) e_5 o_6
  exact r_vret C hr hlocks hS hKp dX0_forget_5
set_option maxHeartbeats 1000000 in
set_option maxRecDepth 100000 in
theorem k_X0_isNew (l : Launch) (D : va_G) (t : Gx) (B N : Nat) (g : Nat → va_E) (o pr w : Nat → Int32) (n : Nat) (ey wi ev : Int32) (f : Nat) (x : Int32) (hN : 220 ≤ N) (hP : isProg t B g 1 o pr w n) (hn : n ≤ 8) (hW : isWat g 5 ey wi ev) (hScr : Scr t B g) (hf : f < 16) : Ci l D t B N yX0_isNew cX0_isNew 4 (some .boolean) 2 45 g [.ref (B + 113), .int (nI f), .int x] (fun r g' => Kp t B g g') := by
  refine Ci.start (by decide) (Nat.le_of_ble_eq_true rfl) ?_
  intro p e s m below meth c ls C hr hlocks hS hl
  replace C : Cx D t p s m [.ref (B + 113), .int (nI f), .int x].toArray c cX0_isNew 4 RX0 := C
  replace hl : lv_has ls 4 [(0, .ref (B + 113)), (1, .int (nI f)), (2, .int x)] := hl
  obtain ⟨p0, p1, p2, p3⟩ := id hP
  have hKp : Kp t B g g := Kp.rf hScr
  refine lv_iconst (v := 0) C.x C.b dX0_isNew_0 (by decide) ?_
  refine lv_istore_n (lv' := [(3, .int 0), (0, .ref (B + 113)), (1, .int (nI f)), (2, .int x)]) C.x C.b dX0_isNew_1 rfl hl (by decide) rfl (fun ls hl => ?_)
  have lp_1 : ∀ (u_2 k_3 : Nat) (g_6 : Nat → va_E) (H : Heap) (locs : List Loc) (ls : Array Slot), k_3 + u_2 = f → Kp t B g g_6 → St D B s.heap N g_6 H locs → lv_has ls 4 [(0, .ref (B + 113)), (1, .int (nI f)), (2, .int x), (3, .int (nI k_3))] → W p l e (rmOf 2 45 0 0) s m [.ref (B + 113), .int (nI f), .int x].toArray below meth c H locs 0 0 (MQ below (qI D B N (fun r g' => Kp t B g g')) [.ref (B + 113), .int (nI f), .int x].toArray s 0 0 (fun q => B ≤ q)) (F0 m 2 ls []) := by
    intro u_2
    induction u_2 with
    | zero =>
      intro k_3 g_6 H locs ls hk_4 hKp hS hl
      obtain rfl : f = k_3 := by omega
      refine lv_iload_n C.x C.b dX0_isNew_2 rfl (lv_at hl 3 rfl) ?_
      refine lv_iload_n C.x C.b dX0_isNew_3 rfl (lv_at hl 1 rfl) ?_
      refine lv_icmp_ge (tgt := 34) C.x C.b dX0_isNew_4 (by decide) (fun c_7 => ?_) (fun c_7 => absurd (nI_le (Nat.le_refl _) (by omega)) c_7)
      refine lv_iconst (v := 1) C.x C.b dX0_isNew_34 (by decide) ?_
      exact r_zret C hr hlocks hS (by decide) hKp dX0_isNew_35
    | succ u_2 ih_5 =>
      intro k_3 g_6 H locs ls hk_4 hKp hS hl
      refine lv_iload_n C.x C.b dX0_isNew_2 rfl (lv_at hl 3 rfl) ?_
      refine lv_iload_n C.x C.b dX0_isNew_3 rfl (lv_at hl 1 rfl) ?_
      refine lv_icmp_ge (tgt := 34) C.x C.b dX0_isNew_4 (by decide) (fun c_8 => absurd c_8 (nI_ge (a := k_3) (b := f) (by omega) (by omega))) (fun c_8 => ?_)
      refine lv_aload_n C.x C.b dX0_isNew_7 rfl (lv_at hl 0 rfl) ?_
      obtain ⟨v_9, e_10, hz_11⟩ := hKp.2.2.2.2.2.2.2.2.1
      refine r_get ck0 flX0_17 C hS (by omega) e_10 (by decide) rfl dX0_isNew_8 ?_
      refine lv_iload_n C.x C.b dX0_isNew_11 rfl (lv_at hl 1 rfl) ?_
      have e_12 := hKp.2.2.2.2.2.1.2.2.2
      refine r_aald f rfl (by omega) (by decide) (ruQ_at (by omega)) C hS (by omega) 3 rfl rfl e_12 dX0_isNew_12 ?_
      refine lv_aload_n C.x C.b dX0_isNew_13 rfl (lv_at hl 0 rfl) ?_
      refine r_get ck0 flX0_17 C hS (by omega) e_10 (by decide) rfl dX0_isNew_14 ?_
      refine lv_iload_n C.x C.b dX0_isNew_17 rfl (lv_at hl 3 rfl) ?_
      refine r_aald k_3 rfl (by omega) (by decide) (ruQ_at (by omega)) C hS (by omega) 3 rfl rfl e_12 dX0_isNew_18 ?_
      refine lv_iload_n C.x C.b dX0_isNew_19 rfl (lv_at hl 2 rfl) ?_
      obtain ⟨q_13, q_14, q_15, q_16, q_17, q_18, q_19, q_20, q_21, q_22, ⟨e_23, e_24, e_25, e_26, e_27, e_28⟩, hl_29, hs_30⟩ := hKp.2.2.2.1 (124 + 6 * f) (Or.inr (Or.inr ⟨f, by omega, rfl⟩))
      obtain ⟨q_31, q_32, q_33, q_34, q_35, q_36, q_37, q_38, q_39, q_40, ⟨e_41, e_42, e_43, e_44, e_45, e_46⟩, hl_47, hs_48⟩ := hKp.2.2.2.1 (124 + 6 * k_3) (Or.inr (Or.inr ⟨k_3, by omega, rfl⟩))
      refine r_callV (b := (124 + 6 * f)) (As := [.ref (B + (124 + 6 * k_3)), .int x]) (rest := []) (c_X5_alwaysSeenAs l D t B N g_6 (124 + 6 * f) _ _ _ _ _ _ _ _ _ _ (124 + 6 * k_3) _ _ _ _ _ _ _ _ _ _ x (by omega) ⟨e_23, e_24, e_25, e_26, e_27, e_28⟩ (by omega) ⟨e_41, e_42, e_43, e_44, e_45, e_46⟩ (by omega) (by omega)) mf_yX5_alwaysSeenAs mlX0_66 im_yX5_alwaysSeenAs se_yX5_alwaysSeenAs (by decide) C hS (by omega) e_23 (show vwCl[5]? = some _ from rfl) rfl rfl hl.1 rfl (Nat.le_of_ble_eq_true rfl) dX0_isNew_20 ⟨Nat.zero_le _, Nat.zero_le _⟩ (fun r_51 g_49 H locs w_50 hS => ?_)
      obtain ⟨rfl, er_51⟩ := w_50
      by_cases b_52 : alike x q_13 q_14 q_15 q_16 q_17 q_18 q_22 q_31 q_32 q_33 q_34 q_35 q_36 q_40
      · rw [bz_t b_52] at er_51
        subst er_51
        refine lv_if_eq (tgt := 28) C.x C.b dX0_isNew_23 (by decide) (fun c_53 => absurd c_53 (by decide)) (fun c_53 => ?_)
        refine lv_iconst (v := 0) C.x C.b dX0_isNew_26 (by decide) ?_
        exact r_zret C hr hlocks hS (by decide) hKp dX0_isNew_27
      · rw [bz_f b_52] at er_51
        subst er_51
        refine lv_if_eq (tgt := 28) C.x C.b dX0_isNew_23 (by decide) (fun c_54 => ?_) (fun c_54 => absurd (by decide) c_54)
        refine lv_iinc (v := nI (k_3 + 1)) (lv' := [(3, .int (nI (k_3 + 1))), (0, .ref (B + 113)), (1, .int (nI f)), (2, .int x)]) C.x C.b dX0_isNew_28 hl (k := 3) rfl (nI_1 k_3) (by decide) rfl (fun ls hl => ?_)
        refine lv_goto (tgt := 2) C.x C.b dX0_isNew_31 (by decide) ?_
        exact ih_5 (k_3 + 1) g_6 _ _ _ (by omega)  hKp hS (lv_sub hl [1, 2, 3, 0] rfl)
  exact lp_1 f 0 g _ _ _ (by omega)  hKp hS (lv_sub hl [1, 2, 3, 0] rfl)
set_option maxHeartbeats 1000000 in
set_option maxRecDepth 100000 in
theorem k_X0_gatherRuns (l : Launch) (D : va_G) (t : Gx) (B N : Nat) (g : Nat → va_E) (o pr w : Nat → Int32) (n : Nat) (ey wi ev : Int32) (x : Int32) (hN : 220 ≤ N) (hP : isProg t B g 1 o pr w n) (hn : n ≤ 8) (hW : isWat g 5 ey wi ev) (hScr : Scr t B g)  : Ci l D t B N yX0_gatherRuns cX0_gatherRuns 7 (some .int) 4 104 g [.ref (B + 113), .ref (B + 6), .ref (B + 1), .ref (B + 5), .int x] (fun r g' => Kp t B g g' ∧ ∃ k, k ≤ 16 ∧ r = nI k) := by
  refine Ci.start (by decide) (Nat.le_of_ble_eq_true rfl) ?_
  intro p e s m below meth c ls C hr hlocks hS hl
  replace C : Cx D t p s m [.ref (B + 113), .ref (B + 6), .ref (B + 1), .ref (B + 5), .int x].toArray c cX0_gatherRuns 7 RX0 := C
  replace hl : lv_has ls 7 [(0, .ref (B + 113)), (1, .ref (B + 6)), (2, .ref (B + 1)), (3, .ref (B + 5)), (4, .int x)] := hl
  obtain ⟨p0, p1, p2, p3⟩ := id hP
  have hKp : Kp t B g g := Kp.rf hScr
  refine lv_iconst (v := 0) C.x C.b dX0_gatherRuns_0 (by decide) ?_
  refine lv_istore (lv' := [(5, .int 0), (0, .ref (B + 113)), (1, .ref (B + 6)), (2, .ref (B + 1)), (3, .ref (B + 5)), (4, .int x)]) C.x C.b dX0_gatherRuns_1 hl (by decide) rfl (fun ls hl => ?_)
  refine lv_iconst (v := 0) C.x C.b dX0_gatherRuns_3 (by decide) ?_
  refine lv_istore (lv' := [(6, .int 0), (5, .int 0), (0, .ref (B + 113)), (1, .ref (B + 6)), (2, .ref (B + 1)), (3, .ref (B + 5)), (4, .int x)]) C.x C.b dX0_gatherRuns_4 hl (by decide) rfl (fun ls hl => ?_)
  have lp_1 : ∀ (u_2 k_3 : Nat) (f_7 : Nat) (g_6 : Nat → va_E) (H : Heap) (locs : List Loc) (ls : Array Slot), k_3 + u_2 = 16 → (f_7 ≤ k_3) → Kp t B g g_6 → St D B s.heap N g_6 H locs → lv_has ls 7 [(0, .ref (B + 113)), (1, .ref (B + 6)), (2, .ref (B + 1)), (3, .ref (B + 5)), (4, .int x), (5, .int (nI f_7)), (6, .int (nI k_3))] → W p l e (rmOf 4 104 0 0) s m [.ref (B + 113), .ref (B + 6), .ref (B + 1), .ref (B + 5), .int x].toArray below meth c H locs 0 0 (MQ below (qI D B N (fun r g' => Kp t B g g' ∧ ∃ k, k ≤ 16 ∧ r = nI k)) [.ref (B + 113), .ref (B + 6), .ref (B + 1), .ref (B + 5), .int x].toArray s 0 0 (fun q => B ≤ q)) (F0 m 6 ls []) := by
    intro u_2
    induction u_2 with
    | zero =>
      intro k_3 f_7 g_6 H locs ls hk_4 hf_8 hKp hS hl
      obtain rfl : 16 = k_3 := by omega
      refine lv_iload C.x C.b dX0_gatherRuns_6 (lv_at hl 6 rfl) ?_
      refine lv_bipush (v := 16) C.x C.b dX0_gatherRuns_8 (by decide) ?_
      refine lv_icmp_ge (tgt := 52) C.x C.b dX0_gatherRuns_10 (by decide) (fun c_9 => ?_) (fun c_9 => absurd (by decide) c_9)
      refine lv_iload C.x C.b dX0_gatherRuns_52 (lv_at hl 5 rfl) ?_
      exact r_iret C hr hlocks hS ⟨hKp, ⟨f_7, by omega, rfl⟩⟩ dX0_gatherRuns_54
    | succ u_2 ih_5 =>
      intro k_3 f_7 g_6 H locs ls hk_4 hf_8 hKp hS hl
      refine lv_iload C.x C.b dX0_gatherRuns_6 (lv_at hl 6 rfl) ?_
      refine lv_bipush (v := 16) C.x C.b dX0_gatherRuns_8 (by decide) ?_
      refine lv_icmp_ge (tgt := 52) C.x C.b dX0_gatherRuns_10 (by decide) (fun c_10 => absurd c_10 (nI_ge (a := k_3) (b := 16) (by omega) (by decide))) (fun c_10 => ?_)
      refine lv_aload_n C.x C.b dX0_gatherRuns_13 rfl (lv_at hl 1 rfl) ?_
      refine lv_aload_n C.x C.b dX0_gatherRuns_14 rfl (lv_at hl 2 rfl) ?_
      refine lv_aload_n C.x C.b dX0_gatherRuns_15 rfl (lv_at hl 3 rfl) ?_
      refine lv_iload C.x C.b dX0_gatherRuns_16 (lv_at hl 4 rfl) ?_
      refine lv_iload C.x C.b dX0_gatherRuns_18 (lv_at hl 6 rfl) ?_
      refine lv_aload_n C.x C.b dX0_gatherRuns_20 rfl (lv_at hl 0 rfl) ?_
      obtain ⟨v_11, e_12, hz_13⟩ := hKp.2.2.2.2.2.2.2.2.1
      refine r_get ck0 flX0_17 C hS (by omega) e_12 (by decide) rfl dX0_gatherRuns_21 ?_
      refine lv_iload C.x C.b dX0_gatherRuns_24 (lv_at hl 5 rfl) ?_
      have e_14 := hKp.2.2.2.2.2.1.2.2.2
      refine r_aald f_7 rfl (by omega) (by decide) (ruQ_at (by omega)) C hS (by omega) 3 rfl rfl e_14 dX0_gatherRuns_26 ?_
      have e_15 : g_6 1 = .inr (3, [.ref (B + (1 + 1)), .ref (B + (1 + 2)), .ref (B + (1 + 3)), .int (nI n)]) := (hKp.1 _ (by omega)).trans p0
      have e_16 : g_6 (1 + 1) = .inl (t.1, 8, .inl o) := (hKp.1 _ (by omega)).trans p1
      have e_17 : g_6 (1 + 2) = .inl (t.1, 8, .inl pr) := (hKp.1 _ (by omega)).trans p2
      have e_18 : g_6 (1 + 3) = .inl (t.1, 8, .inl w) := (hKp.1 _ (by omega)).trans p3
      have e_19 : g_6 5 = .inr (6, [.int ey, .int wi, .int ev]) := (hKp.1 _ (by omega)).trans hW
      obtain ⟨q_23, q_24, q_25, ⟨e_26, e_27, e_28⟩⟩ := hKp.2.2.1
      refine r_callVv (b := 6) (As := [.ref (B + 1), .ref (B + 5), .int x, .int (nI k_3), .ref (B + (124 + 6 * f_7))]) (rest := []) (k_go l D t B N g_6 _ _ _ _ _ _ _ (124 + 6 * f_7) x (nI k_3) (by omega) ⟨e_15, e_16, e_17, e_18⟩ e_19 (by omega) (Or.inr (Or.inr ⟨f_7, by omega, rfl⟩)) hKp.2) mf_yX1_go mlX0_56 im_yX1_go se_yX1_go (by decide) C hS (by omega) e_26 (show vwCl[1]? = some _ from rfl) rfl rfl hl.1 rfl (Nat.le_of_ble_eq_true rfl) dX0_gatherRuns_27 ⟨Nat.zero_le _, Nat.zero_le _⟩ (fun g_20 H locs w_21 hS => ?_)
      replace hKp : Kp t B g g_20 := hKp.tr w_21
      refine lv_aload_n C.x C.b dX0_gatherRuns_30 rfl (lv_at hl 0 rfl) ?_
      refine lv_iload C.x C.b dX0_gatherRuns_31 (lv_at hl 5 rfl) ?_
      refine lv_aload_n C.x C.b dX0_gatherRuns_33 rfl (lv_at hl 3 rfl) ?_
      have e_29 : g_20 5 = .inr (6, [.int ey, .int wi, .int ev]) := (hKp.1 _ (by omega)).trans hW
      refine r_get ck6 flX0_36 C hS (by omega) e_29 (by decide) rfl dX0_gatherRuns_34 ?_
      have e_30 : g_20 1 = .inr (3, [.ref (B + (1 + 1)), .ref (B + (1 + 2)), .ref (B + (1 + 3)), .int (nI n)]) := (hKp.1 _ (by omega)).trans p0
      have e_31 : g_20 (1 + 1) = .inl (t.1, 8, .inl o) := (hKp.1 _ (by omega)).trans p1
      have e_32 : g_20 (1 + 2) = .inl (t.1, 8, .inl pr) := (hKp.1 _ (by omega)).trans p2
      have e_33 : g_20 (1 + 3) = .inl (t.1, 8, .inl w) := (hKp.1 _ (by omega)).trans p3
      obtain ⟨v_37, e_38, hz_39⟩ := hKp.2.2.2.2.2.2.2.2.1
      refine r_callV (b := 113) (As := [.int (nI f_7), .int ey]) (rest := []) (k_X0_isNew l D t B N g_20 _ _ _ _ _ _ _ f_7 ey (by omega) ⟨e_30, e_31, e_32, e_33⟩ (by omega) e_29 hKp.2 (by omega)) mf_yX0_isNew mlX0_62 im_yX0_isNew se_yX0_isNew (by decide) C hS (by omega) e_38 (show vwCl[0]? = some _ from rfl) rfl rfl hl.1 rfl (Nat.le_of_ble_eq_true rfl) dX0_gatherRuns_37 ⟨Nat.zero_le _, Nat.zero_le _⟩ (fun r_36 g_34 H locs w_35 hS => ?_)
      replace hKp : Kp t B g g_34 := hKp.tr w_35
      refine lv_if_eq (tgt := 46) C.x C.b dX0_gatherRuns_40 (by decide) (fun c_40 => ?_) (fun c_40 => ?_)
      · skip
        refine lv_iinc (v := nI (k_3 + 1)) (lv' := [(6, .int (nI (k_3 + 1))), (0, .ref (B + 113)), (1, .ref (B + 6)), (2, .ref (B + 1)), (3, .ref (B + 5)), (4, .int x), (5, .int (nI f_7))]) C.x C.b dX0_gatherRuns_46 hl (k := 6) rfl (nI_1 k_3) (by decide) rfl (fun ls hl => ?_)
        refine lv_goto (tgt := 6) C.x C.b dX0_gatherRuns_49 (by decide) ?_
        exact ih_5 (k_3 + 1) f_7 g_34 _ _ _ (by omega) (by omega) hKp hS (lv_sub hl [1, 2, 3, 4, 5, 6, 0] rfl)
      · skip
        refine lv_iinc (v := nI (f_7 + 1)) (lv' := [(5, .int (nI (f_7 + 1))), (0, .ref (B + 113)), (1, .ref (B + 6)), (2, .ref (B + 1)), (3, .ref (B + 5)), (4, .int x), (6, .int (nI k_3))]) C.x C.b dX0_gatherRuns_43 hl (k := 5) rfl (nI_1 f_7) (by decide) rfl (fun ls hl => ?_)
        refine lv_iinc (v := nI (k_3 + 1)) (lv' := [(6, .int (nI (k_3 + 1))), (5, .int (nI (f_7 + 1))), (0, .ref (B + 113)), (1, .ref (B + 6)), (2, .ref (B + 1)), (3, .ref (B + 5)), (4, .int x)]) C.x C.b dX0_gatherRuns_46 hl (k := 6) rfl (nI_1 k_3) (by decide) rfl (fun ls hl => ?_)
        refine lv_goto (tgt := 6) C.x C.b dX0_gatherRuns_49 (by decide) ?_
        exact ih_5 (k_3 + 1) (f_7 + 1) g_34 _ _ _ (by omega) (by omega) hKp hS (lv_sub hl [2, 3, 4, 5, 6, 1, 0] rfl)
  exact lp_1 16 0 0 g _ _ _ (by omega) (by omega) hKp hS (lv_sub hl [2, 3, 4, 5, 6, 1, 0] rfl)
set_option maxHeartbeats 1000000 in
set_option maxRecDepth 100000 in
theorem k_X0_seenAlike (l : Launch) (D : va_G) (t : Gx) (B N : Nat) (g : Nat → va_E) (o pr w : Nat → Int32) (n : Nat) (ey wi ev : Int32) (f : Nat) (x y : Int32) (hN : 220 ≤ N) (hP : isProg t B g 1 o pr w n) (hn : n ≤ 8) (hW : isWat g 5 ey wi ev) (hScr : Scr t B g) (hf : f ≤ 16) (hf1 : 1 ≤ f) : Ci l D t B N yX0_seenAlike cX0_seenAlike 5 (some .boolean) 2 47 g [.ref (B + 113), .int (nI f), .int x, .int y] (fun r g' => Kp t B g g' ∧ (r = 0 ∨ r = 1)) := by
  refine Ci.start (by decide) (Nat.le_of_ble_eq_true rfl) ?_
  intro p e s m below meth c ls C hr hlocks hS hl
  replace C : Cx D t p s m [.ref (B + 113), .int (nI f), .int x, .int y].toArray c cX0_seenAlike 5 RX0 := C
  replace hl : lv_has ls 5 [(0, .ref (B + 113)), (1, .int (nI f)), (2, .int x), (3, .int y)] := hl
  obtain ⟨p0, p1, p2, p3⟩ := id hP
  have hKp : Kp t B g g := Kp.rf hScr
  refine lv_aload_n C.x C.b dX0_seenAlike_0 rfl (lv_at hl 0 rfl) ?_
  obtain ⟨v_1, e_2, hz_3⟩ := hKp.2.2.2.2.2.2.2.2.1
  refine r_get ck0 flX0_24 C hS (by omega) e_2 (by decide) rfl dX0_seenAlike_1 ?_
  refine lv_aload_n C.x C.b dX0_seenAlike_4 rfl (lv_at hl 0 rfl) ?_
  refine r_get ck0 flX0_17 C hS (by omega) e_2 (by decide) rfl dX0_seenAlike_5 ?_
  refine lv_iconst (v := 0) C.x C.b dX0_seenAlike_8 (by decide) ?_
  have e_4 := hKp.2.2.2.2.2.1.2.2.2
  refine r_aald 0 rfl (by omega) (by decide) (ruQ_at (by omega)) C hS (by omega) 3 rfl rfl e_4 dX0_seenAlike_9 ?_
  refine lv_iload_n C.x C.b dX0_seenAlike_10 rfl (lv_at hl 2 rfl) ?_
  refine lv_iload_n C.x C.b dX0_seenAlike_11 rfl (lv_at hl 3 rfl) ?_
  obtain ⟨q_8, q_9, q_10, q_11, ⟨e_12, e_13, e_14, e_15⟩, hl_16⟩ := hKp.2.2.2.2.1 116 (Or.inr (Or.inr (Or.inl rfl)))
  refine r_callVv (b := 116) (As := [.ref (B + (124 + 6 * 0)), .int x, .int y]) (rest := []) (k_fill l D t B N g 116 (124 + 6 * 0) x y (by omega) (Or.inr (Or.inr (Or.inl rfl))) (Or.inr (Or.inr ⟨0, by omega, rfl⟩)) hKp.2) mf_yX4_fill mlX0_74 im_yX4_fill se_yX4_fill (by decide) C hS (by omega) e_12 (show vwCl[4]? = some _ from rfl) rfl rfl hl.1 rfl (Nat.le_of_ble_eq_true rfl) dX0_seenAlike_12 ⟨Nat.zero_le _, Nat.zero_le _⟩ (fun g_5 H locs w_6 hS => ?_)
  replace hKp : Kp t B g g_5 := hKp.tr w_6
  refine lv_iconst (v := 1) C.x C.b dX0_seenAlike_15 (by decide) ?_
  refine lv_istore (lv' := [(4, .int 1), (0, .ref (B + 113)), (1, .int (nI f)), (2, .int x), (3, .int y)]) C.x C.b dX0_seenAlike_16 hl (by decide) rfl (fun ls hl => ?_)
  have lp_17 : ∀ (u_18 k_19 : Nat) (g_22 : Nat → va_E) (H : Heap) (locs : List Loc) (ls : Array Slot), k_19 + u_18 = f → Kp t B g g_22 → St D B s.heap N g_22 H locs → lv_has ls 5 [(0, .ref (B + 113)), (1, .int (nI f)), (2, .int x), (3, .int y), (4, .int (nI k_19))] → W p l e (rmOf 2 47 0 0) s m [.ref (B + 113), .int (nI f), .int x, .int y].toArray below meth c H locs 0 0 (MQ below (qI D B N (fun r g' => Kp t B g g' ∧ (r = 0 ∨ r = 1))) [.ref (B + 113), .int (nI f), .int x, .int y].toArray s 0 0 (fun q => B ≤ q)) (F0 m 18 ls []) := by
    intro u_18
    induction u_18 with
    | zero =>
      intro k_19 g_22 H locs ls hk_20 hKp hS hl
      obtain rfl : f = k_19 := by omega
      refine lv_iload C.x C.b dX0_seenAlike_18 (lv_at hl 4 rfl) ?_
      refine lv_iload_n C.x C.b dX0_seenAlike_20 rfl (lv_at hl 1 rfl) ?_
      refine lv_icmp_ge (tgt := 63) C.x C.b dX0_seenAlike_21 (by decide) (fun c_23 => ?_) (fun c_23 => absurd (nI_le (Nat.le_refl _) (by omega)) c_23)
      refine lv_iconst (v := 1) C.x C.b dX0_seenAlike_63 (by decide) ?_
      exact r_zret C hr hlocks hS (by decide) ⟨hKp, by decide⟩ dX0_seenAlike_64
    | succ u_18 ih_21 =>
      intro k_19 g_22 H locs ls hk_20 hKp hS hl
      refine lv_iload C.x C.b dX0_seenAlike_18 (lv_at hl 4 rfl) ?_
      refine lv_iload_n C.x C.b dX0_seenAlike_20 rfl (lv_at hl 1 rfl) ?_
      refine lv_icmp_ge (tgt := 63) C.x C.b dX0_seenAlike_21 (by decide) (fun c_24 => absurd c_24 (nI_ge (a := k_19) (b := f) (by omega) (by omega))) (fun c_24 => ?_)
      refine lv_aload_n C.x C.b dX0_seenAlike_24 rfl (lv_at hl 0 rfl) ?_
      obtain ⟨v_25, e_26, hz_27⟩ := hKp.2.2.2.2.2.2.2.2.1
      refine r_get ck0 flX0_28 C hS (by omega) e_26 (by decide) rfl dX0_seenAlike_25 ?_
      refine lv_aload_n C.x C.b dX0_seenAlike_28 rfl (lv_at hl 0 rfl) ?_
      refine r_get ck0 flX0_17 C hS (by omega) e_26 (by decide) rfl dX0_seenAlike_29 ?_
      refine lv_iload C.x C.b dX0_seenAlike_32 (lv_at hl 4 rfl) ?_
      have e_28 := hKp.2.2.2.2.2.1.2.2.2
      refine r_aald k_19 rfl (by omega) (by decide) (ruQ_at (by omega)) C hS (by omega) 3 rfl rfl e_28 dX0_seenAlike_34 ?_
      refine lv_iload_n C.x C.b dX0_seenAlike_35 rfl (lv_at hl 2 rfl) ?_
      refine lv_iload_n C.x C.b dX0_seenAlike_36 rfl (lv_at hl 3 rfl) ?_
      obtain ⟨q_32, q_33, q_34, q_35, ⟨e_36, e_37, e_38, e_39⟩, hl_40⟩ := hKp.2.2.2.2.1 120 (Or.inr (Or.inr (Or.inr (Or.inl rfl))))
      refine r_callVv (b := 120) (As := [.ref (B + (124 + 6 * k_19)), .int x, .int y]) (rest := []) (k_fill l D t B N g_22 120 (124 + 6 * k_19) x y (by omega) (Or.inr (Or.inr (Or.inr (Or.inl rfl)))) (Or.inr (Or.inr ⟨k_19, by omega, rfl⟩)) hKp.2) mf_yX4_fill mlX0_74 im_yX4_fill se_yX4_fill (by decide) C hS (by omega) e_36 (show vwCl[4]? = some _ from rfl) rfl rfl hl.1 rfl (Nat.le_of_ble_eq_true rfl) dX0_seenAlike_37 ⟨Nat.zero_le _, Nat.zero_le _⟩ (fun g_29 H locs w_30 hS => ?_)
      replace hKp : Kp t B g g_29 := hKp.tr w_30
      refine lv_aload_n C.x C.b dX0_seenAlike_40 rfl (lv_at hl 0 rfl) ?_
      obtain ⟨v_41, e_42, hz_43⟩ := hKp.2.2.2.2.2.2.2.2.1
      refine r_get ck0 flX0_24 C hS (by omega) e_42 (by decide) rfl dX0_seenAlike_41 ?_
      refine lv_aload_n C.x C.b dX0_seenAlike_44 rfl (lv_at hl 0 rfl) ?_
      refine r_get ck0 flX0_28 C hS (by omega) e_42 (by decide) rfl dX0_seenAlike_45 ?_
      obtain ⟨q_44, q_45, q_46, q_47, ⟨e_48, e_49, e_50, e_51⟩, hl_52⟩ := hKp.2.2.2.2.1 116 (Or.inr (Or.inr (Or.inl rfl)))
      obtain ⟨q_53, q_54, q_55, q_56, ⟨e_57, e_58, e_59, e_60⟩, hl_61⟩ := hKp.2.2.2.2.1 120 (Or.inr (Or.inr (Or.inr (Or.inl rfl))))
      refine r_callV (b := 116) (As := [.ref (B + 120)]) (rest := []) (c_X4_firstOtherwise l D t B N g_29 116 _ _ _ _ 120 _ _ _ _ (by omega) ⟨e_48, e_49, e_50, e_51⟩ (by omega) ⟨e_57, e_58, e_59, e_60⟩ (by omega) (by omega)) mf_yX4_firstOtherwise mlX0_78 im_yX4_firstOtherwise se_yX4_firstOtherwise (by decide) C hS (by omega) e_48 (show vwCl[4]? = some _ from rfl) rfl rfl hl.1 rfl (Nat.le_of_ble_eq_true rfl) dX0_seenAlike_48 ⟨Nat.zero_le _, Nat.zero_le _⟩ (fun r_64 g_62 H locs w_63 hS => ?_)
      obtain ⟨rfl, er_64⟩ := w_63
      refine lv_iconst (v := (-1)) C.x C.b dX0_seenAlike_51 (by decide) ?_
      refine lv_icmp_eq (tgt := 57) C.x C.b dX0_seenAlike_52 (by decide) (fun c_65 => ?_) (fun c_65 => ?_)
      · skip
        refine lv_iinc (v := nI (k_19 + 1)) (lv' := [(4, .int (nI (k_19 + 1))), (0, .ref (B + 113)), (1, .int (nI f)), (2, .int x), (3, .int y)]) C.x C.b dX0_seenAlike_57 hl (k := 4) rfl (nI_1 k_19) (by decide) rfl (fun ls hl => ?_)
        refine lv_goto (tgt := 18) C.x C.b dX0_seenAlike_60 (by decide) ?_
        exact ih_21 (k_19 + 1) g_29 _ _ _ (by omega)  hKp hS (lv_sub hl [1, 2, 3, 4, 0] rfl)
      · skip
        refine lv_iconst (v := 0) C.x C.b dX0_seenAlike_55 (by decide) ?_
        exact r_zret C hr hlocks hS (by decide) ⟨hKp, by decide⟩ dX0_seenAlike_56
  exact lp_17 (f - 1) 1 g_5 _ _ _ (by omega)  hKp hS (lv_sub hl [1, 2, 3, 4, 0] rfl)
set_option maxHeartbeats 1000000 in
set_option maxRecDepth 100000 in
theorem k_X0_sift (l : Launch) (D : va_G) (t : Gx) (B N : Nat) (g : Nat → va_E) (o pr w : Nat → Int32) (n : Nat) (ey wi ev : Int32) (f : Nat) (x y : Int32) (hN : 220 ≤ N) (hP : isProg t B g 1 o pr w n) (hn : n ≤ 8) (hW : isWat g 5 ey wi ev) (hScr : Scr t B g) (hf : f ≤ 16) (hf1 : 1 ≤ f) : Cv l D t B N N 0 0 yX0_sift cX0_sift 5 3 71 g [.ref (B + 113), .int (nI f), .int x, .int y] (fun g' => Kp t B g g') := by
  refine Cv.start (by decide) (Nat.le_of_ble_eq_true rfl) ?_
  intro p e s m below meth c ls C hr hlocks hnm hS hl
  replace C : Cx D t p s m [.ref (B + 113), .int (nI f), .int x, .int y].toArray c cX0_sift 5 RX0 := C
  replace hl : lv_has ls 5 [(0, .ref (B + 113)), (1, .int (nI f)), (2, .int x), (3, .int y)] := hl
  obtain ⟨p0, p1, p2, p3⟩ := id hP
  have hKp : Kp t B g g := Kp.rf hScr
  refine lv_iconst (v := 0) C.x C.b dX0_sift_0 (by decide) ?_
  refine lv_istore (lv' := [(4, .int 0), (0, .ref (B + 113)), (1, .int (nI f)), (2, .int x), (3, .int y)]) C.x C.b dX0_sift_1 hl (by decide) rfl (fun ls hl => ?_)
  have lp_1 : ∀ (u_2 k_3 : Nat) (g_6 : Nat → va_E) (H : Heap) (locs : List Loc) (ls : Array Slot), k_3 + u_2 = 256 → Kp t B g g_6 → St D B s.heap N g_6 H locs → lv_has ls 5 [(0, .ref (B + 113)), (1, .int (nI f)), (2, .int x), (3, .int y), (4, .int (nI k_3))] → W p l e (rmOf 3 71 0 0) s m [.ref (B + 113), .int (nI f), .int x, .int y].toArray below meth c H locs 0 0 (MQ below (qV D B N (fun g' => Kp t B g g')) [.ref (B + 113), .int (nI f), .int x, .int y].toArray s 0 0 (fun q => B ≤ q)) (F0 m 3 ls []) := by
    intro u_2
    induction u_2 with
    | zero =>
      intro k_3 g_6 H locs ls hk_4 hKp hS hl
      obtain rfl : 256 = k_3 := by omega
      refine lv_iload C.x C.b dX0_sift_3 (lv_at hl 4 rfl) ?_
      refine lv_sipush (v := 256) C.x C.b dX0_sift_5 (by decide) ?_
      refine lv_icmp_ge (tgt := 51) C.x C.b dX0_sift_8 (by decide) (fun c_7 => ?_) (fun c_7 => absurd (by decide) c_7)
      exact r_vret C hr hlocks hS hKp dX0_sift_51
    | succ u_2 ih_5 =>
      intro k_3 g_6 H locs ls hk_4 hKp hS hl
      refine lv_iload C.x C.b dX0_sift_3 (lv_at hl 4 rfl) ?_
      refine lv_sipush (v := 256) C.x C.b dX0_sift_5 (by decide) ?_
      refine lv_icmp_ge (tgt := 51) C.x C.b dX0_sift_8 (by decide) (fun c_8 => absurd c_8 (nI_ge (a := k_3) (b := 256) (by omega) (by decide))) (fun c_8 => ?_)
      refine lv_iload C.x C.b dX0_sift_11 (lv_at hl 4 rfl) ?_
      refine lv_iload_n C.x C.b dX0_sift_13 rfl (lv_at hl 3 rfl) ?_
      refine lv_iconst (v := (-1)) C.x C.b dX0_sift_14 (by decide) ?_
      refine lv_ixor C.x C.b dX0_sift_15 ?_
      refine lv_iand C.x C.b dX0_sift_16 ?_
      refine lv_if_ne (tgt := 45) C.x C.b dX0_sift_17 (by decide) (fun c_9 => ?_) (fun c_9 => ?_)
      · skip
        refine lv_iinc (v := nI (k_3 + 1)) (lv' := [(4, .int (nI (k_3 + 1))), (0, .ref (B + 113)), (1, .int (nI f)), (2, .int x), (3, .int y)]) C.x C.b dX0_sift_45 hl (k := 4) rfl (nI_1 k_3) (by decide) rfl (fun ls hl => ?_)
        refine lv_goto (tgt := 3) C.x C.b dX0_sift_48 (by decide) ?_
        exact ih_5 (k_3 + 1) g_6 _ _ _ (by omega)  hKp hS (lv_sub hl [1, 2, 3, 4, 0] rfl)
      · skip
        refine lv_aload_n C.x C.b dX0_sift_20 rfl (lv_at hl 0 rfl) ?_
        obtain ⟨v_10, e_11, hz_12⟩ := hKp.2.2.2.2.2.2.2.2.1
        refine r_get ck0 flX0_9 C hS (by omega) e_11 (by decide) rfl dX0_sift_21 ?_
        refine lv_iload C.x C.b dX0_sift_24 (lv_at hl 4 rfl) ?_
        obtain ⟨q_13, e_14, hz_15⟩ := hKp.2.2.2.2.2.2.2.2.2
        refine r_zaldN k_3 rfl (by omega) (by decide) C hS (by omega) e_14 dX0_sift_26 ?_
        refine lv_if_eq (tgt := 45) C.x C.b dX0_sift_27 (by decide) (fun c_16 => ?_) (fun c_16 => ?_)
        · skip
          refine lv_iinc (v := nI (k_3 + 1)) (lv' := [(4, .int (nI (k_3 + 1))), (0, .ref (B + 113)), (1, .int (nI f)), (2, .int x), (3, .int y)]) C.x C.b dX0_sift_45 hl (k := 4) rfl (nI_1 k_3) (by decide) rfl (fun ls hl => ?_)
          refine lv_goto (tgt := 3) C.x C.b dX0_sift_48 (by decide) ?_
          exact ih_5 (k_3 + 1) g_6 _ _ _ (by omega)  hKp hS (lv_sub hl [1, 2, 3, 4, 0] rfl)
        · skip
          refine lv_aload_n C.x C.b dX0_sift_30 rfl (lv_at hl 0 rfl) ?_
          refine r_get ck0 flX0_9 C hS (by omega) e_11 (by decide) rfl dX0_sift_31 ?_
          refine lv_iload C.x C.b dX0_sift_34 (lv_at hl 4 rfl) ?_
          refine lv_aload_n C.x C.b dX0_sift_36 rfl (lv_at hl 0 rfl) ?_
          refine lv_iload_n C.x C.b dX0_sift_37 rfl (lv_at hl 1 rfl) ?_
          refine lv_iload_n C.x C.b dX0_sift_38 rfl (lv_at hl 2 rfl) ?_
          refine lv_iload C.x C.b dX0_sift_39 (lv_at hl 4 rfl) ?_
          have e_17 : g_6 1 = .inr (3, [.ref (B + (1 + 1)), .ref (B + (1 + 2)), .ref (B + (1 + 3)), .int (nI n)]) := (hKp.1 _ (by omega)).trans p0
          have e_18 : g_6 (1 + 1) = .inl (t.1, 8, .inl o) := (hKp.1 _ (by omega)).trans p1
          have e_19 : g_6 (1 + 2) = .inl (t.1, 8, .inl pr) := (hKp.1 _ (by omega)).trans p2
          have e_20 : g_6 (1 + 3) = .inl (t.1, 8, .inl w) := (hKp.1 _ (by omega)).trans p3
          have e_21 : g_6 5 = .inr (6, [.int ey, .int wi, .int ev]) := (hKp.1 _ (by omega)).trans hW
          refine r_callV (b := 113) (As := [.int (nI f), .int x, .int (nI k_3)]) (rest := [.int (nI k_3), .ref (B + 114)]) (k_X0_seenAlike l D t B N g_6 _ _ _ _ _ _ _ f x (nI k_3) (by omega) ⟨e_17, e_18, e_19, e_20⟩ (by omega) e_21 hKp.2 (by omega) (by omega)) mf_yX0_seenAlike mlX0_70 im_yX0_seenAlike se_yX0_seenAlike (by decide) C hS (by omega) e_11 (show vwCl[0]? = some _ from rfl) rfl rfl hl.1 rfl (Nat.le_of_ble_eq_true rfl) dX0_sift_41 ⟨Nat.zero_le _, Nat.zero_le _⟩ (fun r_24 g_22 H locs w_23 hS => ?_)
          obtain ⟨w_23, er_24⟩ := w_23
          replace hKp : Kp t B g g_22 := hKp.tr w_23
          obtain ⟨q_25, e_26, hz_27⟩ := hKp.2.2.2.2.2.2.2.2.2
          refine r_zastN k_3 rfl (by omega) (by decide) er_24 C hS (by omega) e_26 dX0_sift_44 (fun g_28 H locs e_29 o_30 hS => ?_)
          replace e_29 : g_28 114 = .inl (t.2.1, 256, .inl (upd q_25 k_3 r_24)) := e_29
          replace hKp : Kp t B g g_28 := hKp.cal e_29 (upd01 hz_27 _ er_24) o_30
          refine lv_iinc (v := nI (k_3 + 1)) (lv' := [(4, .int (nI (k_3 + 1))), (0, .ref (B + 113)), (1, .int (nI f)), (2, .int x), (3, .int y)]) C.x C.b dX0_sift_45 hl (k := 4) rfl (nI_1 k_3) (by decide) rfl (fun ls hl => ?_)
          refine lv_goto (tgt := 3) C.x C.b dX0_sift_48 (by decide) ?_
          exact ih_5 (k_3 + 1) g_28 _ _ _ (by omega)  hKp hS (lv_sub hl [1, 2, 3, 4, 0] rfl)
  exact lp_1 256 0 g _ _ _ (by omega)  hKp hS (lv_sub hl [1, 2, 3, 4, 0] rfl)
set_option maxHeartbeats 1000000 in
set_option maxRecDepth 100000 in
theorem k_X0_learn (l : Launch) (D : va_G) (t : Gx) (B N : Nat) (g : Nat → va_E) (o pr w : Nat → Int32) (n : Nat) (ey wi ev : Int32)  (hN : 220 ≤ N) (hP : isProg t B g 1 o pr w n) (hn : n ≤ 8) (hW : isWat g 5 ey wi ev) (hScr : Scr t B g)  : Cv l D t B N N 0 0 yX0_learn cX0_learn 8 5 130 g [.ref (B + 113), .ref (B + 6), .ref (B + 1), .ref (B + 5)] (fun g' => Kp t B g g') := by
  refine Cv.start (by decide) (Nat.le_of_ble_eq_true rfl) ?_
  intro p e s m below meth c ls C hr hlocks hnm hS hl
  replace C : Cx D t p s m [.ref (B + 113), .ref (B + 6), .ref (B + 1), .ref (B + 5)].toArray c cX0_learn 8 RX0 := C
  replace hl : lv_has ls 8 [(0, .ref (B + 113)), (1, .ref (B + 6)), (2, .ref (B + 1)), (3, .ref (B + 5))] := hl
  obtain ⟨p0, p1, p2, p3⟩ := id hP
  have hKp : Kp t B g g := Kp.rf hScr
  refine lv_aload_n C.x C.b dX0_learn_0 rfl (lv_at hl 0 rfl) ?_
  obtain ⟨v_1, e_2, hz_3⟩ := hKp.2.2.2.2.2.2.2.2.1
  refine r_get ck0 flX0_31 C hS (by omega) e_2 (by decide) rfl dX0_learn_1 ?_
  refine lv_if_eq (tgt := 8) C.x C.b dX0_learn_4 (by decide) (fun c_4 => ?_) (fun c_4 => ?_)
  · skip
    refine lv_aload_n C.x C.b dX0_learn_8 rfl (lv_at hl 3 rfl) ?_
    refine r_get ck6 flX0_36 C hS (by omega) hW (by decide) rfl dX0_learn_9 ?_
    refine lv_bipush (v := (-9)) C.x C.b dX0_learn_12 (by decide) ?_
    refine lv_iand C.x C.b dX0_learn_14 ?_
    refine lv_istore (lv' := [(4, .int (ey &&& (-9))), (0, .ref (B + 113)), (1, .ref (B + 6)), (2, .ref (B + 1)), (3, .ref (B + 5))]) C.x C.b dX0_learn_15 hl (by decide) rfl (fun ls hl => ?_)
    refine lv_aload_n C.x C.b dX0_learn_17 rfl (lv_at hl 3 rfl) ?_
    refine lv_iload C.x C.b dX0_learn_18 (lv_at hl 0 rfl) ?_
    refine r_callV (b := 1) (As := [.int (ey &&& (-9))]) (rest := []) (c_X3_placesUnder l D t B N g 1 _ _ _ _ (ey &&& (-9)) (by omega) ⟨p0, p1, p2, p3⟩ (by omega)) mf_yX3_placesUnder mlX0_42 im_yX3_placesUnder se_yX3_placesUnder (by decide) C hS (by omega) p0 (show vwCl[3]? = some _ from rfl) rfl rfl hl.1 rfl (Nat.le_of_ble_eq_true rfl) dX0_learn_20 ⟨Nat.zero_le _, Nat.zero_le _⟩ (fun r_7 g_5 H locs w_6 hS => ?_)
    obtain ⟨rfl, er_7⟩ := w_6
    subst er_7
    refine lv_istore (lv' := [(5, .int (undF o (ey &&& (-9)) n)), (4, .int (ey &&& (-9))), (0, .ref (B + 113)), (1, .ref (B + 6)), (2, .ref (B + 1)), (3, .ref (B + 5))]) C.x C.b dX0_learn_23 hl (by decide) rfl (fun ls hl => ?_)
    refine lv_iconst (v := 0) C.x C.b dX0_learn_25 (by decide) ?_
    refine lv_istore (lv' := [(6, .int 0), (5, .int (undF o (ey &&& (-9)) n)), (4, .int (ey &&& (-9))), (0, .ref (B + 113)), (1, .ref (B + 6)), (2, .ref (B + 1)), (3, .ref (B + 5))]) C.x C.b dX0_learn_26 hl (by decide) rfl (fun ls hl => ?_)
    have lp_8 : ∀ (u_9 k_10 : Nat) (g_13 : Nat → va_E) (H : Heap) (locs : List Loc) (ls : Array Slot), k_10 + u_9 = 256 → Kp t B g g_13 → St D B s.heap N g_13 H locs → lv_has ls 8 [(5, .int (undF o (ey &&& (-9)) n)), (4, .int (ey &&& (-9))), (0, .ref (B + 113)), (1, .ref (B + 6)), (2, .ref (B + 1)), (3, .ref (B + 5)), (6, .int (nI k_10))] → W p l e (rmOf 5 130 0 0) s m [.ref (B + 113), .ref (B + 6), .ref (B + 1), .ref (B + 5)].toArray below meth c H locs 0 0 (MQ below (qV D B N (fun g' => Kp t B g g')) [.ref (B + 113), .ref (B + 6), .ref (B + 1), .ref (B + 5)].toArray s 0 0 (fun q => B ≤ q)) (F0 m 28 ls []) := by
      intro u_9
      induction u_9 with
      | zero =>
        intro k_10 g_13 H locs ls hk_11 hKp hS hl
        obtain rfl : 256 = k_10 := by omega
        refine lv_iload C.x C.b dX0_learn_28 (lv_at hl 6 rfl) ?_
        refine lv_sipush (v := 256) C.x C.b dX0_learn_30 (by decide) ?_
        refine lv_icmp_ge (tgt := 50) C.x C.b dX0_learn_33 (by decide) (fun c_14 => ?_) (fun c_14 => absurd (by decide) c_14)
        refine lv_iconst (v := 0) C.x C.b dX0_learn_50 (by decide) ?_
        refine lv_istore (lv' := [(6, .int 0), (5, .int (undF o (ey &&& (-9)) n)), (4, .int (ey &&& (-9))), (0, .ref (B + 113)), (1, .ref (B + 6)), (2, .ref (B + 1)), (3, .ref (B + 5))]) C.x C.b dX0_learn_51 hl (by decide) rfl (fun ls hl => ?_)
        have lp_15 : ∀ (u_16 k_17 : Nat) (g_20 : Nat → va_E) (H : Heap) (locs : List Loc) (ls : Array Slot), k_17 + u_16 = 16 → Kp t B g g_20 → St D B s.heap N g_20 H locs → lv_has ls 8 [(5, .int (undF o (ey &&& (-9)) n)), (4, .int (ey &&& (-9))), (0, .ref (B + 113)), (1, .ref (B + 6)), (2, .ref (B + 1)), (3, .ref (B + 5)), (6, .int (nI k_17))] → W p l e (rmOf 5 130 0 0) s m [.ref (B + 113), .ref (B + 6), .ref (B + 1), .ref (B + 5)].toArray below meth c H locs 0 0 (MQ below (qV D B N (fun g' => Kp t B g g')) [.ref (B + 113), .ref (B + 6), .ref (B + 1), .ref (B + 5)].toArray s 0 0 (fun q => B ≤ q)) (F0 m 53 ls []) := by
          intro u_16
          induction u_16 with
          | zero =>
            intro k_17 g_20 H locs ls hk_18 hKp hS hl
            obtain rfl : 16 = k_17 := by omega
            refine lv_iload C.x C.b dX0_learn_53 (lv_at hl 6 rfl) ?_
            refine lv_bipush (v := 16) C.x C.b dX0_learn_55 (by decide) ?_
            refine lv_icmp_ge (tgt := 93) C.x C.b dX0_learn_57 (by decide) (fun c_21 => ?_) (fun c_21 => absurd (by decide) c_21)
            refine lv_iconst (v := 0) C.x C.b dX0_learn_93 (by decide) ?_
            refine lv_istore (lv' := [(6, .int 0), (5, .int (undF o (ey &&& (-9)) n)), (4, .int (ey &&& (-9))), (0, .ref (B + 113)), (1, .ref (B + 6)), (2, .ref (B + 1)), (3, .ref (B + 5))]) C.x C.b dX0_learn_94 hl (by decide) rfl (fun ls hl => ?_)
            have lp_22 : ∀ (u_23 k_24 : Nat) (g_27 : Nat → va_E) (H : Heap) (locs : List Loc) (ls : Array Slot), k_24 + u_23 = 256 → Kp t B g g_27 → St D B s.heap N g_27 H locs → lv_has ls 8 [(5, .int (undF o (ey &&& (-9)) n)), (4, .int (ey &&& (-9))), (0, .ref (B + 113)), (1, .ref (B + 6)), (2, .ref (B + 1)), (3, .ref (B + 5)), (6, .int (nI k_24))] → W p l e (rmOf 5 130 0 0) s m [.ref (B + 113), .ref (B + 6), .ref (B + 1), .ref (B + 5)].toArray below meth c H locs 0 0 (MQ below (qV D B N (fun g' => Kp t B g g')) [.ref (B + 113), .ref (B + 6), .ref (B + 1), .ref (B + 5)].toArray s 0 0 (fun q => B ≤ q)) (F0 m 96 ls []) := by
              intro u_23
              induction u_23 with
              | zero =>
                intro k_24 g_27 H locs ls hk_25 hKp hS hl
                obtain rfl : 256 = k_24 := by omega
                refine lv_iload C.x C.b dX0_learn_96 (lv_at hl 6 rfl) ?_
                refine lv_sipush (v := 256) C.x C.b dX0_learn_98 (by decide) ?_
                refine lv_icmp_ge (tgt := 127) C.x C.b dX0_learn_101 (by decide) (fun c_28 => ?_) (fun c_28 => absurd (by decide) c_28)
                refine lv_aload_n C.x C.b dX0_learn_127 rfl (lv_at hl 2 rfl) ?_
                refine lv_iconst (v := 1) C.x C.b dX0_learn_128 (by decide) ?_
                obtain ⟨v_29, e_30, hz_31⟩ := hKp.2.2.2.2.2.2.2.2.1
                refine r_put ck0 flX0_31 C hS (by omega) e_30 (by decide) rfl (nar_z (by decide)) (fit_z (by decide)) (Nat.le_of_ble_eq_true rfl) dX0_learn_129 (fun g_32 H locs e_33 o_34 hS => ?_)
                replace e_33 : g_32 113 = .inr (0, [.ref (B + 114), .ref (B + 115), .ref (B + 116), .ref (B + 120), .int 1]) := e_33
                replace hKp : Kp t B g g_32 := hKp.cur (by decide) e_33 o_34
                exact r_vret C hr hlocks hS hKp dX0_learn_132
              | succ u_23 ih_26 =>
                intro k_24 g_27 H locs ls hk_25 hKp hS hl
                refine lv_iload C.x C.b dX0_learn_96 (lv_at hl 6 rfl) ?_
                refine lv_sipush (v := 256) C.x C.b dX0_learn_98 (by decide) ?_
                refine lv_icmp_ge (tgt := 127) C.x C.b dX0_learn_101 (by decide) (fun c_35 => absurd c_35 (nI_ge (a := k_24) (b := 256) (by omega) (by decide))) (fun c_35 => ?_)
                refine lv_aload_n C.x C.b dX0_learn_104 rfl (lv_at hl 2 rfl) ?_
                obtain ⟨v_36, e_37, hz_38⟩ := hKp.2.2.2.2.2.2.2.2.1
                refine r_get ck0 flX0_9 C hS (by omega) e_37 (by decide) rfl dX0_learn_105 ?_
                refine lv_iload C.x C.b dX0_learn_108 (lv_at hl 6 rfl) ?_
                refine lv_aload_n C.x C.b dX0_learn_110 rfl (lv_at hl 2 rfl) ?_
                refine r_get ck0 flX0_9 C hS (by omega) e_37 (by decide) rfl dX0_learn_111 ?_
                refine lv_iload C.x C.b dX0_learn_114 (lv_at hl 6 rfl) ?_
                refine lv_iload C.x C.b dX0_learn_116 (lv_at hl 0 rfl) ?_
                refine lv_iand C.x C.b dX0_learn_118 ?_
                obtain ⟨q_39, e_40, hz_41⟩ := hKp.2.2.2.2.2.2.2.2.2
                refine r_zaldN (an k_24 (undF o (ey &&& (-9)) n)) (an_eq _ _) (Nat.lt_of_le_of_lt (an_le _ _) (by omega)) (by decide) C hS (by omega) e_40 dX0_learn_119 ?_
                refine r_zastN k_24 rfl (by omega) (by decide) (hz_41 _) C hS (by omega) e_40 dX0_learn_120 (fun g_42 H locs e_43 o_44 hS => ?_)
                replace e_43 : g_42 114 = .inl (t.2.1, 256, .inl (upd q_39 k_24 (q_39 (an k_24 (undF o (ey &&& (-9)) n))))) := e_43
                replace hKp : Kp t B g g_42 := hKp.cal e_43 (upd01 hz_41 _ (hz_41 _)) o_44
                refine lv_iinc (v := nI (k_24 + 1)) (lv' := [(6, .int (nI (k_24 + 1))), (5, .int (undF o (ey &&& (-9)) n)), (4, .int (ey &&& (-9))), (0, .ref (B + 113)), (1, .ref (B + 6)), (2, .ref (B + 1)), (3, .ref (B + 5))]) C.x C.b dX0_learn_121 hl (k := 6) rfl (nI_1 k_24) (by decide) rfl (fun ls hl => ?_)
                refine lv_goto (tgt := 96) C.x C.b dX0_learn_124 (by decide) ?_
                exact ih_26 (k_24 + 1) g_42 _ _ _ (by omega)  hKp hS (lv_sub hl [1, 2, 3, 4, 5, 6, 0] rfl)
            exact lp_22 256 0 g_20 _ _ _ (by omega)  hKp hS (lv_sub hl [1, 2, 3, 4, 5, 6, 0] rfl)
          | succ u_16 ih_19 =>
            intro k_17 g_20 H locs ls hk_18 hKp hS hl
            refine lv_iload C.x C.b dX0_learn_53 (lv_at hl 6 rfl) ?_
            refine lv_bipush (v := 16) C.x C.b dX0_learn_55 (by decide) ?_
            refine lv_icmp_ge (tgt := 93) C.x C.b dX0_learn_57 (by decide) (fun c_45 => absurd c_45 (nI_ge (a := k_17) (b := 16) (by omega) (by decide))) (fun c_45 => ?_)
            refine lv_aload_n C.x C.b dX0_learn_60 rfl (lv_at hl 2 rfl) ?_
            refine lv_aload_n C.x C.b dX0_learn_61 rfl (lv_at hl 3 rfl) ?_
            refine lv_aload_n C.x C.b dX0_learn_62 rfl (lv_at hl 4 rfl) ?_
            refine lv_aload_n C.x C.b dX0_learn_63 rfl (lv_at hl 5 rfl) ?_
            refine lv_iload C.x C.b dX0_learn_64 (lv_at hl 6 rfl) ?_
            have e_46 : g_20 1 = .inr (3, [.ref (B + (1 + 1)), .ref (B + (1 + 2)), .ref (B + (1 + 3)), .int (nI n)]) := (hKp.1 _ (by omega)).trans p0
            have e_47 : g_20 (1 + 1) = .inl (t.1, 8, .inl o) := (hKp.1 _ (by omega)).trans p1
            have e_48 : g_20 (1 + 2) = .inl (t.1, 8, .inl pr) := (hKp.1 _ (by omega)).trans p2
            have e_49 : g_20 (1 + 3) = .inl (t.1, 8, .inl w) := (hKp.1 _ (by omega)).trans p3
            have e_50 : g_20 5 = .inr (6, [.int ey, .int wi, .int ev]) := (hKp.1 _ (by omega)).trans hW
            obtain ⟨v_54, e_55, hz_56⟩ := hKp.2.2.2.2.2.2.2.2.1
            refine r_callV (b := 113) (As := [.ref (B + 6), .ref (B + 1), .ref (B + 5), .int (nI k_17)]) (rest := []) (k_X0_gatherRuns l D t B N g_20 _ _ _ _ _ _ _ (nI k_17) (by omega) ⟨e_46, e_47, e_48, e_49⟩ (by omega) e_50 hKp.2 ) mf_yX0_gatherRuns mlX0_48 im_yX0_gatherRuns se_yX0_gatherRuns (by decide) C hS (by omega) e_55 (show vwCl[0]? = some _ from rfl) rfl rfl hl.1 rfl (Nat.le_of_ble_eq_true rfl) dX0_learn_66 ⟨Nat.zero_le _, Nat.zero_le _⟩ (fun r_53 g_51 H locs w_52 hS => ?_)
            obtain ⟨w_52, er_53⟩ := w_52
            replace hKp : Kp t B g g_51 := hKp.tr w_52
            obtain ⟨k_57, hk_58, rfl⟩ := er_53
            refine lv_istore (lv' := [(7, .int (nI k_57)), (5, .int (undF o (ey &&& (-9)) n)), (4, .int (ey &&& (-9))), (0, .ref (B + 113)), (1, .ref (B + 6)), (2, .ref (B + 1)), (3, .ref (B + 5)), (6, .int (nI k_17))]) C.x C.b dX0_learn_69 hl (by decide) rfl (fun ls hl => ?_)
            refine lv_iload C.x C.b dX0_learn_71 (lv_at hl 0 rfl) ?_
            refine lv_iconst (v := 1) C.x C.b dX0_learn_73 (by decide) ?_
            refine lv_icmp_le (tgt := 87) C.x C.b dX0_learn_74 (by decide) (fun c_59 => ?_) (fun c_59 => ?_)
            · skip
              refine lv_iinc (v := nI (k_17 + 1)) (lv' := [(6, .int (nI (k_17 + 1))), (7, .int (nI k_57)), (5, .int (undF o (ey &&& (-9)) n)), (4, .int (ey &&& (-9))), (0, .ref (B + 113)), (1, .ref (B + 6)), (2, .ref (B + 1)), (3, .ref (B + 5))]) C.x C.b dX0_learn_87 hl (k := 7) rfl (nI_1 k_17) (by decide) rfl (fun ls hl => ?_)
              refine lv_goto (tgt := 53) C.x C.b dX0_learn_90 (by decide) ?_
              exact ih_19 (k_17 + 1) g_51 _ _ _ (by omega)  hKp hS (lv_sub hl [2, 3, 4, 5, 6, 7, 0] rfl)
            · skip
              have hk1_k_57 : 1 < k_57 := gt1 c_59 (by omega)
              refine lv_aload_n C.x C.b dX0_learn_77 rfl (lv_at hl 3 rfl) ?_
              refine lv_iload C.x C.b dX0_learn_78 (lv_at hl 0 rfl) ?_
              refine lv_iload C.x C.b dX0_learn_80 (lv_at hl 2 rfl) ?_
              refine lv_iload C.x C.b dX0_learn_82 (lv_at hl 1 rfl) ?_
              have e_60 : g_51 1 = .inr (3, [.ref (B + (1 + 1)), .ref (B + (1 + 2)), .ref (B + (1 + 3)), .int (nI n)]) := (hKp.1 _ (by omega)).trans p0
              have e_61 : g_51 (1 + 1) = .inl (t.1, 8, .inl o) := (hKp.1 _ (by omega)).trans p1
              have e_62 : g_51 (1 + 2) = .inl (t.1, 8, .inl pr) := (hKp.1 _ (by omega)).trans p2
              have e_63 : g_51 (1 + 3) = .inl (t.1, 8, .inl w) := (hKp.1 _ (by omega)).trans p3
              have e_64 : g_51 5 = .inr (6, [.int ey, .int wi, .int ev]) := (hKp.1 _ (by omega)).trans hW
              obtain ⟨v_68, e_69, hz_70⟩ := hKp.2.2.2.2.2.2.2.2.1
              refine r_callVv (b := 113) (As := [.int (nI k_57), .int (ey &&& (-9)), .int (undF o (ey &&& (-9)) n)]) (rest := []) (k_X0_sift l D t B N g_51 _ _ _ _ _ _ _ k_57 (ey &&& (-9)) (undF o (ey &&& (-9)) n) (by omega) ⟨e_60, e_61, e_62, e_63⟩ (by omega) e_64 hKp.2 (by omega) (by omega)) mf_yX0_sift mlX0_52 im_yX0_sift se_yX0_sift (by decide) C hS (by omega) e_69 (show vwCl[0]? = some _ from rfl) rfl rfl hl.1 rfl (Nat.le_of_ble_eq_true rfl) dX0_learn_84 ⟨Nat.zero_le _, Nat.zero_le _⟩ (fun g_65 H locs w_66 hS => ?_)
              replace hKp : Kp t B g g_65 := hKp.tr w_66
              refine lv_iinc (v := nI (k_17 + 1)) (lv' := [(6, .int (nI (k_17 + 1))), (7, .int (nI k_57)), (5, .int (undF o (ey &&& (-9)) n)), (4, .int (ey &&& (-9))), (0, .ref (B + 113)), (1, .ref (B + 6)), (2, .ref (B + 1)), (3, .ref (B + 5))]) C.x C.b dX0_learn_87 hl (k := 7) rfl (nI_1 k_17) (by decide) rfl (fun ls hl => ?_)
              refine lv_goto (tgt := 53) C.x C.b dX0_learn_90 (by decide) ?_
              exact ih_19 (k_17 + 1) g_65 _ _ _ (by omega)  hKp hS (lv_sub hl [2, 3, 4, 5, 6, 7, 0] rfl)
        exact lp_15 16 0 g_13 _ _ _ (by omega)  hKp hS (lv_sub hl [1, 2, 3, 4, 5, 6, 0] rfl)
      | succ u_9 ih_12 =>
        intro k_10 g_13 H locs ls hk_11 hKp hS hl
        refine lv_iload C.x C.b dX0_learn_28 (lv_at hl 6 rfl) ?_
        refine lv_sipush (v := 256) C.x C.b dX0_learn_30 (by decide) ?_
        refine lv_icmp_ge (tgt := 50) C.x C.b dX0_learn_33 (by decide) (fun c_71 => absurd c_71 (nI_ge (a := k_10) (b := 256) (by omega) (by decide))) (fun c_71 => ?_)
        refine lv_aload_n C.x C.b dX0_learn_36 rfl (lv_at hl 2 rfl) ?_
        obtain ⟨v_72, e_73, hz_74⟩ := hKp.2.2.2.2.2.2.2.2.1
        refine r_get ck0 flX0_9 C hS (by omega) e_73 (by decide) rfl dX0_learn_37 ?_
        refine lv_iload C.x C.b dX0_learn_40 (lv_at hl 6 rfl) ?_
        refine lv_iconst (v := 1) C.x C.b dX0_learn_42 (by decide) ?_
        obtain ⟨q_75, e_76, hz_77⟩ := hKp.2.2.2.2.2.2.2.2.2
        refine r_zastN k_10 rfl (by omega) (by decide) (by decide) C hS (by omega) e_76 dX0_learn_43 (fun g_78 H locs e_79 o_80 hS => ?_)
        replace e_79 : g_78 114 = .inl (t.2.1, 256, .inl (upd q_75 k_10 1)) := e_79
        replace hKp : Kp t B g g_78 := hKp.cal e_79 (upd01 hz_77 _ (by decide)) o_80
        refine lv_iinc (v := nI (k_10 + 1)) (lv' := [(6, .int (nI (k_10 + 1))), (5, .int (undF o (ey &&& (-9)) n)), (4, .int (ey &&& (-9))), (0, .ref (B + 113)), (1, .ref (B + 6)), (2, .ref (B + 1)), (3, .ref (B + 5))]) C.x C.b dX0_learn_44 hl (k := 6) rfl (nI_1 k_10) (by decide) rfl (fun ls hl => ?_)
        refine lv_goto (tgt := 28) C.x C.b dX0_learn_47 (by decide) ?_
        exact ih_12 (k_10 + 1) g_78 _ _ _ (by omega)  hKp hS (lv_sub hl [1, 2, 3, 4, 5, 6, 0] rfl)
    exact lp_8 256 0 g _ _ _ (by omega)  hKp hS (lv_sub hl [1, 2, 3, 4, 5, 6, 0] rfl)
  · skip
    exact r_vret C hr hlocks hS hKp dX0_learn_7
set_option maxHeartbeats 1000000 in
set_option maxRecDepth 100000 in
theorem k_X0_isBetter (l : Launch) (D : va_G) (t : Gx) (B N : Nat) (g : Nat → va_E) (o pr w : Nat → Int32) (n : Nat) (ey wi ev : Int32) (x y : Int32) (hN : 220 ≤ N) (hP : isProg t B g 1 o pr w n) (hn : n ≤ 8) (hW : isWat g 5 ey wi ev) (hScr : Scr t B g)  : Ci l D t B N yX0_isBetter cX0_isBetter 5 (some .boolean) 1 23 g [.ref (B + 1), .int x, .int y] (fun r g' => Kp t B g g') := by
  refine Ci.start (by decide) (Nat.le_of_ble_eq_true rfl) ?_
  intro p e s m below meth c ls C hr hlocks hS hl
  replace C : Cx D t p s m [.ref (B + 1), .int x, .int y].toArray c cX0_isBetter 5 RX0 := C
  replace hl : lv_has ls 5 [(0, .ref (B + 1)), (1, .int x), (2, .int y)] := hl
  obtain ⟨p0, p1, p2, p3⟩ := id hP
  have hKp : Kp t B g g := Kp.rf hScr
  refine lv_aload_n C.x C.b dX0_isBetter_0 rfl (lv_at hl 0 rfl) ?_
  refine lv_iload_n C.x C.b dX0_isBetter_1 rfl (lv_at hl 1 rfl) ?_
  refine r_callV (b := 1) (As := [.int x]) (rest := []) (c_X3_priceOf l D t B N g 1 _ _ _ _ x (by omega) ⟨p0, p1, p2, p3⟩ (by omega)) mf_yX3_priceOf mlX0_89 im_yX3_priceOf se_yX3_priceOf (by decide) C hS (by omega) p0 (show vwCl[3]? = some _ from rfl) rfl rfl hl.1 rfl (Nat.le_of_ble_eq_true rfl) dX0_isBetter_2 ⟨Nat.zero_le _, Nat.zero_le _⟩ (fun r_3 g_1 H locs w_2 hS => ?_)
  obtain ⟨rfl, er_3⟩ := w_2
  subst er_3
  refine lv_istore_n (lv' := [(3, .int (prcOf pr x n)), (0, .ref (B + 1)), (1, .int x), (2, .int y)]) C.x C.b dX0_isBetter_5 rfl hl (by decide) rfl (fun ls hl => ?_)
  refine lv_aload_n C.x C.b dX0_isBetter_6 rfl (lv_at hl 1 rfl) ?_
  refine lv_iload_n C.x C.b dX0_isBetter_7 rfl (lv_at hl 3 rfl) ?_
  refine r_callV (b := 1) (As := [.int y]) (rest := []) (c_X3_priceOf l D t B N g 1 _ _ _ _ y (by omega) ⟨p0, p1, p2, p3⟩ (by omega)) mf_yX3_priceOf mlX0_89 im_yX3_priceOf se_yX3_priceOf (by decide) C hS (by omega) p0 (show vwCl[3]? = some _ from rfl) rfl rfl hl.1 rfl (Nat.le_of_ble_eq_true rfl) dX0_isBetter_8 ⟨Nat.zero_le _, Nat.zero_le _⟩ (fun r_6 g_4 H locs w_5 hS => ?_)
  obtain ⟨rfl, er_6⟩ := w_5
  subst er_6
  refine lv_istore (lv' := [(4, .int (prcOf pr y n)), (3, .int (prcOf pr x n)), (0, .ref (B + 1)), (1, .int x), (2, .int y)]) C.x C.b dX0_isBetter_11 hl (by decide) rfl (fun ls hl => ?_)
  refine lv_iload_n C.x C.b dX0_isBetter_13 rfl (lv_at hl 1 rfl) ?_
  refine lv_iload C.x C.b dX0_isBetter_14 (lv_at hl 0 rfl) ?_
  refine lv_icmp_eq (tgt := 31) C.x C.b dX0_isBetter_16 (by decide) (fun c_7 => ?_) (fun c_7 => ?_)
  · skip
    refine lv_iload_n C.x C.b dX0_isBetter_31 rfl (lv_at hl 3 rfl) ?_
    refine r_callS (As := [.int x]) (rest := []) (c_J6_bitCount_0f7a4 l D t B N g x) mf_yJ6_bitCount_0f7a4 mlX0_92 sm_yJ6_bitCount_0f7a4 (by decide) C hS rfl hl.1 rfl (Nat.le_of_ble_eq_true rfl) dX0_isBetter_32 ⟨Nat.zero_le _, Nat.zero_le _⟩ (fun r_10 g_8 H locs w_9 hS => ?_)
    obtain ⟨rfl, er_10⟩ := w_9
    subst er_10
    refine lv_iload_n C.x C.b dX0_isBetter_35 rfl (lv_at hl 4 rfl) ?_
    refine r_callS (As := [.int y]) (rest := [.int (bcF x)]) (c_J6_bitCount_0f7a4 l D t B N g y) mf_yJ6_bitCount_0f7a4 mlX0_92 sm_yJ6_bitCount_0f7a4 (by decide) C hS rfl hl.1 rfl (Nat.le_of_ble_eq_true rfl) dX0_isBetter_36 ⟨Nat.zero_le _, Nat.zero_le _⟩ (fun r_13 g_11 H locs w_12 hS => ?_)
    obtain ⟨rfl, er_13⟩ := w_12
    subst er_13
    refine lv_icmp_ge (tgt := 46) C.x C.b dX0_isBetter_39 (by decide) (fun c_14 => ?_) (fun c_14 => ?_)
    · skip
      refine lv_iconst (v := 0) C.x C.b dX0_isBetter_46 (by decide) ?_
      exact r_zret C hr hlocks hS (by decide) hKp dX0_isBetter_47
    · skip
      refine lv_iconst (v := 1) C.x C.b dX0_isBetter_42 (by decide) ?_
      refine lv_goto (tgt := 47) C.x C.b dX0_isBetter_43 (by decide) ?_
      exact r_zret C hr hlocks hS (by decide) hKp dX0_isBetter_47
  · skip
    refine lv_iload_n C.x C.b dX0_isBetter_19 rfl (lv_at hl 1 rfl) ?_
    refine lv_iload C.x C.b dX0_isBetter_20 (lv_at hl 0 rfl) ?_
    refine lv_icmp_ge (tgt := 29) C.x C.b dX0_isBetter_22 (by decide) (fun c_15 => ?_) (fun c_15 => ?_)
    · skip
      refine lv_iconst (v := 0) C.x C.b dX0_isBetter_29 (by decide) ?_
      exact r_zret C hr hlocks hS (by decide) hKp dX0_isBetter_30
    · skip
      refine lv_iconst (v := 1) C.x C.b dX0_isBetter_25 (by decide) ?_
      refine lv_goto (tgt := 30) C.x C.b dX0_isBetter_26 (by decide) ?_
      exact r_zret C hr hlocks hS (by decide) hKp dX0_isBetter_30
set_option maxHeartbeats 1000000 in
set_option maxRecDepth 100000 in
theorem k_X0_cheapest (l : Launch) (D : va_G) (t : Gx) (B N : Nat) (g : Nat → va_E) (o pr w : Nat → Int32) (n : Nat) (ey wi ev : Int32)  (hN : 220 ≤ N) (hP : isProg t B g 1 o pr w n) (hn : n ≤ 8) (hW : isWat g 5 ey wi ev) (hScr : Scr t B g)  : Ci l D t B N yX0_cheapest cX0_cheapest 5 (some .int) 2 47 g [.ref (B + 113), .ref (B + 1)] (fun r g' => Kp t B g g') := by
  refine Ci.start (by decide) (Nat.le_of_ble_eq_true rfl) ?_
  intro p e s m below meth c ls C hr hlocks hS hl
  replace C : Cx D t p s m [.ref (B + 113), .ref (B + 1)].toArray c cX0_cheapest 5 RX0 := C
  replace hl : lv_has ls 5 [(0, .ref (B + 113)), (1, .ref (B + 1))] := hl
  obtain ⟨p0, p1, p2, p3⟩ := id hP
  have hKp : Kp t B g g := Kp.rf hScr
  refine lv_iconst (v := 1) C.x C.b dX0_cheapest_0 (by decide) ?_
  refine lv_aload_n C.x C.b dX0_cheapest_1 rfl (lv_at hl 1 rfl) ?_
  refine r_get ck3 flX0_82 C hS (by omega) p0 (by decide) rfl dX0_cheapest_2 ?_
  refine lv_ishl C.x C.b dX0_cheapest_5 ?_
  obtain ⟨M, hM, eM⟩ := sh1 hn
  refine r_top (y := nI M) eM ?_
  refine lv_istore_n (lv' := [(2, .int (nI M)), (0, .ref (B + 113)), (1, .ref (B + 1))]) C.x C.b dX0_cheapest_6 rfl hl (by decide) rfl (fun ls hl => ?_)
  refine lv_iconst (v := (-1)) C.x C.b dX0_cheapest_7 (by decide) ?_
  refine lv_istore_n (lv' := [(3, .int (-1)), (2, .int (nI M)), (0, .ref (B + 113)), (1, .ref (B + 1))]) C.x C.b dX0_cheapest_8 rfl hl (by decide) rfl (fun ls hl => ?_)
  refine lv_iconst (v := 0) C.x C.b dX0_cheapest_9 (by decide) ?_
  refine lv_istore (lv' := [(4, .int 0), (3, .int (-1)), (2, .int (nI M)), (0, .ref (B + 113)), (1, .ref (B + 1))]) C.x C.b dX0_cheapest_10 hl (by decide) rfl (fun ls hl => ?_)
  have lp_1 : ∀ (u_2 k_3 : Nat) (b_7 : Int32) (g_6 : Nat → va_E) (H : Heap) (locs : List Loc) (ls : Array Slot), k_3 + u_2 = M → Kp t B g g_6 → St D B s.heap N g_6 H locs → lv_has ls 5 [(2, .int (nI M)), (0, .ref (B + 113)), (1, .ref (B + 1)), (3, .int b_7), (4, .int (nI k_3))] → W p l e (rmOf 2 47 0 0) s m [.ref (B + 113), .ref (B + 1)].toArray below meth c H locs 0 0 (MQ below (qI D B N (fun r g' => Kp t B g g')) [.ref (B + 113), .ref (B + 1)].toArray s 0 0 (fun q => B ≤ q)) (F0 m 12 ls []) := by
    intro u_2
    induction u_2 with
    | zero =>
      intro k_3 b_7 g_6 H locs ls hk_4 hKp hS hl
      obtain rfl : M = k_3 := by omega
      refine lv_iload C.x C.b dX0_cheapest_12 (lv_at hl 4 rfl) ?_
      refine lv_iload_n C.x C.b dX0_cheapest_14 rfl (lv_at hl 0 rfl) ?_
      refine lv_icmp_ge (tgt := 52) C.x C.b dX0_cheapest_15 (by decide) (fun c_8 => ?_) (fun c_8 => absurd (nI_le (Nat.le_refl _) (by omega)) c_8)
      refine lv_iload_n C.x C.b dX0_cheapest_52 rfl (lv_at hl 3 rfl) ?_
      exact r_iret C hr hlocks hS hKp dX0_cheapest_53
    | succ u_2 ih_5 =>
      intro k_3 b_7 g_6 H locs ls hk_4 hKp hS hl
      refine lv_iload C.x C.b dX0_cheapest_12 (lv_at hl 4 rfl) ?_
      refine lv_iload_n C.x C.b dX0_cheapest_14 rfl (lv_at hl 0 rfl) ?_
      refine lv_icmp_ge (tgt := 52) C.x C.b dX0_cheapest_15 (by decide) (fun c_9 => absurd c_9 (nI_ge (a := k_3) (b := M) (by omega) (by omega))) (fun c_9 => ?_)
      refine lv_aload_n C.x C.b dX0_cheapest_18 rfl (lv_at hl 1 rfl) ?_
      obtain ⟨v_10, e_11, hz_12⟩ := hKp.2.2.2.2.2.2.2.2.1
      refine r_get ck0 flX0_9 C hS (by omega) e_11 (by decide) rfl dX0_cheapest_19 ?_
      refine lv_iload C.x C.b dX0_cheapest_22 (lv_at hl 4 rfl) ?_
      obtain ⟨q_13, e_14, hz_15⟩ := hKp.2.2.2.2.2.2.2.2.2
      refine r_zaldN k_3 rfl (by omega) (by decide) C hS (by omega) e_14 dX0_cheapest_24 ?_
      refine lv_if_eq (tgt := 46) C.x C.b dX0_cheapest_25 (by decide) (fun c_16 => ?_) (fun c_16 => ?_)
      · skip
        refine lv_iinc (v := nI (k_3 + 1)) (lv' := [(4, .int (nI (k_3 + 1))), (2, .int (nI M)), (0, .ref (B + 113)), (1, .ref (B + 1)), (3, .int b_7)]) C.x C.b dX0_cheapest_46 hl (k := 4) rfl (nI_1 k_3) (by decide) rfl (fun ls hl => ?_)
        refine lv_goto (tgt := 12) C.x C.b dX0_cheapest_49 (by decide) ?_
        exact ih_5 (k_3 + 1) b_7 g_6 _ _ _ (by omega)  hKp hS (lv_sub hl [1, 2, 3, 4, 0] rfl)
      · skip
        refine lv_iload_n C.x C.b dX0_cheapest_28 rfl (lv_at hl 3 rfl) ?_
        refine lv_iconst (v := (-1)) C.x C.b dX0_cheapest_29 (by decide) ?_
        refine lv_icmp_eq (tgt := 43) C.x C.b dX0_cheapest_30 (by decide) (fun c_17 => ?_) (fun c_17 => ?_)
        · skip
          refine lv_iload C.x C.b dX0_cheapest_43 (lv_at hl 4 rfl) ?_
          refine lv_istore_n (lv' := [(3, .int (nI k_3)), (2, .int (nI M)), (0, .ref (B + 113)), (1, .ref (B + 1)), (4, .int (nI k_3))]) C.x C.b dX0_cheapest_45 rfl hl (by decide) rfl (fun ls hl => ?_)
          refine lv_iinc (v := nI (k_3 + 1)) (lv' := [(4, .int (nI (k_3 + 1))), (3, .int (nI k_3)), (2, .int (nI M)), (0, .ref (B + 113)), (1, .ref (B + 1))]) C.x C.b dX0_cheapest_46 hl (k := 4) rfl (nI_1 k_3) (by decide) rfl (fun ls hl => ?_)
          refine lv_goto (tgt := 12) C.x C.b dX0_cheapest_49 (by decide) ?_
          exact ih_5 (k_3 + 1) (nI k_3) g_6 _ _ _ (by omega)  hKp hS (lv_sub hl [2, 3, 4, 1, 0] rfl)
        · skip
          refine lv_aload_n C.x C.b dX0_cheapest_33 rfl (lv_at hl 2 rfl) ?_
          refine lv_iload C.x C.b dX0_cheapest_34 (lv_at hl 4 rfl) ?_
          refine lv_iload_n C.x C.b dX0_cheapest_36 rfl (lv_at hl 3 rfl) ?_
          have e_18 : g_6 1 = .inr (3, [.ref (B + (1 + 1)), .ref (B + (1 + 2)), .ref (B + (1 + 3)), .int (nI n)]) := (hKp.1 _ (by omega)).trans p0
          have e_19 : g_6 (1 + 1) = .inl (t.1, 8, .inl o) := (hKp.1 _ (by omega)).trans p1
          have e_20 : g_6 (1 + 2) = .inl (t.1, 8, .inl pr) := (hKp.1 _ (by omega)).trans p2
          have e_21 : g_6 (1 + 3) = .inl (t.1, 8, .inl w) := (hKp.1 _ (by omega)).trans p3
          have e_22 : g_6 5 = .inr (6, [.int ey, .int wi, .int ev]) := (hKp.1 _ (by omega)).trans hW
          refine r_callS (As := [.ref (B + 1), .int (nI k_3), .int b_7]) (rest := []) (k_X0_isBetter l D t B N g_6 _ _ _ _ _ _ _ (nI k_3) b_7 (by omega) ⟨e_18, e_19, e_20, e_21⟩ (by omega) e_22 hKp.2 ) mf_yX0_isBetter mlX0_85 sm_yX0_isBetter (by decide) C hS rfl hl.1 rfl (Nat.le_of_ble_eq_true rfl) dX0_cheapest_37 ⟨Nat.zero_le _, Nat.zero_le _⟩ (fun r_25 g_23 H locs w_24 hS => ?_)
          replace hKp : Kp t B g g_23 := hKp.tr w_24
          refine lv_if_eq (tgt := 46) C.x C.b dX0_cheapest_40 (by decide) (fun c_26 => ?_) (fun c_26 => ?_)
          · skip
            refine lv_iinc (v := nI (k_3 + 1)) (lv' := [(4, .int (nI (k_3 + 1))), (2, .int (nI M)), (0, .ref (B + 113)), (1, .ref (B + 1)), (3, .int b_7)]) C.x C.b dX0_cheapest_46 hl (k := 4) rfl (nI_1 k_3) (by decide) rfl (fun ls hl => ?_)
            refine lv_goto (tgt := 12) C.x C.b dX0_cheapest_49 (by decide) ?_
            exact ih_5 (k_3 + 1) b_7 g_23 _ _ _ (by omega)  hKp hS (lv_sub hl [1, 2, 3, 4, 0] rfl)
          · skip
            refine lv_iload C.x C.b dX0_cheapest_43 (lv_at hl 4 rfl) ?_
            refine lv_istore_n (lv' := [(3, .int (nI k_3)), (2, .int (nI M)), (0, .ref (B + 113)), (1, .ref (B + 1)), (4, .int (nI k_3))]) C.x C.b dX0_cheapest_45 rfl hl (by decide) rfl (fun ls hl => ?_)
            refine lv_iinc (v := nI (k_3 + 1)) (lv' := [(4, .int (nI (k_3 + 1))), (3, .int (nI k_3)), (2, .int (nI M)), (0, .ref (B + 113)), (1, .ref (B + 1))]) C.x C.b dX0_cheapest_46 hl (k := 4) rfl (nI_1 k_3) (by decide) rfl (fun ls hl => ?_)
            refine lv_goto (tgt := 12) C.x C.b dX0_cheapest_49 (by decide) ?_
            exact ih_5 (k_3 + 1) (nI k_3) g_23 _ _ _ (by omega)  hKp hS (lv_sub hl [2, 3, 4, 1, 0] rfl)
  exact lp_1 M 0 (-1) g _ _ _ (by omega)  hKp hS (lv_sub hl [2, 3, 4, 1, 0] rfl)
set_option maxHeartbeats 1000000 in
set_option maxRecDepth 100000 in
theorem k_X0_howMany (l : Launch) (D : va_G) (t : Gx) (B N : Nat) (g : Nat → va_E) (o pr w : Nat → Int32) (n : Nat) (ey wi ev : Int32)  (hN : 220 ≤ N) (hP : isProg t B g 1 o pr w n) (hn : n ≤ 8) (hW : isWat g 5 ey wi ev) (hScr : Scr t B g)  : Ci l D t B N yX0_howMany cX0_howMany 5 (some .int) 0 0 g [.ref (B + 113), .ref (B + 1)] (fun r g' => Kp t B g g') := by
  refine Ci.start (by decide) (Nat.le_of_ble_eq_true rfl) ?_
  intro p e s m below meth c ls C hr hlocks hS hl
  replace C : Cx D t p s m [.ref (B + 113), .ref (B + 1)].toArray c cX0_howMany 5 RX0 := C
  replace hl : lv_has ls 5 [(0, .ref (B + 113)), (1, .ref (B + 1))] := hl
  obtain ⟨p0, p1, p2, p3⟩ := id hP
  have hKp : Kp t B g g := Kp.rf hScr
  refine lv_iconst (v := 1) C.x C.b dX0_howMany_0 (by decide) ?_
  refine lv_aload_n C.x C.b dX0_howMany_1 rfl (lv_at hl 1 rfl) ?_
  refine r_get ck3 flX0_82 C hS (by omega) p0 (by decide) rfl dX0_howMany_2 ?_
  refine lv_ishl C.x C.b dX0_howMany_5 ?_
  obtain ⟨M, hM, eM⟩ := sh1 hn
  refine r_top (y := nI M) eM ?_
  refine lv_istore_n (lv' := [(2, .int (nI M)), (0, .ref (B + 113)), (1, .ref (B + 1))]) C.x C.b dX0_howMany_6 rfl hl (by decide) rfl (fun ls hl => ?_)
  refine lv_iconst (v := 0) C.x C.b dX0_howMany_7 (by decide) ?_
  refine lv_istore_n (lv' := [(3, .int 0), (2, .int (nI M)), (0, .ref (B + 113)), (1, .ref (B + 1))]) C.x C.b dX0_howMany_8 rfl hl (by decide) rfl (fun ls hl => ?_)
  refine lv_iconst (v := 0) C.x C.b dX0_howMany_9 (by decide) ?_
  refine lv_istore (lv' := [(4, .int 0), (3, .int 0), (2, .int (nI M)), (0, .ref (B + 113)), (1, .ref (B + 1))]) C.x C.b dX0_howMany_10 hl (by decide) rfl (fun ls hl => ?_)
  have lp_1 : ∀ (u_2 k_3 : Nat) (b_7 : Int32) (g_6 : Nat → va_E) (H : Heap) (locs : List Loc) (ls : Array Slot), k_3 + u_2 = M → Kp t B g g_6 → St D B s.heap N g_6 H locs → lv_has ls 5 [(2, .int (nI M)), (0, .ref (B + 113)), (1, .ref (B + 1)), (3, .int b_7), (4, .int (nI k_3))] → W p l e (rmOf 0 0 0 0) s m [.ref (B + 113), .ref (B + 1)].toArray below meth c H locs 0 0 (MQ below (qI D B N (fun r g' => Kp t B g g')) [.ref (B + 113), .ref (B + 1)].toArray s 0 0 (fun q => B ≤ q)) (F0 m 12 ls []) := by
    intro u_2
    induction u_2 with
    | zero =>
      intro k_3 b_7 g_6 H locs ls hk_4 hKp hS hl
      obtain rfl : M = k_3 := by omega
      refine lv_iload C.x C.b dX0_howMany_12 (lv_at hl 4 rfl) ?_
      refine lv_iload_n C.x C.b dX0_howMany_14 rfl (lv_at hl 0 rfl) ?_
      refine lv_icmp_ge (tgt := 37) C.x C.b dX0_howMany_15 (by decide) (fun c_8 => ?_) (fun c_8 => absurd (nI_le (Nat.le_refl _) (by omega)) c_8)
      refine lv_iload_n C.x C.b dX0_howMany_37 rfl (lv_at hl 3 rfl) ?_
      exact r_iret C hr hlocks hS hKp dX0_howMany_38
    | succ u_2 ih_5 =>
      intro k_3 b_7 g_6 H locs ls hk_4 hKp hS hl
      refine lv_iload C.x C.b dX0_howMany_12 (lv_at hl 4 rfl) ?_
      refine lv_iload_n C.x C.b dX0_howMany_14 rfl (lv_at hl 0 rfl) ?_
      refine lv_icmp_ge (tgt := 37) C.x C.b dX0_howMany_15 (by decide) (fun c_9 => absurd c_9 (nI_ge (a := k_3) (b := M) (by omega) (by omega))) (fun c_9 => ?_)
      refine lv_aload_n C.x C.b dX0_howMany_18 rfl (lv_at hl 1 rfl) ?_
      obtain ⟨v_10, e_11, hz_12⟩ := hKp.2.2.2.2.2.2.2.2.1
      refine r_get ck0 flX0_9 C hS (by omega) e_11 (by decide) rfl dX0_howMany_19 ?_
      refine lv_iload C.x C.b dX0_howMany_22 (lv_at hl 4 rfl) ?_
      obtain ⟨q_13, e_14, hz_15⟩ := hKp.2.2.2.2.2.2.2.2.2
      refine r_zaldN k_3 rfl (by omega) (by decide) C hS (by omega) e_14 dX0_howMany_24 ?_
      refine lv_if_eq (tgt := 31) C.x C.b dX0_howMany_25 (by decide) (fun c_16 => ?_) (fun c_16 => ?_)
      · skip
        refine lv_iinc (v := nI (k_3 + 1)) (lv' := [(4, .int (nI (k_3 + 1))), (2, .int (nI M)), (0, .ref (B + 113)), (1, .ref (B + 1)), (3, .int b_7)]) C.x C.b dX0_howMany_31 hl (k := 4) rfl (nI_1 k_3) (by decide) rfl (fun ls hl => ?_)
        refine lv_goto (tgt := 12) C.x C.b dX0_howMany_34 (by decide) ?_
        exact ih_5 (k_3 + 1) b_7 g_6 _ _ _ (by omega)  hKp hS (lv_sub hl [1, 2, 3, 4, 0] rfl)
      · skip
        refine lv_iinc (v := (b_7 + 1)) (lv' := [(3, .int (b_7 + 1)), (2, .int (nI M)), (0, .ref (B + 113)), (1, .ref (B + 1)), (4, .int (nI k_3))]) C.x C.b dX0_howMany_28 hl (k := 3) rfl (rfl) (by decide) rfl (fun ls hl => ?_)
        refine lv_iinc (v := nI (k_3 + 1)) (lv' := [(4, .int (nI (k_3 + 1))), (3, .int (b_7 + 1)), (2, .int (nI M)), (0, .ref (B + 113)), (1, .ref (B + 1))]) C.x C.b dX0_howMany_31 hl (k := 4) rfl (nI_1 k_3) (by decide) rfl (fun ls hl => ?_)
        refine lv_goto (tgt := 12) C.x C.b dX0_howMany_34 (by decide) ?_
        exact ih_5 (k_3 + 1) (b_7 + 1) g_6 _ _ _ (by omega)  hKp hS (lv_sub hl [2, 3, 4, 1, 0] rfl)
  exact lp_1 M 0 0 g _ _ _ (by omega)  hKp hS (lv_sub hl [2, 3, 4, 1, 0] rfl)
end
section
abbrev isWd (x : Int32) : Prop := x = 1 ∨ x = 2 ∨ x = 4 ∨ x = 8
theorem al1_all : ∀ n, n < 9 → ((1 : Int32) <<< (nI n &&& 31)) - 1 = nI (2 ^ n - 1) ∧ 2 ^ n - 1 ≤ 255 := by decide +kernel
theorem al1 {n : Nat} (h : n ≤ 8) : ∃ M, M ≤ 255 ∧ ((1 : Int32) <<< (nI n &&& 31)) - 1 = nI M := ⟨2 ^ n - 1, (al1_all n (by omega)).2, (al1_all n (by omega)).1⟩
theorem sw_out_0_3 {x : Int32} (h0 : ¬ x = 0) (h1 : ¬ x = 1) (h2 : ¬ x = 2) (h3 : ¬ x = 3) : x.toInt < 0 ∨ 3 < x.toInt := by
  have a0 : x.toInt ≠ 0 := i32_ne h0
  have a1 : x.toInt ≠ 1 := i32_ne h1
  have a2 : x.toInt ≠ 2 := i32_ne h2
  have a3 : x.toInt ≠ 3 := i32_ne h3
  omega
set_option maxHeartbeats 1000000 in
set_option maxRecDepth 100000 in
theorem c_X7_isOrder (l : Launch) (D : va_G) (t : Gx) (B N : Nat) (g : Nat → va_E) (x : Int32)  : Ci l D t B N yX7_isOrder cX7_isOrder 1 (some .boolean) 0 0 g [.int x] (fun r g' => g = g' ∧ r = bz (inP 40960 x)) := by
  refine Ci.start (by decide) (Nat.le_of_ble_eq_true rfl) ?_
  intro p e s m below meth c ls C hr hlocks hS hl
  replace C : Cx D t p s m [.int x].toArray c cX7_isOrder 1 RX7 := C
  replace hl : lv_has ls 1 [(0, .int x)] := hl
  refine lv_iload_n C.x C.b dX7_isOrder_0 rfl (lv_at hl 0 rfl) ?_
  refine lv_if_lt (tgt := 14) C.x C.b dX7_isOrder_1 (by decide) (fun c_1 => ?_) (fun c_1 => ?_)
  · skip
    refine lv_iconst (v := 0) C.x C.b dX7_isOrder_14 (by decide) ?_
    exact r_zret C hr hlocks hS (by decide) ⟨rfl, (bz_f (fun q => q.1 c_1)).symm⟩ dX7_isOrder_15
  · skip
    refine lv_iload_n C.x C.b dX7_isOrder_4 rfl (lv_at hl 0 rfl) ?_
    refine lv_ldc (v := 40960) C.x C.b C.o (C.w kkX7_200) dX7_isOrder_5 ?_
    refine lv_icmp_ge (tgt := 14) C.x C.b dX7_isOrder_7 (by decide) (fun c_2 => ?_) (fun c_2 => ?_)
    · skip
      refine lv_iconst (v := 0) C.x C.b dX7_isOrder_14 (by decide) ?_
      exact r_zret C hr hlocks hS (by decide) ⟨rfl, (bz_f (fun q => q.2 c_2)).symm⟩ dX7_isOrder_15
    · skip
      refine lv_iconst (v := 1) C.x C.b dX7_isOrder_10 (by decide) ?_
      refine lv_goto (tgt := 15) C.x C.b dX7_isOrder_11 (by decide) ?_
      exact r_zret C hr hlocks hS (by decide) ⟨rfl, (bz_t ⟨c_1, c_2⟩).symm⟩ dX7_isOrder_15
set_option maxHeartbeats 1000000 in
set_option maxRecDepth 100000 in
theorem c_X7_isInput (l : Launch) (D : va_G) (t : Gx) (B N : Nat) (g : Nat → va_E) (x : Int32)  : Ci l D t B N yX7_isInput cX7_isInput 1 (some .boolean) 0 0 g [.int x] (fun r g' => g = g' ∧ r = bz (inP 16 x)) := by
  refine Ci.start (by decide) (Nat.le_of_ble_eq_true rfl) ?_
  intro p e s m below meth c ls C hr hlocks hS hl
  replace C : Cx D t p s m [.int x].toArray c cX7_isInput 1 RX7 := C
  replace hl : lv_has ls 1 [(0, .int x)] := hl
  refine lv_iload_n C.x C.b dX7_isInput_0 rfl (lv_at hl 0 rfl) ?_
  refine lv_if_lt (tgt := 14) C.x C.b dX7_isInput_1 (by decide) (fun c_1 => ?_) (fun c_1 => ?_)
  · skip
    refine lv_iconst (v := 0) C.x C.b dX7_isInput_14 (by decide) ?_
    exact r_zret C hr hlocks hS (by decide) ⟨rfl, (bz_f (fun q => q.1 c_1)).symm⟩ dX7_isInput_15
  · skip
    refine lv_iload_n C.x C.b dX7_isInput_4 rfl (lv_at hl 0 rfl) ?_
    refine lv_bipush (v := 16) C.x C.b dX7_isInput_5 (by decide) ?_
    refine lv_icmp_ge (tgt := 14) C.x C.b dX7_isInput_7 (by decide) (fun c_2 => ?_) (fun c_2 => ?_)
    · skip
      refine lv_iconst (v := 0) C.x C.b dX7_isInput_14 (by decide) ?_
      exact r_zret C hr hlocks hS (by decide) ⟨rfl, (bz_f (fun q => q.2 c_2)).symm⟩ dX7_isInput_15
    · skip
      refine lv_iconst (v := 1) C.x C.b dX7_isInput_10 (by decide) ?_
      refine lv_goto (tgt := 15) C.x C.b dX7_isInput_11 (by decide) ?_
      exact r_zret C hr hlocks hS (by decide) ⟨rfl, (bz_t ⟨c_1, c_2⟩).symm⟩ dX7_isInput_15
set_option maxHeartbeats 1000000 in
set_option maxRecDepth 100000 in
theorem c_X7_isWidth (l : Launch) (D : va_G) (t : Gx) (B N : Nat) (g : Nat → va_E) (x : Int32)  : Ci l D t B N yX7_isWidth cX7_isWidth 1 (some .boolean) 0 0 g [.int x] (fun r g' => g = g' ∧ r = bz (isWd x)) := by
  refine Ci.start (by decide) (Nat.le_of_ble_eq_true rfl) ?_
  intro p e s m below meth c ls C hr hlocks hS hl
  replace C : Cx D t p s m [.int x].toArray c cX7_isWidth 1 RX7 := C
  replace hl : lv_has ls 1 [(0, .int x)] := hl
  refine lv_iload_n C.x C.b dX7_isWidth_0 rfl (lv_at hl 0 rfl) ?_
  refine lv_iconst (v := 1) C.x C.b dX7_isWidth_1 (by decide) ?_
  refine lv_icmp_eq (tgt := 21) C.x C.b dX7_isWidth_2 (by decide) (fun c_1 => ?_) (fun c_1 => ?_)
  · skip
    refine lv_iconst (v := 1) C.x C.b dX7_isWidth_21 (by decide) ?_
    refine lv_goto (tgt := 26) C.x C.b dX7_isWidth_22 (by decide) ?_
    exact r_zret C hr hlocks hS (by decide) ⟨rfl, (bz_t (Or.inl c_1)).symm⟩ dX7_isWidth_26
  · skip
    refine lv_iload_n C.x C.b dX7_isWidth_5 rfl (lv_at hl 0 rfl) ?_
    refine lv_iconst (v := 2) C.x C.b dX7_isWidth_6 (by decide) ?_
    refine lv_icmp_eq (tgt := 21) C.x C.b dX7_isWidth_7 (by decide) (fun c_2 => ?_) (fun c_2 => ?_)
    · skip
      refine lv_iconst (v := 1) C.x C.b dX7_isWidth_21 (by decide) ?_
      refine lv_goto (tgt := 26) C.x C.b dX7_isWidth_22 (by decide) ?_
      exact r_zret C hr hlocks hS (by decide) ⟨rfl, (bz_t (Or.inr (Or.inl c_2))).symm⟩ dX7_isWidth_26
    · skip
      refine lv_iload_n C.x C.b dX7_isWidth_10 rfl (lv_at hl 0 rfl) ?_
      refine lv_iconst (v := 4) C.x C.b dX7_isWidth_11 (by decide) ?_
      refine lv_icmp_eq (tgt := 21) C.x C.b dX7_isWidth_12 (by decide) (fun c_3 => ?_) (fun c_3 => ?_)
      · skip
        refine lv_iconst (v := 1) C.x C.b dX7_isWidth_21 (by decide) ?_
        refine lv_goto (tgt := 26) C.x C.b dX7_isWidth_22 (by decide) ?_
        exact r_zret C hr hlocks hS (by decide) ⟨rfl, (bz_t (Or.inr (Or.inr (Or.inl c_3)))).symm⟩ dX7_isWidth_26
      · skip
        refine lv_iload_n C.x C.b dX7_isWidth_15 rfl (lv_at hl 0 rfl) ?_
        refine lv_bipush (v := 8) C.x C.b dX7_isWidth_16 (by decide) ?_
        refine lv_icmp_ne (tgt := 25) C.x C.b dX7_isWidth_18 (by decide) (fun c_4 => ?_) (fun c_4 => ?_)
        · skip
          refine lv_iconst (v := 0) C.x C.b dX7_isWidth_25 (by decide) ?_
          exact r_zret C hr hlocks hS (by decide) ⟨rfl, (bz_f (fun q => q.elim c_1 (fun q => q.elim c_2 (fun q => q.elim c_3 c_4)))).symm⟩ dX7_isWidth_26
        · skip
          refine lv_iconst (v := 1) C.x C.b dX7_isWidth_21 (by decide) ?_
          refine lv_goto (tgt := 26) C.x C.b dX7_isWidth_22 (by decide) ?_
          exact r_zret C hr hlocks hS (by decide) ⟨rfl, (bz_t (Or.inr (Or.inr (Or.inr (c_4))))).symm⟩ dX7_isWidth_26
set_option maxHeartbeats 1000000 in
set_option maxRecDepth 100000 in
theorem k_X7_forgetRuns (l : Launch) (D : va_G) (t : Gx) (B N : Nat) (g : Nat → va_E) (o pr w : Nat → Int32) (n : Nat) (ey wi ev : Int32)  (hN : 220 ≤ N) (hP : isProg t B g 1 o pr w n) (hn : n ≤ 8) (hW : isWat g 5 ey wi ev) (hScr : Scr t B g)  : Cv l D t B N N 0 0 yX7_forgetRuns cX7_forgetRuns 1 1 21 g [.ref (B + 0)] (fun g' => Kp t B g g') := by
  refine Cv.start (by decide) (Nat.le_of_ble_eq_true rfl) ?_
  intro p e s m below meth c ls C hr hlocks hnm hS hl
  replace C : Cx D t p s m [.ref (B + 0)].toArray c cX7_forgetRuns 1 RX7 := C
  replace hl : lv_has ls 1 [(0, .ref (B + 0))] := hl
  obtain ⟨p0, p1, p2, p3⟩ := id hP
  have hKp : Kp t B g g := Kp.rf hScr
  refine lv_aload_n C.x C.b dX7_forgetRuns_0 rfl (lv_at hl 0 rfl) ?_
  refine lv_iconst (v := (-1)) C.x C.b dX7_forgetRuns_1 (by decide) ?_
  obtain ⟨v_1, e_2⟩ := hKp.2.1
  refine r_put ck7 flX7_61 C hS (by omega) e_2 (by decide) rfl rfl rfl (Nat.le_of_ble_eq_true rfl) dX7_forgetRuns_2 (fun g_3 H locs e_4 o_5 hS => ?_)
  replace e_4 : g_3 0 = .inr (7, [.ref (B + 1), .ref (B + 5), .ref (B + 6), .ref (B + 9), .ref (B + 15), .ref (B + 19), .ref (B + 23), .ref (B + 113), .int (-1)]) := e_4
  replace hKp : Kp t B g g_3 := hKp.top e_4 o_5
  refine lv_aload_n C.x C.b dX7_forgetRuns_5 rfl (lv_at hl 0 rfl) ?_
  refine r_get ck7 flX7_50 C hS (by omega) e_4 (by decide) rfl dX7_forgetRuns_6 ?_
  have e_6 : g_3 1 = .inr (3, [.ref (B + (1 + 1)), .ref (B + (1 + 2)), .ref (B + (1 + 3)), .int (nI n)]) := (hKp.1 _ (by omega)).trans p0
  have e_7 : g_3 (1 + 1) = .inl (t.1, 8, .inl o) := (hKp.1 _ (by omega)).trans p1
  have e_8 : g_3 (1 + 2) = .inl (t.1, 8, .inl pr) := (hKp.1 _ (by omega)).trans p2
  have e_9 : g_3 (1 + 3) = .inl (t.1, 8, .inl w) := (hKp.1 _ (by omega)).trans p3
  have e_10 : g_3 5 = .inr (6, [.int ey, .int wi, .int ev]) := (hKp.1 _ (by omega)).trans hW
  have e_14 := hKp.2.2.2.2.2.1.1
  refine r_callVv (b := 23) (As := []) (rest := []) (k_X2_forget l D t B N g_3 _ _ _ _ _ _ _  (by omega) ⟨e_6, e_7, e_8, e_9⟩ (by omega) e_10 hKp.2 ) mf_yX2_forget mlX7_107 im_yX2_forget se_yX2_forget (by decide) C hS (by omega) e_14 (show vwCl[2]? = some _ from rfl) rfl rfl hl.1 rfl (Nat.le_of_ble_eq_true rfl) dX7_forgetRuns_9 ⟨Nat.zero_le _, Nat.zero_le _⟩ (fun g_11 H locs w_12 hS => ?_)
  replace hKp : Kp t B g g_11 := hKp.tr w_12
  refine lv_aload_n C.x C.b dX7_forgetRuns_12 rfl (lv_at hl 0 rfl) ?_
  obtain ⟨v_15, e_16⟩ := hKp.2.1
  refine r_get ck7 flX7_57 C hS (by omega) e_16 (by decide) rfl dX7_forgetRuns_13 ?_
  have e_17 : g_11 1 = .inr (3, [.ref (B + (1 + 1)), .ref (B + (1 + 2)), .ref (B + (1 + 3)), .int (nI n)]) := (hKp.1 _ (by omega)).trans p0
  have e_18 : g_11 (1 + 1) = .inl (t.1, 8, .inl o) := (hKp.1 _ (by omega)).trans p1
  have e_19 : g_11 (1 + 2) = .inl (t.1, 8, .inl pr) := (hKp.1 _ (by omega)).trans p2
  have e_20 : g_11 (1 + 3) = .inl (t.1, 8, .inl w) := (hKp.1 _ (by omega)).trans p3
  have e_21 : g_11 5 = .inr (6, [.int ey, .int wi, .int ev]) := (hKp.1 _ (by omega)).trans hW
  obtain ⟨v_25, e_26, hz_27⟩ := hKp.2.2.2.2.2.2.2.2.1
  refine r_callVv (b := 113) (As := []) (rest := []) (k_X0_forget l D t B N g_11 _ _ _ _ _ _ _  (by omega) ⟨e_17, e_18, e_19, e_20⟩ (by omega) e_21 hKp.2 ) mf_yX0_forget mlX7_201 im_yX0_forget se_yX0_forget (by decide) C hS (by omega) e_26 (show vwCl[0]? = some _ from rfl) rfl rfl hl.1 rfl (Nat.le_of_ble_eq_true rfl) dX7_forgetRuns_16 ⟨Nat.zero_le _, Nat.zero_le _⟩ (fun g_22 H locs w_23 hS => ?_)
  replace hKp : Kp t B g g_22 := hKp.tr w_23
  exact r_vret C hr hlocks hS hKp dX7_forgetRuns_19
set_option maxHeartbeats 1000000 in
set_option maxRecDepth 100000 in
theorem k_X7_fillRow (l : Launch) (D : va_G) (t : Gx) (B N : Nat) (g : Nat → va_E) (o pr w : Nat → Int32) (n : Nat) (ey wi ev : Int32) (i : Nat) (x y : Int32) (hN : 220 ≤ N) (hP : isProg t B g 1 o pr w n) (hn : n ≤ 8) (hW : isWat g 5 ey wi ev) (hScr : Scr t B g) (hi : rowId i) (hi0 : i + 3 < 220) : Cv l D t B N N 0 0 yX7_fillRow cX7_fillRow 4 4 104 g [.ref (B + 0), .ref (B + i), .int x, .int y] (fun g' => Kp t B g g') := by
  refine Cv.start (by decide) (Nat.le_of_ble_eq_true rfl) ?_
  intro p e s m below meth c ls C hr hlocks hnm hS hl
  replace C : Cx D t p s m [.ref (B + 0), .ref (B + i), .int x, .int y].toArray c cX7_fillRow 4 RX7 := C
  replace hl : lv_has ls 4 [(0, .ref (B + 0)), (1, .ref (B + i)), (2, .int x), (3, .int y)] := hl
  obtain ⟨p0, p1, p2, p3⟩ := id hP
  have hKp : Kp t B g g := Kp.rf hScr
  refine lv_aload_n C.x C.b dX7_fillRow_0 rfl (lv_at hl 0 rfl) ?_
  obtain ⟨v_1, e_2⟩ := hKp.2.1
  refine r_get ck7 flX7_26 C hS (by omega) e_2 (by decide) rfl dX7_fillRow_1 ?_
  refine lv_aload_n C.x C.b dX7_fillRow_4 rfl (lv_at hl 0 rfl) ?_
  refine r_get ck7 flX7_12 C hS (by omega) e_2 (by decide) rfl dX7_fillRow_5 ?_
  refine lv_aload_n C.x C.b dX7_fillRow_8 rfl (lv_at hl 0 rfl) ?_
  refine r_get ck7 flX7_19 C hS (by omega) e_2 (by decide) rfl dX7_fillRow_9 ?_
  refine lv_iload_n C.x C.b dX7_fillRow_12 rfl (lv_at hl 2 rfl) ?_
  refine lv_iload_n C.x C.b dX7_fillRow_13 rfl (lv_at hl 3 rfl) ?_
  refine lv_aload_n C.x C.b dX7_fillRow_14 rfl (lv_at hl 0 rfl) ?_
  refine r_get ck7 flX7_33 C hS (by omega) e_2 (by decide) rfl dX7_fillRow_15 ?_
  obtain ⟨q_6, q_7, q_8, ⟨e_9, e_10, e_11⟩⟩ := hKp.2.2.1
  refine r_callVv (b := 6) (As := [.ref (B + 1), .ref (B + 5), .int x, .int y, .ref (B + 9)]) (rest := []) (k_go l D t B N g _ _ _ _ _ _ _ 9 x y (by omega) ⟨p0, p1, p2, p3⟩ hW (by omega) (Or.inl rfl) hKp.2) mf_yX1_go mlX7_202 im_yX1_go se_yX1_go (by decide) C hS (by omega) e_9 (show vwCl[1]? = some _ from rfl) rfl rfl hl.1 rfl (Nat.le_of_ble_eq_true rfl) dX7_fillRow_18 ⟨Nat.zero_le _, Nat.zero_le _⟩ (fun g_3 H locs w_4 hS => ?_)
  replace hKp : Kp t B g g_3 := hKp.tr w_4
  refine lv_aload_n C.x C.b dX7_fillRow_21 rfl (lv_at hl 1 rfl) ?_
  refine lv_aload_n C.x C.b dX7_fillRow_22 rfl (lv_at hl 0 rfl) ?_
  obtain ⟨v_12, e_13⟩ := hKp.2.1
  refine r_get ck7 flX7_33 C hS (by omega) e_13 (by decide) rfl dX7_fillRow_23 ?_
  refine lv_aload_n C.x C.b dX7_fillRow_26 rfl (lv_at hl 0 rfl) ?_
  refine r_get ck7 flX7_19 C hS (by omega) e_13 (by decide) rfl dX7_fillRow_27 ?_
  have e_14 : g_3 5 = .inr (6, [.int ey, .int wi, .int ev]) := (hKp.1 _ (by omega)).trans hW
  refine r_get ck6 flX7_98 C hS (by omega) e_14 (by decide) rfl dX7_fillRow_30 ?_
  refine lv_aload_n C.x C.b dX7_fillRow_33 rfl (lv_at hl 0 rfl) ?_
  refine r_get ck7 flX7_19 C hS (by omega) e_13 (by decide) rfl dX7_fillRow_34 ?_
  refine r_get ck6 flX7_89 C hS (by omega) e_14 (by decide) rfl dX7_fillRow_37 ?_
  obtain ⟨q_18, q_19, q_20, q_21, ⟨e_22, e_23, e_24, e_25⟩, hl_26⟩ := hKp.2.2.2.2.1 i hi
  refine r_callVv (b := i) (As := [.ref (B + 9), .int ey, .int ev]) (rest := []) (k_fill l D t B N g_3 i 9 ey ev (by omega) hi (Or.inl rfl) hKp.2) mf_yX4_fill mlX7_206 im_yX4_fill se_yX4_fill (by decide) C hS (by omega) e_22 (show vwCl[4]? = some _ from rfl) rfl rfl hl.1 rfl (Nat.le_of_ble_eq_true rfl) dX7_fillRow_40 ⟨Nat.zero_le _, Nat.zero_le _⟩ (fun g_15 H locs w_16 hS => ?_)
  replace hKp : Kp t B g g_15 := hKp.tr w_16
  exact r_vret C hr hlocks hS hKp dX7_fillRow_43
set_option maxHeartbeats 1000000 in
set_option maxRecDepth 100000 in
theorem k_X7_classes (l : Launch) (D : va_G) (t : Gx) (B N : Nat) (g : Nat → va_E) (o pr w : Nat → Int32) (n : Nat) (ey wi ev : Int32) (x : Int32) (hN : 220 ≤ N) (hP : isProg t B g 1 o pr w n) (hn : n ≤ 8) (hW : isWat g 5 ey wi ev) (hScr : Scr t B g)  : Ci l D t B N yX7_classes cX7_classes 2 (some .int) 5 132 g [.ref (B + 0), .int x] (fun r g' => Kp t B g g') := by
  refine Ci.start (by decide) (Nat.le_of_ble_eq_true rfl) ?_
  intro p e s m below meth c ls C hr hlocks hS hl
  replace C : Cx D t p s m [.ref (B + 0), .int x].toArray c cX7_classes 2 RX7 := C
  replace hl : lv_has ls 2 [(0, .ref (B + 0)), (1, .int x)] := hl
  obtain ⟨p0, p1, p2, p3⟩ := id hP
  have hKp : Kp t B g g := Kp.rf hScr
  refine lv_iload_n C.x C.b dX7_classes_0 rfl (lv_at hl 1 rfl) ?_
  refine r_callS (As := [.int x]) (rest := []) (c_X7_isInput l D t B N g x) mf_yX7_isInput mlX7_116 sm_yX7_isInput (by decide) C hS rfl hl.1 rfl (Nat.le_of_ble_eq_true rfl) dX7_classes_1 ⟨Nat.zero_le _, Nat.zero_le _⟩ (fun r_3 g_1 H locs w_2 hS => ?_)
  obtain ⟨rfl, er_3⟩ := w_2
  by_cases b_4 : inP 16 x
  · rw [bz_t b_4] at er_3
    subst er_3
    obtain ⟨q_5, hq_6, rfl⟩ := inP_nI b_4 (by decide)
    refine lv_if_ne (tgt := 9) C.x C.b dX7_classes_4 (by decide) (fun c_7 => ?_) (fun c_7 => absurd c_7 (by decide))
    refine lv_aload_n C.x C.b dX7_classes_9 rfl (lv_at hl 0 rfl) ?_
    obtain ⟨v_8, e_9⟩ := hKp.2.1
    refine r_get ck7 flX7_50 C hS (by omega) e_9 (by decide) rfl dX7_classes_10 ?_
    refine lv_aload_n C.x C.b dX7_classes_13 rfl (lv_at hl 0 rfl) ?_
    refine r_get ck7 flX7_26 C hS (by omega) e_9 (by decide) rfl dX7_classes_14 ?_
    refine lv_aload_n C.x C.b dX7_classes_17 rfl (lv_at hl 0 rfl) ?_
    refine r_get ck7 flX7_12 C hS (by omega) e_9 (by decide) rfl dX7_classes_18 ?_
    refine lv_aload_n C.x C.b dX7_classes_21 rfl (lv_at hl 0 rfl) ?_
    refine r_get ck7 flX7_19 C hS (by omega) e_9 (by decide) rfl dX7_classes_22 ?_
    refine lv_iload_n C.x C.b dX7_classes_25 rfl (lv_at hl 1 rfl) ?_
    have e_13 := hKp.2.2.2.2.2.1.1
    refine r_callVv (b := 23) (As := [.ref (B + 6), .ref (B + 1), .ref (B + 5), .int (nI q_5)]) (rest := []) (k_X2_learn l D t B N g _ _ _ _ _ _ _ q_5 (by omega) ⟨p0, p1, p2, p3⟩ (by omega) hW hKp.2 (by omega)) mf_yX2_learn mlX7_149 im_yX2_learn se_yX2_learn (by decide) C hS (by omega) e_13 (show vwCl[2]? = some _ from rfl) rfl rfl hl.1 rfl (Nat.le_of_ble_eq_true rfl) dX7_classes_26 ⟨Nat.zero_le _, Nat.zero_le _⟩ (fun g_10 H locs w_11 hS => ?_)
    replace hKp : Kp t B g g_10 := hKp.tr w_11
    refine lv_aload_n C.x C.b dX7_classes_29 rfl (lv_at hl 0 rfl) ?_
    obtain ⟨v_14, e_15⟩ := hKp.2.1
    refine r_get ck7 flX7_50 C hS (by omega) e_15 (by decide) rfl dX7_classes_30 ?_
    have e_16 := hKp.2.2.2.2.2.1.1
    refine r_get ck2 flX7_153 C hS (by omega) e_16 (by decide) rfl dX7_classes_33 ?_
    refine lv_iload_n C.x C.b dX7_classes_36 rfl (lv_at hl 1 rfl) ?_
    obtain ⟨q_17, e_18⟩ := hKp.2.2.2.2.2.2.1
    refine r_ialdN q_5 rfl (by omega) (by decide) C hS (by omega) e_18 dX7_classes_37 ?_
    exact r_iret C hr hlocks hS hKp dX7_classes_38
  · rw [bz_f b_4] at er_3
    subst er_3
    refine lv_if_ne (tgt := 9) C.x C.b dX7_classes_4 (by decide) (fun c_19 => absurd (by decide) c_19) (fun c_19 => ?_)
    refine lv_iconst (v := (-1)) C.x C.b dX7_classes_7 (by decide) ?_
    exact r_iret C hr hlocks hS hKp dX7_classes_8
set_option maxHeartbeats 1000000 in
set_option maxRecDepth 100000 in
theorem k_X7_classOf (l : Launch) (D : va_G) (t : Gx) (B N : Nat) (g : Nat → va_E) (o pr w : Nat → Int32) (n : Nat) (ey wi ev : Int32) (x y : Int32) (hN : 220 ≤ N) (hP : isProg t B g 1 o pr w n) (hn : n ≤ 8) (hW : isWat g 5 ey wi ev) (hScr : Scr t B g)  : Ci l D t B N yX7_classOf cX7_classOf 3 (some .int) 5 132 g [.ref (B + 0), .int x, .int y] (fun r g' => Kp t B g g') := by
  refine Ci.start (by decide) (Nat.le_of_ble_eq_true rfl) ?_
  intro p e s m below meth c ls C hr hlocks hS hl
  replace C : Cx D t p s m [.ref (B + 0), .int x, .int y].toArray c cX7_classOf 3 RX7 := C
  replace hl : lv_has ls 3 [(0, .ref (B + 0)), (1, .int x), (2, .int y)] := hl
  obtain ⟨p0, p1, p2, p3⟩ := id hP
  have hKp : Kp t B g g := Kp.rf hScr
  refine lv_iload_n C.x C.b dX7_classOf_0 rfl (lv_at hl 1 rfl) ?_
  refine r_callS (As := [.int x]) (rest := []) (c_X7_isInput l D t B N g x) mf_yX7_isInput mlX7_116 sm_yX7_isInput (by decide) C hS rfl hl.1 rfl (Nat.le_of_ble_eq_true rfl) dX7_classOf_1 ⟨Nat.zero_le _, Nat.zero_le _⟩ (fun r_3 g_1 H locs w_2 hS => ?_)
  obtain ⟨rfl, er_3⟩ := w_2
  by_cases b_4 : inP 16 x
  · rw [bz_t b_4] at er_3
    subst er_3
    obtain ⟨q_5, hq_6, rfl⟩ := inP_nI b_4 (by decide)
    refine lv_if_eq (tgt := 14) C.x C.b dX7_classOf_4 (by decide) (fun c_7 => absurd c_7 (by decide)) (fun c_7 => ?_)
    refine lv_iload_n C.x C.b dX7_classOf_7 rfl (lv_at hl 2 rfl) ?_
    refine r_callS (As := [.int y]) (rest := []) (c_X7_isInput l D t B N g y) mf_yX7_isInput mlX7_116 sm_yX7_isInput (by decide) C hS rfl hl.1 rfl (Nat.le_of_ble_eq_true rfl) dX7_classOf_8 ⟨Nat.zero_le _, Nat.zero_le _⟩ (fun r_10 g_8 H locs w_9 hS => ?_)
    obtain ⟨rfl, er_10⟩ := w_9
    by_cases b_11 : inP 16 y
    · rw [bz_t b_11] at er_10
      subst er_10
      obtain ⟨q_12, hq_13, rfl⟩ := inP_nI b_11 (by decide)
      refine lv_if_ne (tgt := 16) C.x C.b dX7_classOf_11 (by decide) (fun c_14 => ?_) (fun c_14 => absurd c_14 (by decide))
      refine lv_aload_n C.x C.b dX7_classOf_16 rfl (lv_at hl 0 rfl) ?_
      obtain ⟨v_15, e_16⟩ := hKp.2.1
      refine r_get ck7 flX7_50 C hS (by omega) e_16 (by decide) rfl dX7_classOf_17 ?_
      refine lv_aload_n C.x C.b dX7_classOf_20 rfl (lv_at hl 0 rfl) ?_
      refine r_get ck7 flX7_26 C hS (by omega) e_16 (by decide) rfl dX7_classOf_21 ?_
      refine lv_aload_n C.x C.b dX7_classOf_24 rfl (lv_at hl 0 rfl) ?_
      refine r_get ck7 flX7_12 C hS (by omega) e_16 (by decide) rfl dX7_classOf_25 ?_
      refine lv_aload_n C.x C.b dX7_classOf_28 rfl (lv_at hl 0 rfl) ?_
      refine r_get ck7 flX7_19 C hS (by omega) e_16 (by decide) rfl dX7_classOf_29 ?_
      refine lv_iload_n C.x C.b dX7_classOf_32 rfl (lv_at hl 1 rfl) ?_
      have e_20 := hKp.2.2.2.2.2.1.1
      refine r_callVv (b := 23) (As := [.ref (B + 6), .ref (B + 1), .ref (B + 5), .int (nI q_5)]) (rest := []) (k_X2_learn l D t B N g _ _ _ _ _ _ _ q_5 (by omega) ⟨p0, p1, p2, p3⟩ (by omega) hW hKp.2 (by omega)) mf_yX2_learn mlX7_149 im_yX2_learn se_yX2_learn (by decide) C hS (by omega) e_20 (show vwCl[2]? = some _ from rfl) rfl rfl hl.1 rfl (Nat.le_of_ble_eq_true rfl) dX7_classOf_33 ⟨Nat.zero_le _, Nat.zero_le _⟩ (fun g_17 H locs w_18 hS => ?_)
      replace hKp : Kp t B g g_17 := hKp.tr w_18
      refine lv_aload_n C.x C.b dX7_classOf_36 rfl (lv_at hl 0 rfl) ?_
      obtain ⟨v_21, e_22⟩ := hKp.2.1
      refine r_get ck7 flX7_50 C hS (by omega) e_22 (by decide) rfl dX7_classOf_37 ?_
      have e_23 := hKp.2.2.2.2.2.1.1
      refine r_get ck2 flX7_156 C hS (by omega) e_23 (by decide) rfl dX7_classOf_40 ?_
      refine lv_iload_n C.x C.b dX7_classOf_43 rfl (lv_at hl 1 rfl) ?_
      have e_24 := hKp.2.2.2.2.2.1.2.1
      refine r_aald q_5 rfl (by omega) (by decide) (cnQ_at (by omega)) C hS (by omega) 4 rfl rfl e_24 dX7_classOf_44 ?_
      refine lv_iload_n C.x C.b dX7_classOf_45 rfl (lv_at hl 2 rfl) ?_
      obtain ⟨q_25, e_26⟩ := hKp.2.2.2.2.2.2.2.1 q_5 (by omega)
      refine r_ialdN q_12 rfl (by omega) (by decide) C hS (by omega) e_26 dX7_classOf_46 ?_
      exact r_iret C hr hlocks hS hKp dX7_classOf_47
    · rw [bz_f b_11] at er_10
      subst er_10
      refine lv_if_ne (tgt := 16) C.x C.b dX7_classOf_11 (by decide) (fun c_27 => absurd (by decide) c_27) (fun c_27 => ?_)
      refine lv_iconst (v := (-1)) C.x C.b dX7_classOf_14 (by decide) ?_
      exact r_iret C hr hlocks hS hKp dX7_classOf_15
  · rw [bz_f b_4] at er_3
    subst er_3
    refine lv_if_eq (tgt := 14) C.x C.b dX7_classOf_4 (by decide) (fun c_28 => ?_) (fun c_28 => absurd (by decide) c_28)
    refine lv_iconst (v := (-1)) C.x C.b dX7_classOf_14 (by decide) ?_
    exact r_iret C hr hlocks hS hKp dX7_classOf_15
set_option maxHeartbeats 1000000 in
set_option maxRecDepth 100000 in
theorem k_X7_most (l : Launch) (D : va_G) (t : Gx) (B N : Nat) (g : Nat → va_E) (o pr w : Nat → Int32) (n : Nat) (ey wi ev : Int32)  (hN : 220 ≤ N) (hP : isProg t B g 1 o pr w n) (hn : n ≤ 8) (hW : isWat g 5 ey wi ev) (hScr : Scr t B g)  : Ci l D t B N yX7_most cX7_most 3 (some .int) 5 132 g [.ref (B + 0)] (fun r g' => Kp t B g g') := by
  refine Ci.start (by decide) (Nat.le_of_ble_eq_true rfl) ?_
  intro p e s m below meth c ls C hr hlocks hS hl
  replace C : Cx D t p s m [.ref (B + 0)].toArray c cX7_most 3 RX7 := C
  replace hl : lv_has ls 3 [(0, .ref (B + 0))] := hl
  obtain ⟨p0, p1, p2, p3⟩ := id hP
  have hKp : Kp t B g g := Kp.rf hScr
  refine lv_iconst (v := 0) C.x C.b dX7_most_0 (by decide) ?_
  refine lv_istore_n (lv' := [(1, .int 0), (0, .ref (B + 0))]) C.x C.b dX7_most_1 rfl hl (by decide) rfl (fun ls hl => ?_)
  refine lv_iconst (v := 0) C.x C.b dX7_most_2 (by decide) ?_
  refine lv_istore_n (lv' := [(2, .int 0), (1, .int 0), (0, .ref (B + 0))]) C.x C.b dX7_most_3 rfl hl (by decide) rfl (fun ls hl => ?_)
  have lp_1 : ∀ (u_2 k_3 : Nat) (b_7 : Int32) (g_6 : Nat → va_E) (H : Heap) (locs : List Loc) (ls : Array Slot), k_3 + u_2 = 16 → Kp t B g g_6 → St D B s.heap N g_6 H locs → lv_has ls 3 [(0, .ref (B + 0)), (1, .int b_7), (2, .int (nI k_3))] → W p l e (rmOf 5 132 0 0) s m [.ref (B + 0)].toArray below meth c H locs 0 0 (MQ below (qI D B N (fun r g' => Kp t B g g')) [.ref (B + 0)].toArray s 0 0 (fun q => B ≤ q)) (F0 m 4 ls []) := by
    intro u_2
    induction u_2 with
    | zero =>
      intro k_3 b_7 g_6 H locs ls hk_4 hKp hS hl
      obtain rfl : 16 = k_3 := by omega
      refine lv_iload_n C.x C.b dX7_most_4 rfl (lv_at hl 2 rfl) ?_
      refine lv_bipush (v := 16) C.x C.b dX7_most_5 (by decide) ?_
      refine lv_icmp_ge (tgt := 50) C.x C.b dX7_most_7 (by decide) (fun c_8 => ?_) (fun c_8 => absurd (by decide) c_8)
      refine lv_iload_n C.x C.b dX7_most_50 rfl (lv_at hl 1 rfl) ?_
      exact r_iret C hr hlocks hS hKp dX7_most_51
    | succ u_2 ih_5 =>
      intro k_3 b_7 g_6 H locs ls hk_4 hKp hS hl
      refine lv_iload_n C.x C.b dX7_most_4 rfl (lv_at hl 2 rfl) ?_
      refine lv_bipush (v := 16) C.x C.b dX7_most_5 (by decide) ?_
      refine lv_icmp_ge (tgt := 50) C.x C.b dX7_most_7 (by decide) (fun c_9 => absurd c_9 (nI_ge (a := k_3) (b := 16) (by omega) (by decide))) (fun c_9 => ?_)
      refine lv_aload_n C.x C.b dX7_most_10 rfl (lv_at hl 0 rfl) ?_
      obtain ⟨v_10, e_11⟩ := hKp.2.1
      refine r_get ck7 flX7_50 C hS (by omega) e_11 (by decide) rfl dX7_most_11 ?_
      refine lv_aload_n C.x C.b dX7_most_14 rfl (lv_at hl 0 rfl) ?_
      refine r_get ck7 flX7_26 C hS (by omega) e_11 (by decide) rfl dX7_most_15 ?_
      refine lv_aload_n C.x C.b dX7_most_18 rfl (lv_at hl 0 rfl) ?_
      refine r_get ck7 flX7_12 C hS (by omega) e_11 (by decide) rfl dX7_most_19 ?_
      refine lv_aload_n C.x C.b dX7_most_22 rfl (lv_at hl 0 rfl) ?_
      refine r_get ck7 flX7_19 C hS (by omega) e_11 (by decide) rfl dX7_most_23 ?_
      refine lv_iload_n C.x C.b dX7_most_26 rfl (lv_at hl 2 rfl) ?_
      have e_12 : g_6 1 = .inr (3, [.ref (B + (1 + 1)), .ref (B + (1 + 2)), .ref (B + (1 + 3)), .int (nI n)]) := (hKp.1 _ (by omega)).trans p0
      have e_13 : g_6 (1 + 1) = .inl (t.1, 8, .inl o) := (hKp.1 _ (by omega)).trans p1
      have e_14 : g_6 (1 + 2) = .inl (t.1, 8, .inl pr) := (hKp.1 _ (by omega)).trans p2
      have e_15 : g_6 (1 + 3) = .inl (t.1, 8, .inl w) := (hKp.1 _ (by omega)).trans p3
      have e_16 : g_6 5 = .inr (6, [.int ey, .int wi, .int ev]) := (hKp.1 _ (by omega)).trans hW
      have e_20 := hKp.2.2.2.2.2.1.1
      refine r_callVv (b := 23) (As := [.ref (B + 6), .ref (B + 1), .ref (B + 5), .int (nI k_3)]) (rest := []) (k_X2_learn l D t B N g_6 _ _ _ _ _ _ _ k_3 (by omega) ⟨e_12, e_13, e_14, e_15⟩ (by omega) e_16 hKp.2 (by omega)) mf_yX2_learn mlX7_149 im_yX2_learn se_yX2_learn (by decide) C hS (by omega) e_20 (show vwCl[2]? = some _ from rfl) rfl rfl hl.1 rfl (Nat.le_of_ble_eq_true rfl) dX7_most_27 ⟨Nat.zero_le _, Nat.zero_le _⟩ (fun g_17 H locs w_18 hS => ?_)
      replace hKp : Kp t B g g_17 := hKp.tr w_18
      refine lv_iload_n C.x C.b dX7_most_30 rfl (lv_at hl 1 rfl) ?_
      refine lv_aload_n C.x C.b dX7_most_31 rfl (lv_at hl 0 rfl) ?_
      obtain ⟨v_21, e_22⟩ := hKp.2.1
      refine r_get ck7 flX7_50 C hS (by omega) e_22 (by decide) rfl dX7_most_32 ?_
      have e_23 := hKp.2.2.2.2.2.1.1
      refine r_get ck2 flX7_153 C hS (by omega) e_23 (by decide) rfl dX7_most_35 ?_
      refine lv_iload_n C.x C.b dX7_most_38 rfl (lv_at hl 2 rfl) ?_
      obtain ⟨q_24, e_25⟩ := hKp.2.2.2.2.2.2.1
      refine r_ialdN k_3 rfl (by omega) (by decide) C hS (by omega) e_25 dX7_most_39 ?_
      refine r_mmax mlX7_160 C hl.1 (by decide) (Nat.le_of_ble_eq_true rfl) ⟨Nat.zero_le _, Nat.zero_le _⟩ dX7_most_40 ?_
      refine lv_istore_n (lv' := [(1, .int (maxF b_7 (q_24 k_3))), (0, .ref (B + 0)), (2, .int (nI k_3))]) C.x C.b dX7_most_43 rfl hl (by decide) rfl (fun ls hl => ?_)
      refine lv_iinc (v := nI (k_3 + 1)) (lv' := [(2, .int (nI (k_3 + 1))), (1, .int (maxF b_7 (q_24 k_3))), (0, .ref (B + 0))]) C.x C.b dX7_most_44 hl (k := 2) rfl (nI_1 k_3) (by decide) rfl (fun ls hl => ?_)
      refine lv_goto (tgt := 4) C.x C.b dX7_most_47 (by decide) ?_
      exact ih_5 (k_3 + 1) (maxF b_7 (q_24 k_3)) g_17 _ _ _ (by omega)  hKp hS (lv_sub hl [2, 1, 0] rfl)
  exact lp_1 16 0 0 g _ _ _ (by omega)  hKp hS (lv_sub hl [2, 1, 0] rfl)
set_option maxHeartbeats 1000000 in
set_option maxRecDepth 100000 in
theorem k_X7_firstToldOpen (l : Launch) (D : va_G) (t : Gx) (B N : Nat) (g : Nat → va_E) (o pr w : Nat → Int32) (n : Nat) (ey wi ev : Int32)  (hN : 220 ≤ N) (hP : isProg t B g 1 o pr w n) (hn : n ≤ 8) (hW : isWat g 5 ey wi ev) (hScr : Scr t B g)  : Ci l D t B N yX7_firstToldOpen cX7_firstToldOpen 2 (some .int) 5 132 g [.ref (B + 0)] (fun r g' => Kp t B g g' ∧ (r = -1 ∨ ∃ k, k < 16 ∧ r = nI k)) := by
  refine Ci.start (by decide) (Nat.le_of_ble_eq_true rfl) ?_
  intro p e s m below meth c ls C hr hlocks hS hl
  replace C : Cx D t p s m [.ref (B + 0)].toArray c cX7_firstToldOpen 2 RX7 := C
  replace hl : lv_has ls 2 [(0, .ref (B + 0))] := hl
  obtain ⟨p0, p1, p2, p3⟩ := id hP
  have hKp : Kp t B g g := Kp.rf hScr
  refine lv_iconst (v := 0) C.x C.b dX7_firstToldOpen_0 (by decide) ?_
  refine lv_istore_n (lv' := [(1, .int 0), (0, .ref (B + 0))]) C.x C.b dX7_firstToldOpen_1 rfl hl (by decide) rfl (fun ls hl => ?_)
  have lp_1 : ∀ (u_2 k_3 : Nat) (g_6 : Nat → va_E) (H : Heap) (locs : List Loc) (ls : Array Slot), k_3 + u_2 = 16 → Kp t B g g_6 → St D B s.heap N g_6 H locs → lv_has ls 2 [(0, .ref (B + 0)), (1, .int (nI k_3))] → W p l e (rmOf 5 132 0 0) s m [.ref (B + 0)].toArray below meth c H locs 0 0 (MQ below (qI D B N (fun r g' => Kp t B g g' ∧ (r = -1 ∨ ∃ k, k < 16 ∧ r = nI k))) [.ref (B + 0)].toArray s 0 0 (fun q => B ≤ q)) (F0 m 2 ls []) := by
    intro u_2
    induction u_2 with
    | zero =>
      intro k_3 g_6 H locs ls hk_4 hKp hS hl
      obtain rfl : 16 = k_3 := by omega
      refine lv_iload_n C.x C.b dX7_firstToldOpen_2 rfl (lv_at hl 1 rfl) ?_
      refine lv_bipush (v := 16) C.x C.b dX7_firstToldOpen_3 (by decide) ?_
      refine lv_icmp_ge (tgt := 49) C.x C.b dX7_firstToldOpen_5 (by decide) (fun c_7 => ?_) (fun c_7 => absurd (by decide) c_7)
      refine lv_iconst (v := (-1)) C.x C.b dX7_firstToldOpen_49 (by decide) ?_
      exact r_iret C hr hlocks hS ⟨hKp, Or.inl rfl⟩ dX7_firstToldOpen_50
    | succ u_2 ih_5 =>
      intro k_3 g_6 H locs ls hk_4 hKp hS hl
      refine lv_iload_n C.x C.b dX7_firstToldOpen_2 rfl (lv_at hl 1 rfl) ?_
      refine lv_bipush (v := 16) C.x C.b dX7_firstToldOpen_3 (by decide) ?_
      refine lv_icmp_ge (tgt := 49) C.x C.b dX7_firstToldOpen_5 (by decide) (fun c_8 => absurd c_8 (nI_ge (a := k_3) (b := 16) (by omega) (by decide))) (fun c_8 => ?_)
      refine lv_aload_n C.x C.b dX7_firstToldOpen_8 rfl (lv_at hl 0 rfl) ?_
      obtain ⟨v_9, e_10⟩ := hKp.2.1
      refine r_get ck7 flX7_50 C hS (by omega) e_10 (by decide) rfl dX7_firstToldOpen_9 ?_
      refine lv_aload_n C.x C.b dX7_firstToldOpen_12 rfl (lv_at hl 0 rfl) ?_
      refine r_get ck7 flX7_26 C hS (by omega) e_10 (by decide) rfl dX7_firstToldOpen_13 ?_
      refine lv_aload_n C.x C.b dX7_firstToldOpen_16 rfl (lv_at hl 0 rfl) ?_
      refine r_get ck7 flX7_12 C hS (by omega) e_10 (by decide) rfl dX7_firstToldOpen_17 ?_
      refine lv_aload_n C.x C.b dX7_firstToldOpen_20 rfl (lv_at hl 0 rfl) ?_
      refine r_get ck7 flX7_19 C hS (by omega) e_10 (by decide) rfl dX7_firstToldOpen_21 ?_
      refine lv_iload_n C.x C.b dX7_firstToldOpen_24 rfl (lv_at hl 1 rfl) ?_
      have e_11 : g_6 1 = .inr (3, [.ref (B + (1 + 1)), .ref (B + (1 + 2)), .ref (B + (1 + 3)), .int (nI n)]) := (hKp.1 _ (by omega)).trans p0
      have e_12 : g_6 (1 + 1) = .inl (t.1, 8, .inl o) := (hKp.1 _ (by omega)).trans p1
      have e_13 : g_6 (1 + 2) = .inl (t.1, 8, .inl pr) := (hKp.1 _ (by omega)).trans p2
      have e_14 : g_6 (1 + 3) = .inl (t.1, 8, .inl w) := (hKp.1 _ (by omega)).trans p3
      have e_15 : g_6 5 = .inr (6, [.int ey, .int wi, .int ev]) := (hKp.1 _ (by omega)).trans hW
      have e_19 := hKp.2.2.2.2.2.1.1
      refine r_callVv (b := 23) (As := [.ref (B + 6), .ref (B + 1), .ref (B + 5), .int (nI k_3)]) (rest := []) (k_X2_learn l D t B N g_6 _ _ _ _ _ _ _ k_3 (by omega) ⟨e_11, e_12, e_13, e_14⟩ (by omega) e_15 hKp.2 (by omega)) mf_yX2_learn mlX7_149 im_yX2_learn se_yX2_learn (by decide) C hS (by omega) e_19 (show vwCl[2]? = some _ from rfl) rfl rfl hl.1 rfl (Nat.le_of_ble_eq_true rfl) dX7_firstToldOpen_25 ⟨Nat.zero_le _, Nat.zero_le _⟩ (fun g_16 H locs w_17 hS => ?_)
      replace hKp : Kp t B g g_16 := hKp.tr w_17
      refine lv_aload_n C.x C.b dX7_firstToldOpen_28 rfl (lv_at hl 0 rfl) ?_
      obtain ⟨v_20, e_21⟩ := hKp.2.1
      refine r_get ck7 flX7_50 C hS (by omega) e_21 (by decide) rfl dX7_firstToldOpen_29 ?_
      have e_22 := hKp.2.2.2.2.2.1.1
      refine r_get ck2 flX7_153 C hS (by omega) e_22 (by decide) rfl dX7_firstToldOpen_32 ?_
      refine lv_iload_n C.x C.b dX7_firstToldOpen_35 rfl (lv_at hl 1 rfl) ?_
      obtain ⟨q_23, e_24⟩ := hKp.2.2.2.2.2.2.1
      refine r_ialdN k_3 rfl (by omega) (by decide) C hS (by omega) e_24 dX7_firstToldOpen_36 ?_
      refine lv_iconst (v := 1) C.x C.b dX7_firstToldOpen_37 (by decide) ?_
      refine lv_icmp_le (tgt := 43) C.x C.b dX7_firstToldOpen_38 (by decide) (fun c_25 => ?_) (fun c_25 => ?_)
      · skip
        refine lv_iinc (v := nI (k_3 + 1)) (lv' := [(1, .int (nI (k_3 + 1))), (0, .ref (B + 0))]) C.x C.b dX7_firstToldOpen_43 hl (k := 1) rfl (nI_1 k_3) (by decide) rfl (fun ls hl => ?_)
        refine lv_goto (tgt := 2) C.x C.b dX7_firstToldOpen_46 (by decide) ?_
        exact ih_5 (k_3 + 1) g_16 _ _ _ (by omega)  hKp hS (lv_sub hl [1, 0] rfl)
      · skip
        refine lv_iload_n C.x C.b dX7_firstToldOpen_41 rfl (lv_at hl 1 rfl) ?_
        exact r_iret C hr hlocks hS ⟨hKp, Or.inr ⟨k_3, by omega, rfl⟩⟩ dX7_firstToldOpen_42
  exact lp_1 16 0 g _ _ _ (by omega)  hKp hS (lv_sub hl [1, 0] rfl)
set_option maxHeartbeats 1000000 in
set_option maxRecDepth 100000 in
theorem k_X7_silent (l : Launch) (D : va_G) (t : Gx) (B N : Nat) (g : Nat → va_E) (o pr w : Nat → Int32) (n : Nat) (ey wi ev : Int32)  (hN : 220 ≤ N) (hP : isProg t B g 1 o pr w n) (hn : n ≤ 8) (hW : isWat g 5 ey wi ev) (hScr : Scr t B g)  : Ci l D t B N yX7_silent cX7_silent 1 (some .boolean) 6 153 g [.ref (B + 0)] (fun r g' => Kp t B g g') := by
  refine Ci.start (by decide) (Nat.le_of_ble_eq_true rfl) ?_
  intro p e s m below meth c ls C hr hlocks hS hl
  replace C : Cx D t p s m [.ref (B + 0)].toArray c cX7_silent 1 RX7 := C
  replace hl : lv_has ls 1 [(0, .ref (B + 0))] := hl
  obtain ⟨p0, p1, p2, p3⟩ := id hP
  have hKp : Kp t B g g := Kp.rf hScr
  refine lv_aload_n C.x C.b dX7_silent_0 rfl (lv_at hl 0 rfl) ?_
  obtain ⟨v_4, e_5⟩ := hKp.2.1
  refine r_callV (b := 0) (As := []) (rest := []) (k_X7_firstToldOpen l D t B N g _ _ _ _ _ _ _  (by omega) ⟨p0, p1, p2, p3⟩ (by omega) hW hKp.2 ) mf_yX7_firstToldOpen mlX7_166 im_yX7_firstToldOpen se_yX7_firstToldOpen (by decide) C hS (by omega) e_5 (show vwCl[7]? = some _ from rfl) rfl rfl hl.1 rfl (Nat.le_of_ble_eq_true rfl) dX7_silent_1 ⟨Nat.zero_le _, Nat.zero_le _⟩ (fun r_3 g_1 H locs w_2 hS => ?_)
  obtain ⟨w_2, er_3⟩ := w_2
  replace hKp : Kp t B g g_1 := hKp.tr w_2
  refine lv_iconst (v := (-1)) C.x C.b dX7_silent_4 (by decide) ?_
  refine lv_icmp_ne (tgt := 12) C.x C.b dX7_silent_5 (by decide) (fun c_6 => ?_) (fun c_6 => ?_)
  · skip
    refine lv_iconst (v := 0) C.x C.b dX7_silent_12 (by decide) ?_
    exact r_zret C hr hlocks hS (by decide) hKp dX7_silent_13
  · skip
    refine lv_iconst (v := 1) C.x C.b dX7_silent_8 (by decide) ?_
    refine lv_goto (tgt := 13) C.x C.b dX7_silent_9 (by decide) ?_
    exact r_zret C hr hlocks hS (by decide) hKp dX7_silent_13
set_option maxHeartbeats 1000000 in
set_option maxRecDepth 100000 in
theorem k_X7_firstTold (l : Launch) (D : va_G) (t : Gx) (B N : Nat) (g : Nat → va_E) (o pr w : Nat → Int32) (n : Nat) (ey wi ev : Int32) (x y z : Int32) (hN : 220 ≤ N) (hP : isProg t B g 1 o pr w n) (hn : n ≤ 8) (hW : isWat g 5 ey wi ev) (hScr : Scr t B g)  : Ci l D t B N yX7_firstTold cX7_firstTold 6 (some .int) 5 127 g [.ref (B + 0), .int x, .int y, .int z] (fun r g' => Kp t B g g') := by
  refine Ci.start (by decide) (Nat.le_of_ble_eq_true rfl) ?_
  intro p e s m below meth c ls C hr hlocks hS hl
  replace C : Cx D t p s m [.ref (B + 0), .int x, .int y, .int z].toArray c cX7_firstTold 6 RX7 := C
  replace hl : lv_has ls 6 [(0, .ref (B + 0)), (1, .int x), (2, .int y), (3, .int z)] := hl
  obtain ⟨p0, p1, p2, p3⟩ := id hP
  have hKp : Kp t B g g := Kp.rf hScr
  refine lv_aload_n C.x C.b dX7_firstTold_0 rfl (lv_at hl 0 rfl) ?_
  refine lv_aload_n C.x C.b dX7_firstTold_1 rfl (lv_at hl 0 rfl) ?_
  obtain ⟨v_1, e_2⟩ := hKp.2.1
  refine r_get ck7 flX7_40 C hS (by omega) e_2 (by decide) rfl dX7_firstTold_2 ?_
  refine lv_iload_n C.x C.b dX7_firstTold_5 rfl (lv_at hl 1 rfl) ?_
  refine lv_iconst (v := 0) C.x C.b dX7_firstTold_6 (by decide) ?_
  refine r_callVv (b := 0) (As := [.ref (B + 15), .int x, .int 0]) (rest := []) (k_X7_fillRow l D t B N g _ _ _ _ _ _ _ 15 x 0 (by omega) ⟨p0, p1, p2, p3⟩ (by omega) hW hKp.2 (Or.inl rfl) (by omega)) mf_yX7_fillRow mlX7_119 im_yX7_fillRow se_yX7_fillRow (by decide) C hS (by omega) e_2 (show vwCl[7]? = some _ from rfl) rfl rfl hl.1 rfl (Nat.le_of_ble_eq_true rfl) dX7_firstTold_7 ⟨Nat.zero_le _, Nat.zero_le _⟩ (fun g_3 H locs w_4 hS => ?_)
  replace hKp : Kp t B g g_3 := hKp.tr w_4
  refine lv_aload_n C.x C.b dX7_firstTold_10 rfl (lv_at hl 0 rfl) ?_
  refine lv_aload_n C.x C.b dX7_firstTold_11 rfl (lv_at hl 0 rfl) ?_
  obtain ⟨v_6, e_7⟩ := hKp.2.1
  refine r_get ck7 flX7_44 C hS (by omega) e_7 (by decide) rfl dX7_firstTold_12 ?_
  refine lv_iload_n C.x C.b dX7_firstTold_15 rfl (lv_at hl 1 rfl) ?_
  refine lv_iload_n C.x C.b dX7_firstTold_16 rfl (lv_at hl 2 rfl) ?_
  have e_8 : g_3 1 = .inr (3, [.ref (B + (1 + 1)), .ref (B + (1 + 2)), .ref (B + (1 + 3)), .int (nI n)]) := (hKp.1 _ (by omega)).trans p0
  have e_9 : g_3 (1 + 1) = .inl (t.1, 8, .inl o) := (hKp.1 _ (by omega)).trans p1
  have e_10 : g_3 (1 + 2) = .inl (t.1, 8, .inl pr) := (hKp.1 _ (by omega)).trans p2
  have e_11 : g_3 (1 + 3) = .inl (t.1, 8, .inl w) := (hKp.1 _ (by omega)).trans p3
  have e_12 : g_3 5 = .inr (6, [.int ey, .int wi, .int ev]) := (hKp.1 _ (by omega)).trans hW
  refine r_callVv (b := 0) (As := [.ref (B + 19), .int x, .int y]) (rest := []) (k_X7_fillRow l D t B N g_3 _ _ _ _ _ _ _ 19 x y (by omega) ⟨e_8, e_9, e_10, e_11⟩ (by omega) e_12 hKp.2 (Or.inr (Or.inl rfl)) (by omega)) mf_yX7_fillRow mlX7_119 im_yX7_fillRow se_yX7_fillRow (by decide) C hS (by omega) e_7 (show vwCl[7]? = some _ from rfl) rfl rfl hl.1 rfl (Nat.le_of_ble_eq_true rfl) dX7_firstTold_17 ⟨Nat.zero_le _, Nat.zero_le _⟩ (fun g_13 H locs w_14 hS => ?_)
  replace hKp : Kp t B g g_13 := hKp.tr w_14
  refine lv_aload_n C.x C.b dX7_firstTold_20 rfl (lv_at hl 0 rfl) ?_
  obtain ⟨v_16, e_17⟩ := hKp.2.1
  refine r_get ck7 flX7_40 C hS (by omega) e_17 (by decide) rfl dX7_firstTold_21 ?_
  refine lv_aload_n C.x C.b dX7_firstTold_24 rfl (lv_at hl 0 rfl) ?_
  refine r_get ck7 flX7_44 C hS (by omega) e_17 (by decide) rfl dX7_firstTold_25 ?_
  obtain ⟨q_18, q_19, q_20, q_21, ⟨e_22, e_23, e_24, e_25⟩, hl_26⟩ := hKp.2.2.2.2.1 15 (Or.inl rfl)
  obtain ⟨q_27, q_28, q_29, q_30, ⟨e_31, e_32, e_33, e_34⟩, hl_35⟩ := hKp.2.2.2.2.1 19 (Or.inr (Or.inl rfl))
  refine r_callV (b := 15) (As := [.ref (B + 19)]) (rest := []) (c_X4_firstOtherwise l D t B N g_13 15 _ _ _ _ 19 _ _ _ _ (by omega) ⟨e_22, e_23, e_24, e_25⟩ (by omega) ⟨e_31, e_32, e_33, e_34⟩ (by omega) (by omega)) mf_yX4_firstOtherwise mlX7_210 im_yX4_firstOtherwise se_yX4_firstOtherwise (by decide) C hS (by omega) e_22 (show vwCl[4]? = some _ from rfl) rfl rfl hl.1 rfl (Nat.le_of_ble_eq_true rfl) dX7_firstTold_28 ⟨Nat.zero_le _, Nat.zero_le _⟩ (fun r_38 g_36 H locs w_37 hS => ?_)
  obtain ⟨rfl, er_38⟩ := w_37
  refine lv_istore (lv' := [(4, .int r_38), (0, .ref (B + 0)), (1, .int x), (2, .int y), (3, .int z)]) C.x C.b dX7_firstTold_31 hl (by decide) rfl (fun ls hl => ?_)
  refine lv_aload_n C.x C.b dX7_firstTold_33 rfl (lv_at hl 1 rfl) ?_
  refine r_get ck7 flX7_40 C hS (by omega) e_17 (by decide) rfl dX7_firstTold_34 ?_
  refine lv_iload C.x C.b dX7_firstTold_37 (lv_at hl 0 rfl) ?_
  refine r_callV (b := 15) (As := [.int r_38]) (rest := []) (c_X4_has l D t B N g_13 15 _ _ _ _ r_38 (by omega) ⟨e_22, e_23, e_24, e_25⟩) mf_yX4_has mlX7_139 im_yX4_has se_yX4_has (by decide) C hS (by omega) e_22 (show vwCl[4]? = some _ from rfl) rfl rfl hl.1 rfl (Nat.le_of_ble_eq_true rfl) dX7_firstTold_39 ⟨Nat.zero_le _, Nat.zero_le _⟩ (fun r_41 g_39 H locs w_40 hS => ?_)
  obtain ⟨rfl, er_41⟩ := w_40
  by_cases b_42 : inP q_21 r_38
  · rw [bz_t b_42] at er_41
    subst er_41
    refine lv_if_eq (tgt := 52) C.x C.b dX7_firstTold_42 (by decide) (fun c_43 => absurd c_43 (by decide)) (fun c_43 => ?_)
    refine lv_aload_n C.x C.b dX7_firstTold_45 rfl (lv_at hl 1 rfl) ?_
    refine r_get ck7 flX7_40 C hS (by omega) e_17 (by decide) rfl dX7_firstTold_46 ?_
    refine lv_goto (tgt := 56) C.x C.b dX7_firstTold_49 (by decide) ?_
    refine lv_astore (lv' := [(5, .ref (B + 15)), (4, .int r_38), (0, .ref (B + 0)), (1, .int x), (2, .int y), (3, .int z)]) C.x C.b dX7_firstTold_56 hl (by decide) rfl (fun ls hl => ?_)
    refine lv_aload C.x C.b dX7_firstTold_58 (lv_at hl 0 rfl) ?_
    refine lv_iload C.x C.b dX7_firstTold_60 (lv_at hl 1 rfl) ?_
    refine r_callV (b := 15) (As := [.int r_38]) (rest := []) (c_X4_has l D t B N g_13 15 _ _ _ _ r_38 (by omega) ⟨e_22, e_23, e_24, e_25⟩) mf_yX4_has mlX7_139 im_yX4_has se_yX4_has (by decide) C hS (by omega) e_22 (show vwCl[4]? = some _ from rfl) rfl rfl hl.1 rfl (Nat.le_of_ble_eq_true rfl) dX7_firstTold_62 ⟨Nat.zero_le _, Nat.zero_le _⟩ (fun r_46 g_44 H locs w_45 hS => ?_)
    obtain ⟨rfl, er_46⟩ := w_45
    by_cases b_47 : inP q_21 r_38
    · rw [bz_t b_47] at er_46
      subst er_46
      obtain ⟨q_48, hq_49, rfl⟩ := inP_nI b_47 (by omega)
      refine lv_if_ne (tgt := 72) C.x C.b dX7_firstTold_65 (by decide) (fun c_50 => ?_) (fun c_50 => absurd c_50 (by decide))
      refine lv_iload_n C.x C.b dX7_firstTold_72 rfl (lv_at hl 5 rfl) ?_
      by_cases h_51 : z = 2
      · refine lv_lookup (off := 27) (tgt := 100) C.x C.b dX7_firstTold_73 (by decide) (by rw [h_51]; decide) (by decide) ?_
        refine lv_iload C.x C.b dX7_firstTold_100 (lv_at hl 1 rfl) ?_
        exact r_iret C hr hlocks hS hKp dX7_firstTold_102
      by_cases h_52 : z = 3
      · refine lv_lookup (off := 30) (tgt := 103) C.x C.b dX7_firstTold_73 (by decide) (by rw [h_52]; decide) (by decide) ?_
        refine lv_aload C.x C.b dX7_firstTold_103 (lv_at hl 0 rfl) ?_
        refine r_get ck4 flX7_140 C hS (by omega) e_22 (by decide) rfl dX7_firstTold_105 ?_
        refine lv_iload C.x C.b dX7_firstTold_108 (lv_at hl 1 rfl) ?_
        refine r_ialdN q_48 rfl (by omega) (by decide) C hS (by omega) e_23 dX7_firstTold_110 ?_
        exact r_iret C hr hlocks hS hKp dX7_firstTold_111
      refine lv_lookup (off := 39) (tgt := 112) C.x C.b dX7_firstTold_73 (by decide) (by show Op.lookupswitch.offset [(2, 27), (3, 30)] 39 _ = 39; rw [lv_osw h_51 (by decide), lv_osw h_52 (by decide)]; rfl) (by decide) ?_
      refine lv_aload C.x C.b dX7_firstTold_112 (lv_at hl 0 rfl) ?_
      refine r_get ck4 flX7_143 C hS (by omega) e_22 (by decide) rfl dX7_firstTold_114 ?_
      refine lv_iload C.x C.b dX7_firstTold_117 (lv_at hl 1 rfl) ?_
      refine r_ialdN q_48 rfl (by omega) (by decide) C hS (by omega) e_24 dX7_firstTold_119 ?_
      exact r_iret C hr hlocks hS hKp dX7_firstTold_120
    · rw [bz_f b_47] at er_46
      subst er_46
      refine lv_if_ne (tgt := 72) C.x C.b dX7_firstTold_65 (by decide) (fun c_53 => absurd (by decide) c_53) (fun c_53 => ?_)
      refine lv_sipush (v := (-1001)) C.x C.b dX7_firstTold_68 (by decide) ?_
      exact r_iret C hr hlocks hS hKp dX7_firstTold_71
  · rw [bz_f b_42] at er_41
    subst er_41
    refine lv_if_eq (tgt := 52) C.x C.b dX7_firstTold_42 (by decide) (fun c_54 => ?_) (fun c_54 => absurd (by decide) c_54)
    refine lv_aload_n C.x C.b dX7_firstTold_52 rfl (lv_at hl 1 rfl) ?_
    refine r_get ck7 flX7_44 C hS (by omega) e_17 (by decide) rfl dX7_firstTold_53 ?_
    refine lv_astore (lv' := [(5, .ref (B + 19)), (4, .int r_38), (0, .ref (B + 0)), (1, .int x), (2, .int y), (3, .int z)]) C.x C.b dX7_firstTold_56 hl (by decide) rfl (fun ls hl => ?_)
    refine lv_aload C.x C.b dX7_firstTold_58 (lv_at hl 0 rfl) ?_
    refine lv_iload C.x C.b dX7_firstTold_60 (lv_at hl 1 rfl) ?_
    refine r_callV (b := 19) (As := [.int r_38]) (rest := []) (c_X4_has l D t B N g_13 19 _ _ _ _ r_38 (by omega) ⟨e_31, e_32, e_33, e_34⟩) mf_yX4_has mlX7_139 im_yX4_has se_yX4_has (by decide) C hS (by omega) e_31 (show vwCl[4]? = some _ from rfl) rfl rfl hl.1 rfl (Nat.le_of_ble_eq_true rfl) dX7_firstTold_62 ⟨Nat.zero_le _, Nat.zero_le _⟩ (fun r_57 g_55 H locs w_56 hS => ?_)
    obtain ⟨rfl, er_57⟩ := w_56
    by_cases b_58 : inP q_30 r_38
    · rw [bz_t b_58] at er_57
      subst er_57
      obtain ⟨q_59, hq_60, rfl⟩ := inP_nI b_58 (by omega)
      refine lv_if_ne (tgt := 72) C.x C.b dX7_firstTold_65 (by decide) (fun c_61 => ?_) (fun c_61 => absurd c_61 (by decide))
      refine lv_iload_n C.x C.b dX7_firstTold_72 rfl (lv_at hl 5 rfl) ?_
      by_cases h_62 : z = 2
      · refine lv_lookup (off := 27) (tgt := 100) C.x C.b dX7_firstTold_73 (by decide) (by rw [h_62]; decide) (by decide) ?_
        refine lv_iload C.x C.b dX7_firstTold_100 (lv_at hl 1 rfl) ?_
        exact r_iret C hr hlocks hS hKp dX7_firstTold_102
      by_cases h_63 : z = 3
      · refine lv_lookup (off := 30) (tgt := 103) C.x C.b dX7_firstTold_73 (by decide) (by rw [h_63]; decide) (by decide) ?_
        refine lv_aload C.x C.b dX7_firstTold_103 (lv_at hl 0 rfl) ?_
        refine r_get ck4 flX7_140 C hS (by omega) e_31 (by decide) rfl dX7_firstTold_105 ?_
        refine lv_iload C.x C.b dX7_firstTold_108 (lv_at hl 1 rfl) ?_
        refine r_ialdN q_59 rfl (by omega) (by decide) C hS (by omega) e_32 dX7_firstTold_110 ?_
        exact r_iret C hr hlocks hS hKp dX7_firstTold_111
      refine lv_lookup (off := 39) (tgt := 112) C.x C.b dX7_firstTold_73 (by decide) (by show Op.lookupswitch.offset [(2, 27), (3, 30)] 39 _ = 39; rw [lv_osw h_62 (by decide), lv_osw h_63 (by decide)]; rfl) (by decide) ?_
      refine lv_aload C.x C.b dX7_firstTold_112 (lv_at hl 0 rfl) ?_
      refine r_get ck4 flX7_143 C hS (by omega) e_31 (by decide) rfl dX7_firstTold_114 ?_
      refine lv_iload C.x C.b dX7_firstTold_117 (lv_at hl 1 rfl) ?_
      refine r_ialdN q_59 rfl (by omega) (by decide) C hS (by omega) e_33 dX7_firstTold_119 ?_
      exact r_iret C hr hlocks hS hKp dX7_firstTold_120
    · rw [bz_f b_58] at er_57
      subst er_57
      refine lv_if_ne (tgt := 72) C.x C.b dX7_firstTold_65 (by decide) (fun c_64 => absurd (by decide) c_64) (fun c_64 => ?_)
      refine lv_sipush (v := (-1001)) C.x C.b dX7_firstTold_68 (by decide) ?_
      exact r_iret C hr hlocks hS hKp dX7_firstTold_71
set_option maxHeartbeats 1000000 in
set_option maxRecDepth 100000 in
theorem k_X7_pair (l : Launch) (D : va_G) (t : Gx) (B N : Nat) (g : Nat → va_E) (o pr w : Nat → Int32) (n : Nat) (ey wi ev : Int32) (x : Int32) (hN : 220 ≤ N) (hP : isProg t B g 1 o pr w n) (hn : n ≤ 8) (hW : isWat g 5 ey wi ev) (hScr : Scr t B g)  : Ci l D t B N yX7_pair cX7_pair 4 (some .int) 6 153 g [.ref (B + 0), .int x] (fun r g' => Kp t B g g') := by
  refine Ci.start (by decide) (Nat.le_of_ble_eq_true rfl) ?_
  intro p e s m below meth c ls C hr hlocks hS hl
  replace C : Cx D t p s m [.ref (B + 0), .int x].toArray c cX7_pair 4 RX7 := C
  replace hl : lv_has ls 4 [(0, .ref (B + 0)), (1, .int x)] := hl
  obtain ⟨p0, p1, p2, p3⟩ := id hP
  have hKp : Kp t B g g := Kp.rf hScr
  refine lv_iload_n C.x C.b dX7_pair_0 rfl (lv_at hl 1 rfl) ?_
  refine lv_if_lt (tgt := 9) C.x C.b dX7_pair_1 (by decide) (fun c_1 => ?_) (fun c_1 => ?_)
  · skip
    refine lv_sipush (v := (-1001)) C.x C.b dX7_pair_9 (by decide) ?_
    exact r_iret C hr hlocks hS hKp dX7_pair_12
  · skip
    refine lv_iload_n C.x C.b dX7_pair_4 rfl (lv_at hl 1 rfl) ?_
    refine lv_iconst (v := 4) C.x C.b dX7_pair_5 (by decide) ?_
    refine lv_icmp_le (tgt := 13) C.x C.b dX7_pair_6 (by decide) (fun c_2 => ?_) (fun c_2 => ?_)
    · skip
      refine lv_aload_n C.x C.b dX7_pair_13 rfl (lv_at hl 0 rfl) ?_
      obtain ⟨v_6, e_7⟩ := hKp.2.1
      refine r_callV (b := 0) (As := []) (rest := []) (k_X7_firstToldOpen l D t B N g _ _ _ _ _ _ _  (by omega) ⟨p0, p1, p2, p3⟩ (by omega) hW hKp.2 ) mf_yX7_firstToldOpen mlX7_166 im_yX7_firstToldOpen se_yX7_firstToldOpen (by decide) C hS (by omega) e_7 (show vwCl[7]? = some _ from rfl) rfl rfl hl.1 rfl (Nat.le_of_ble_eq_true rfl) dX7_pair_14 ⟨Nat.zero_le _, Nat.zero_le _⟩ (fun r_5 g_3 H locs w_4 hS => ?_)
      obtain ⟨w_4, er_5⟩ := w_4
      replace hKp : Kp t B g g_3 := hKp.tr w_4
      refine lv_istore_n (lv' := [(2, .int r_5), (0, .ref (B + 0)), (1, .int x)]) C.x C.b dX7_pair_17 rfl hl (by decide) rfl (fun ls hl => ?_)
      refine lv_iload_n C.x C.b dX7_pair_18 rfl (lv_at hl 0 rfl) ?_
      refine lv_iconst (v := (-1)) C.x C.b dX7_pair_19 (by decide) ?_
      refine lv_icmp_ne (tgt := 27) C.x C.b dX7_pair_20 (by decide) (fun c_8 => ?_) (fun c_8 => ?_)
      · skip
        obtain ⟨q_9, hq_10, rfl⟩ := er_5.resolve_left c_8
        refine lv_aload_n C.x C.b dX7_pair_27 rfl (lv_at hl 1 rfl) ?_
        obtain ⟨v_11, e_12⟩ := hKp.2.1
        refine r_get ck7 flX7_50 C hS (by omega) e_12 (by decide) rfl dX7_pair_28 ?_
        refine lv_iload_n C.x C.b dX7_pair_31 rfl (lv_at hl 0 rfl) ?_
        have e_13 : g_3 1 = .inr (3, [.ref (B + (1 + 1)), .ref (B + (1 + 2)), .ref (B + (1 + 3)), .int (nI n)]) := (hKp.1 _ (by omega)).trans p0
        have e_14 : g_3 (1 + 1) = .inl (t.1, 8, .inl o) := (hKp.1 _ (by omega)).trans p1
        have e_15 : g_3 (1 + 2) = .inl (t.1, 8, .inl pr) := (hKp.1 _ (by omega)).trans p2
        have e_16 : g_3 (1 + 3) = .inl (t.1, 8, .inl w) := (hKp.1 _ (by omega)).trans p3
        have e_17 : g_3 5 = .inr (6, [.int ey, .int wi, .int ev]) := (hKp.1 _ (by omega)).trans hW
        have e_21 := hKp.2.2.2.2.2.1.1
        refine r_callV (b := 23) (As := [.int (nI q_9)]) (rest := []) (k_X2_firstParted l D t B N g_3 _ _ _ _ _ _ _ q_9 (by omega) ⟨e_13, e_14, e_15, e_16⟩ (by omega) e_17 hKp.2 (by omega)) mf_yX2_firstParted mlX7_170 im_yX2_firstParted se_yX2_firstParted (by decide) C hS (by omega) e_21 (show vwCl[2]? = some _ from rfl) rfl rfl hl.1 rfl (Nat.le_of_ble_eq_true rfl) dX7_pair_32 ⟨Nat.zero_le _, Nat.zero_le _⟩ (fun r_20 g_18 H locs w_19 hS => ?_)
        obtain ⟨w_19, er_20⟩ := w_19
        replace hKp : Kp t B g g_18 := hKp.tr w_19
        refine lv_istore_n (lv' := [(3, .int r_20), (2, .int (nI q_9)), (0, .ref (B + 0)), (1, .int x)]) C.x C.b dX7_pair_35 rfl hl (by decide) rfl (fun ls hl => ?_)
        refine lv_iload_n C.x C.b dX7_pair_36 rfl (lv_at hl 3 rfl) ?_
        refine lv_if_ne (tgt := 42) C.x C.b dX7_pair_37 (by decide) (fun c_22 => ?_) (fun c_22 => ?_)
        · skip
          refine lv_iload_n C.x C.b dX7_pair_42 rfl (lv_at hl 3 rfl) ?_
          refine lv_iconst (v := 1) C.x C.b dX7_pair_43 (by decide) ?_
          refine lv_icmp_ne (tgt := 49) C.x C.b dX7_pair_44 (by decide) (fun c_23 => ?_) (fun c_23 => ?_)
          · skip
            refine lv_aload_n C.x C.b dX7_pair_49 rfl (lv_at hl 2 rfl) ?_
            refine lv_iload_n C.x C.b dX7_pair_50 rfl (lv_at hl 1 rfl) ?_
            refine lv_iload_n C.x C.b dX7_pair_51 rfl (lv_at hl 0 rfl) ?_
            refine lv_iload_n C.x C.b dX7_pair_52 rfl (lv_at hl 3 rfl) ?_
            have e_24 : g_18 1 = .inr (3, [.ref (B + (1 + 1)), .ref (B + (1 + 2)), .ref (B + (1 + 3)), .int (nI n)]) := (hKp.1 _ (by omega)).trans p0
            have e_25 : g_18 (1 + 1) = .inl (t.1, 8, .inl o) := (hKp.1 _ (by omega)).trans p1
            have e_26 : g_18 (1 + 2) = .inl (t.1, 8, .inl pr) := (hKp.1 _ (by omega)).trans p2
            have e_27 : g_18 (1 + 3) = .inl (t.1, 8, .inl w) := (hKp.1 _ (by omega)).trans p3
            have e_28 : g_18 5 = .inr (6, [.int ey, .int wi, .int ev]) := (hKp.1 _ (by omega)).trans hW
            obtain ⟨v_32, e_33⟩ := hKp.2.1
            refine r_callV (b := 0) (As := [.int (nI q_9), .int r_20, .int x]) (rest := []) (k_X7_firstTold l D t B N g_18 _ _ _ _ _ _ _ (nI q_9) r_20 x (by omega) ⟨e_24, e_25, e_26, e_27⟩ (by omega) e_28 hKp.2 ) mf_yX7_firstTold mlX7_173 im_yX7_firstTold se_yX7_firstTold (by decide) C hS (by omega) e_33 (show vwCl[7]? = some _ from rfl) rfl rfl hl.1 rfl (Nat.le_of_ble_eq_true rfl) dX7_pair_53 ⟨Nat.zero_le _, Nat.zero_le _⟩ (fun r_31 g_29 H locs w_30 hS => ?_)
            replace hKp : Kp t B g g_29 := hKp.tr w_30
            exact r_iret C hr hlocks hS hKp dX7_pair_56
          · skip
            refine lv_iload_n C.x C.b dX7_pair_47 rfl (lv_at hl 0 rfl) ?_
            exact r_iret C hr hlocks hS hKp dX7_pair_48
        · skip
          refine lv_iload_n C.x C.b dX7_pair_40 rfl (lv_at hl 1 rfl) ?_
          exact r_iret C hr hlocks hS hKp dX7_pair_41
      · skip
        refine lv_sipush (v := (-1001)) C.x C.b dX7_pair_23 (by decide) ?_
        exact r_iret C hr hlocks hS hKp dX7_pair_26
    · skip
      refine lv_sipush (v := (-1001)) C.x C.b dX7_pair_9 (by decide) ?_
      exact r_iret C hr hlocks hS hKp dX7_pair_12
set_option maxHeartbeats 1000000 in
set_option maxRecDepth 100000 in
theorem k_X7_cure (l : Launch) (D : va_G) (t : Gx) (B N : Nat) (g : Nat → va_E) (o pr w : Nat → Int32) (n : Nat) (ey wi ev : Int32) (x : Int32) (hN : 220 ≤ N) (hP : isProg t B g 1 o pr w n) (hn : n ≤ 8) (hW : isWat g 5 ey wi ev) (hScr : Scr t B g)  : Ci l D t B N yX7_cure cX7_cure 3 (some .int) 6 157 g [.ref (B + 0), .int x] (fun r g' => Kp t B g g') := by
  refine Ci.start (by decide) (Nat.le_of_ble_eq_true rfl) ?_
  intro p e s m below meth c ls C hr hlocks hS hl
  replace C : Cx D t p s m [.ref (B + 0), .int x].toArray c cX7_cure 3 RX7 := C
  replace hl : lv_has ls 3 [(0, .ref (B + 0)), (1, .int x)] := hl
  obtain ⟨p0, p1, p2, p3⟩ := id hP
  have hKp : Kp t B g g := Kp.rf hScr
  refine lv_iload_n C.x C.b dX7_cure_0 rfl (lv_at hl 1 rfl) ?_
  refine lv_if_lt (tgt := 9) C.x C.b dX7_cure_1 (by decide) (fun c_1 => ?_) (fun c_1 => ?_)
  · skip
    refine lv_iconst (v := (-1)) C.x C.b dX7_cure_9 (by decide) ?_
    exact r_iret C hr hlocks hS hKp dX7_cure_10
  · skip
    refine lv_iload_n C.x C.b dX7_cure_4 rfl (lv_at hl 1 rfl) ?_
    refine lv_iconst (v := 2) C.x C.b dX7_cure_5 (by decide) ?_
    refine lv_icmp_le (tgt := 11) C.x C.b dX7_cure_6 (by decide) (fun c_2 => ?_) (fun c_2 => ?_)
    · skip
      refine lv_aload_n C.x C.b dX7_cure_11 rfl (lv_at hl 0 rfl) ?_
      obtain ⟨v_3, e_4⟩ := hKp.2.1
      refine r_get ck7 flX7_57 C hS (by omega) e_4 (by decide) rfl dX7_cure_12 ?_
      refine lv_aload_n C.x C.b dX7_cure_15 rfl (lv_at hl 0 rfl) ?_
      refine r_get ck7 flX7_26 C hS (by omega) e_4 (by decide) rfl dX7_cure_16 ?_
      refine lv_aload_n C.x C.b dX7_cure_19 rfl (lv_at hl 0 rfl) ?_
      refine r_get ck7 flX7_12 C hS (by omega) e_4 (by decide) rfl dX7_cure_20 ?_
      refine lv_aload_n C.x C.b dX7_cure_23 rfl (lv_at hl 0 rfl) ?_
      refine r_get ck7 flX7_19 C hS (by omega) e_4 (by decide) rfl dX7_cure_24 ?_
      obtain ⟨v_8, e_9, hz_10⟩ := hKp.2.2.2.2.2.2.2.2.1
      refine r_callVv (b := 113) (As := [.ref (B + 6), .ref (B + 1), .ref (B + 5)]) (rest := []) (k_X0_learn l D t B N g _ _ _ _ _ _ _  (by omega) ⟨p0, p1, p2, p3⟩ (by omega) hW hKp.2 ) mf_yX0_learn mlX7_177 im_yX0_learn se_yX0_learn (by decide) C hS (by omega) e_9 (show vwCl[0]? = some _ from rfl) rfl rfl hl.1 rfl (Nat.le_of_ble_eq_true rfl) dX7_cure_27 ⟨Nat.zero_le _, Nat.zero_le _⟩ (fun g_5 H locs w_6 hS => ?_)
      replace hKp : Kp t B g g_5 := hKp.tr w_6
      refine lv_aload_n C.x C.b dX7_cure_30 rfl (lv_at hl 0 rfl) ?_
      obtain ⟨v_11, e_12⟩ := hKp.2.1
      refine r_get ck7 flX7_57 C hS (by omega) e_12 (by decide) rfl dX7_cure_31 ?_
      refine lv_aload_n C.x C.b dX7_cure_34 rfl (lv_at hl 0 rfl) ?_
      refine r_get ck7 flX7_12 C hS (by omega) e_12 (by decide) rfl dX7_cure_35 ?_
      have e_13 : g_5 1 = .inr (3, [.ref (B + (1 + 1)), .ref (B + (1 + 2)), .ref (B + (1 + 3)), .int (nI n)]) := (hKp.1 _ (by omega)).trans p0
      have e_14 : g_5 (1 + 1) = .inl (t.1, 8, .inl o) := (hKp.1 _ (by omega)).trans p1
      have e_15 : g_5 (1 + 2) = .inl (t.1, 8, .inl pr) := (hKp.1 _ (by omega)).trans p2
      have e_16 : g_5 (1 + 3) = .inl (t.1, 8, .inl w) := (hKp.1 _ (by omega)).trans p3
      have e_17 : g_5 5 = .inr (6, [.int ey, .int wi, .int ev]) := (hKp.1 _ (by omega)).trans hW
      obtain ⟨v_21, e_22, hz_23⟩ := hKp.2.2.2.2.2.2.2.2.1
      refine r_callV (b := 113) (As := [.ref (B + 1)]) (rest := []) (k_X0_cheapest l D t B N g_5 _ _ _ _ _ _ _  (by omega) ⟨e_13, e_14, e_15, e_16⟩ (by omega) e_17 hKp.2 ) mf_yX0_cheapest mlX7_180 im_yX0_cheapest se_yX0_cheapest (by decide) C hS (by omega) e_22 (show vwCl[0]? = some _ from rfl) rfl rfl hl.1 rfl (Nat.le_of_ble_eq_true rfl) dX7_cure_38 ⟨Nat.zero_le _, Nat.zero_le _⟩ (fun r_20 g_18 H locs w_19 hS => ?_)
      replace hKp : Kp t B g g_18 := hKp.tr w_19
      refine lv_istore_n (lv' := [(2, .int r_20), (0, .ref (B + 0)), (1, .int x)]) C.x C.b dX7_cure_41 rfl hl (by decide) rfl (fun ls hl => ?_)
      refine lv_iload_n C.x C.b dX7_cure_42 rfl (lv_at hl 0 rfl) ?_
      refine lv_iconst (v := (-1)) C.x C.b dX7_cure_43 (by decide) ?_
      refine lv_icmp_ne (tgt := 49) C.x C.b dX7_cure_44 (by decide) (fun c_24 => ?_) (fun c_24 => ?_)
      · skip
        refine lv_iload_n C.x C.b dX7_cure_49 rfl (lv_at hl 2 rfl) ?_
        by_cases h_25 : x = 0
        · refine lv_lookup (off := 26) (tgt := 76) C.x C.b dX7_cure_50 (by decide) (by rw [h_25]; decide) (by decide) ?_
          refine lv_aload_n C.x C.b dX7_cure_76 rfl (lv_at hl 1 rfl) ?_
          obtain ⟨v_26, e_27⟩ := hKp.2.1
          refine r_get ck7 flX7_12 C hS (by omega) e_27 (by decide) rfl dX7_cure_77 ?_
          refine lv_iload_n C.x C.b dX7_cure_80 rfl (lv_at hl 0 rfl) ?_
          have e_28 : g_18 1 = .inr (3, [.ref (B + (1 + 1)), .ref (B + (1 + 2)), .ref (B + (1 + 3)), .int (nI n)]) := (hKp.1 _ (by omega)).trans p0
          have e_29 : g_18 (1 + 1) = .inl (t.1, 8, .inl o) := (hKp.1 _ (by omega)).trans p1
          have e_30 : g_18 (1 + 2) = .inl (t.1, 8, .inl pr) := (hKp.1 _ (by omega)).trans p2
          have e_31 : g_18 (1 + 3) = .inl (t.1, 8, .inl w) := (hKp.1 _ (by omega)).trans p3
          refine r_callV (b := 1) (As := [.int r_20]) (rest := []) (c_X3_priceOf l D t B N g_18 1 _ _ _ _ r_20 (by omega) ⟨e_28, e_29, e_30, e_31⟩ (by omega)) mf_yX3_priceOf mlX7_184 im_yX3_priceOf se_yX3_priceOf (by decide) C hS (by omega) e_28 (show vwCl[3]? = some _ from rfl) rfl rfl hl.1 rfl (Nat.le_of_ble_eq_true rfl) dX7_cure_81 ⟨Nat.zero_le _, Nat.zero_le _⟩ (fun r_34 g_32 H locs w_33 hS => ?_)
          obtain ⟨rfl, er_34⟩ := w_33
          subst er_34
          exact r_iret C hr hlocks hS hKp dX7_cure_84
        by_cases h_35 : x = 1
        · refine lv_lookup (off := 35) (tgt := 85) C.x C.b dX7_cure_50 (by decide) (by rw [h_35]; decide) (by decide) ?_
          refine lv_iload_n C.x C.b dX7_cure_85 rfl (lv_at hl 0 rfl) ?_
          exact r_iret C hr hlocks hS hKp dX7_cure_86
        refine lv_lookup (off := 37) (tgt := 87) C.x C.b dX7_cure_50 (by decide) (by show Op.lookupswitch.offset [(0, 26), (1, 35)] 37 _ = 37; rw [lv_osw h_25 (by decide), lv_osw h_35 (by decide)]; rfl) (by decide) ?_
        refine lv_aload_n C.x C.b dX7_cure_87 rfl (lv_at hl 1 rfl) ?_
        obtain ⟨v_36, e_37⟩ := hKp.2.1
        refine r_get ck7 flX7_57 C hS (by omega) e_37 (by decide) rfl dX7_cure_88 ?_
        refine lv_aload_n C.x C.b dX7_cure_91 rfl (lv_at hl 1 rfl) ?_
        refine r_get ck7 flX7_12 C hS (by omega) e_37 (by decide) rfl dX7_cure_92 ?_
        have e_38 : g_18 1 = .inr (3, [.ref (B + (1 + 1)), .ref (B + (1 + 2)), .ref (B + (1 + 3)), .int (nI n)]) := (hKp.1 _ (by omega)).trans p0
        have e_39 : g_18 (1 + 1) = .inl (t.1, 8, .inl o) := (hKp.1 _ (by omega)).trans p1
        have e_40 : g_18 (1 + 2) = .inl (t.1, 8, .inl pr) := (hKp.1 _ (by omega)).trans p2
        have e_41 : g_18 (1 + 3) = .inl (t.1, 8, .inl w) := (hKp.1 _ (by omega)).trans p3
        have e_42 : g_18 5 = .inr (6, [.int ey, .int wi, .int ev]) := (hKp.1 _ (by omega)).trans hW
        obtain ⟨v_46, e_47, hz_48⟩ := hKp.2.2.2.2.2.2.2.2.1
        refine r_callV (b := 113) (As := [.ref (B + 1)]) (rest := []) (k_X0_howMany l D t B N g_18 _ _ _ _ _ _ _  (by omega) ⟨e_38, e_39, e_40, e_41⟩ (by omega) e_42 hKp.2 ) mf_yX0_howMany mlX7_187 im_yX0_howMany se_yX0_howMany (by decide) C hS (by omega) e_47 (show vwCl[0]? = some _ from rfl) rfl rfl hl.1 rfl (Nat.le_of_ble_eq_true rfl) dX7_cure_95 ⟨Nat.zero_le _, Nat.zero_le _⟩ (fun r_45 g_43 H locs w_44 hS => ?_)
        replace hKp : Kp t B g g_43 := hKp.tr w_44
        exact r_iret C hr hlocks hS hKp dX7_cure_98
      · skip
        refine lv_iconst (v := (-1)) C.x C.b dX7_cure_47 (by decide) ?_
        exact r_iret C hr hlocks hS hKp dX7_cure_48
    · skip
      refine lv_iconst (v := (-1)) C.x C.b dX7_cure_9 (by decide) ?_
      exact r_iret C hr hlocks hS hKp dX7_cure_10
set_option maxHeartbeats 1000000 in
set_option maxRecDepth 100000 in
theorem k_X7_visitedByAll (l : Launch) (D : va_G) (t : Gx) (B N : Nat) (g : Nat → va_E) (o pr w : Nat → Int32) (n : Nat) (ey wi ev : Int32)  (hN : 220 ≤ N) (hP : isProg t B g 1 o pr w n) (hn : n ≤ 8) (hW : isWat g 5 ey wi ev) (hScr : Scr t B g)  : Ci l D t B N yX7_visitedByAll cX7_visitedByAll 4 (some .int) 4 104 g [.ref (B + 0)] (fun r g' => Kp t B g g') := by
  refine Ci.start (by decide) (Nat.le_of_ble_eq_true rfl) ?_
  intro p e s m below meth c ls C hr hlocks hS hl
  replace C : Cx D t p s m [.ref (B + 0)].toArray c cX7_visitedByAll 4 RX7 := C
  replace hl : lv_has ls 4 [(0, .ref (B + 0))] := hl
  obtain ⟨p0, p1, p2, p3⟩ := id hP
  have hKp : Kp t B g g := Kp.rf hScr
  refine lv_iconst (v := 0) C.x C.b dX7_visitedByAll_0 (by decide) ?_
  refine lv_istore_n (lv' := [(1, .int 0), (0, .ref (B + 0))]) C.x C.b dX7_visitedByAll_1 rfl hl (by decide) rfl (fun ls hl => ?_)
  refine lv_iconst (v := 0) C.x C.b dX7_visitedByAll_2 (by decide) ?_
  refine lv_istore_n (lv' := [(2, .int 0), (1, .int 0), (0, .ref (B + 0))]) C.x C.b dX7_visitedByAll_3 rfl hl (by decide) rfl (fun ls hl => ?_)
  have lp_1 : ∀ (u_2 k_3 : Nat) (b_7 : Int32) (g_6 : Nat → va_E) (H : Heap) (locs : List Loc) (ls : Array Slot), k_3 + u_2 = 16 → Kp t B g g_6 → St D B s.heap N g_6 H locs → lv_has ls 4 [(0, .ref (B + 0)), (1, .int b_7), (2, .int (nI k_3))] → W p l e (rmOf 4 104 0 0) s m [.ref (B + 0)].toArray below meth c H locs 0 0 (MQ below (qI D B N (fun r g' => Kp t B g g')) [.ref (B + 0)].toArray s 0 0 (fun q => B ≤ q)) (F0 m 4 ls []) := by
    intro u_2
    induction u_2 with
    | zero =>
      intro k_3 b_7 g_6 H locs ls hk_4 hKp hS hl
      obtain rfl : 16 = k_3 := by omega
      refine lv_iload_n C.x C.b dX7_visitedByAll_4 rfl (lv_at hl 2 rfl) ?_
      refine lv_bipush (v := 16) C.x C.b dX7_visitedByAll_5 (by decide) ?_
      refine lv_icmp_ge (tgt := 61) C.x C.b dX7_visitedByAll_7 (by decide) (fun c_8 => ?_) (fun c_8 => absurd (by decide) c_8)
      refine lv_iload_n C.x C.b dX7_visitedByAll_61 rfl (lv_at hl 1 rfl) ?_
      exact r_iret C hr hlocks hS hKp dX7_visitedByAll_62
    | succ u_2 ih_5 =>
      intro k_3 b_7 g_6 H locs ls hk_4 hKp hS hl
      refine lv_iload_n C.x C.b dX7_visitedByAll_4 rfl (lv_at hl 2 rfl) ?_
      refine lv_bipush (v := 16) C.x C.b dX7_visitedByAll_5 (by decide) ?_
      refine lv_icmp_ge (tgt := 61) C.x C.b dX7_visitedByAll_7 (by decide) (fun c_9 => absurd c_9 (nI_ge (a := k_3) (b := 16) (by omega) (by decide))) (fun c_9 => ?_)
      refine lv_iconst (v := 0) C.x C.b dX7_visitedByAll_10 (by decide) ?_
      refine lv_istore_n (lv' := [(3, .int 0), (0, .ref (B + 0)), (1, .int b_7), (2, .int (nI k_3))]) C.x C.b dX7_visitedByAll_11 rfl hl (by decide) rfl (fun ls hl => ?_)
      have lp_10 : ∀ (u_11 k_12 : Nat) (b_16 : Int32) (g_15 : Nat → va_E) (H : Heap) (locs : List Loc) (ls : Array Slot), k_12 + u_11 = 16 → Kp t B g g_15 → St D B s.heap N g_15 H locs → lv_has ls 4 [(0, .ref (B + 0)), (2, .int (nI k_3)), (1, .int b_16), (3, .int (nI k_12))] → W p l e (rmOf 4 104 0 0) s m [.ref (B + 0)].toArray below meth c H locs 0 0 (MQ below (qI D B N (fun r g' => Kp t B g g')) [.ref (B + 0)].toArray s 0 0 (fun q => B ≤ q)) (F0 m 12 ls []) := by
        intro u_11
        induction u_11 with
        | zero =>
          intro k_12 b_16 g_15 H locs ls hk_13 hKp hS hl
          obtain rfl : 16 = k_12 := by omega
          refine lv_iload_n C.x C.b dX7_visitedByAll_12 rfl (lv_at hl 3 rfl) ?_
          refine lv_bipush (v := 16) C.x C.b dX7_visitedByAll_13 (by decide) ?_
          refine lv_icmp_ge (tgt := 55) C.x C.b dX7_visitedByAll_15 (by decide) (fun c_17 => ?_) (fun c_17 => absurd (by decide) c_17)
          refine lv_iinc (v := nI (k_3 + 1)) (lv' := [(2, .int (nI (k_3 + 1))), (0, .ref (B + 0)), (1, .int b_16), (3, .int (nI 16))]) C.x C.b dX7_visitedByAll_55 hl (k := 1) rfl (nI_1 k_3) (by decide) rfl (fun ls hl => ?_)
          refine lv_goto (tgt := 4) C.x C.b dX7_visitedByAll_58 (by decide) ?_
          exact ih_5 (k_3 + 1) b_16 g_15 _ _ _ (by omega)  hKp hS (lv_sub hl [1, 2, 0] rfl)
        | succ u_11 ih_14 =>
          intro k_12 b_16 g_15 H locs ls hk_13 hKp hS hl
          refine lv_iload_n C.x C.b dX7_visitedByAll_12 rfl (lv_at hl 3 rfl) ?_
          refine lv_bipush (v := 16) C.x C.b dX7_visitedByAll_13 (by decide) ?_
          refine lv_icmp_ge (tgt := 55) C.x C.b dX7_visitedByAll_15 (by decide) (fun c_18 => absurd c_18 (nI_ge (a := k_12) (b := 16) (by omega) (by decide))) (fun c_18 => ?_)
          refine lv_aload_n C.x C.b dX7_visitedByAll_18 rfl (lv_at hl 0 rfl) ?_
          obtain ⟨v_19, e_20⟩ := hKp.2.1
          refine r_get ck7 flX7_26 C hS (by omega) e_20 (by decide) rfl dX7_visitedByAll_19 ?_
          refine lv_aload_n C.x C.b dX7_visitedByAll_22 rfl (lv_at hl 0 rfl) ?_
          refine r_get ck7 flX7_12 C hS (by omega) e_20 (by decide) rfl dX7_visitedByAll_23 ?_
          refine lv_aload_n C.x C.b dX7_visitedByAll_26 rfl (lv_at hl 0 rfl) ?_
          refine r_get ck7 flX7_19 C hS (by omega) e_20 (by decide) rfl dX7_visitedByAll_27 ?_
          refine lv_iload_n C.x C.b dX7_visitedByAll_30 rfl (lv_at hl 1 rfl) ?_
          refine lv_iload_n C.x C.b dX7_visitedByAll_31 rfl (lv_at hl 3 rfl) ?_
          refine lv_aload_n C.x C.b dX7_visitedByAll_32 rfl (lv_at hl 0 rfl) ?_
          refine r_get ck7 flX7_33 C hS (by omega) e_20 (by decide) rfl dX7_visitedByAll_33 ?_
          have e_21 : g_15 1 = .inr (3, [.ref (B + (1 + 1)), .ref (B + (1 + 2)), .ref (B + (1 + 3)), .int (nI n)]) := (hKp.1 _ (by omega)).trans p0
          have e_22 : g_15 (1 + 1) = .inl (t.1, 8, .inl o) := (hKp.1 _ (by omega)).trans p1
          have e_23 : g_15 (1 + 2) = .inl (t.1, 8, .inl pr) := (hKp.1 _ (by omega)).trans p2
          have e_24 : g_15 (1 + 3) = .inl (t.1, 8, .inl w) := (hKp.1 _ (by omega)).trans p3
          have e_25 : g_15 5 = .inr (6, [.int ey, .int wi, .int ev]) := (hKp.1 _ (by omega)).trans hW
          obtain ⟨q_29, q_30, q_31, ⟨e_32, e_33, e_34⟩⟩ := hKp.2.2.1
          refine r_callVv (b := 6) (As := [.ref (B + 1), .ref (B + 5), .int (nI k_3), .int (nI k_12), .ref (B + 9)]) (rest := []) (k_go l D t B N g_15 _ _ _ _ _ _ _ 9 (nI k_3) (nI k_12) (by omega) ⟨e_21, e_22, e_23, e_24⟩ e_25 (by omega) (Or.inl rfl) hKp.2) mf_yX1_go mlX7_202 im_yX1_go se_yX1_go (by decide) C hS (by omega) e_32 (show vwCl[1]? = some _ from rfl) rfl rfl hl.1 rfl (Nat.le_of_ble_eq_true rfl) dX7_visitedByAll_36 ⟨Nat.zero_le _, Nat.zero_le _⟩ (fun g_26 H locs w_27 hS => ?_)
          replace hKp : Kp t B g g_26 := hKp.tr w_27
          refine lv_iload_n C.x C.b dX7_visitedByAll_39 rfl (lv_at hl 2 rfl) ?_
          refine lv_aload_n C.x C.b dX7_visitedByAll_40 rfl (lv_at hl 0 rfl) ?_
          obtain ⟨v_35, e_36⟩ := hKp.2.1
          refine r_get ck7 flX7_33 C hS (by omega) e_36 (by decide) rfl dX7_visitedByAll_41 ?_
          obtain ⟨q_37, q_38, q_39, q_40, q_41, q_42, q_43, q_44, q_45, q_46, ⟨e_47, e_48, e_49, e_50, e_51, e_52⟩, hl_53, hs_54⟩ := hKp.2.2.2.1 9 (Or.inl rfl)
          refine r_get ck5 flX7_214 C hS (by omega) e_47 (by decide) rfl dX7_visitedByAll_44 ?_
          refine lv_ior C.x C.b dX7_visitedByAll_47 ?_
          refine lv_istore_n (lv' := [(1, .int (b_16 ||| q_44)), (0, .ref (B + 0)), (2, .int (nI k_3)), (3, .int (nI k_12))]) C.x C.b dX7_visitedByAll_48 rfl hl (by decide) rfl (fun ls hl => ?_)
          refine lv_iinc (v := nI (k_12 + 1)) (lv' := [(3, .int (nI (k_12 + 1))), (1, .int (b_16 ||| q_44)), (0, .ref (B + 0)), (2, .int (nI k_3))]) C.x C.b dX7_visitedByAll_49 hl (k := 3) rfl (nI_1 k_12) (by decide) rfl (fun ls hl => ?_)
          refine lv_goto (tgt := 12) C.x C.b dX7_visitedByAll_52 (by decide) ?_
          exact ih_14 (k_12 + 1) (b_16 ||| q_44) g_26 _ _ _ (by omega)  hKp hS (lv_sub hl [2, 3, 1, 0] rfl)
      exact lp_10 16 0 b_7 g_6 _ _ _ (by omega)  hKp hS (lv_sub hl [1, 3, 2, 0] rfl)
  exact lp_1 16 0 0 g _ _ _ (by omega)  hKp hS (lv_sub hl [2, 1, 0] rfl)
set_option maxHeartbeats 1000000 in
set_option maxRecDepth 100000 in
theorem k_X7_reached (l : Launch) (D : va_G) (t : Gx) (B N : Nat) (g : Nat → va_E) (o pr w : Nat → Int32) (n : Nat) (ey wi ev : Int32)  (hN : 220 ≤ N) (hP : isProg t B g 1 o pr w n) (hn : n ≤ 8) (hW : isWat g 5 ey wi ev) (hScr : Scr t B g)  : Ci l D t B N yX7_reached cX7_reached 1 (some .int) 5 127 g [.ref (B + 0)] (fun r g' => Kp t B g g') := by
  refine Ci.start (by decide) (Nat.le_of_ble_eq_true rfl) ?_
  intro p e s m below meth c ls C hr hlocks hS hl
  replace C : Cx D t p s m [.ref (B + 0)].toArray c cX7_reached 1 RX7 := C
  replace hl : lv_has ls 1 [(0, .ref (B + 0))] := hl
  obtain ⟨p0, p1, p2, p3⟩ := id hP
  have hKp : Kp t B g g := Kp.rf hScr
  refine lv_aload_n C.x C.b dX7_reached_0 rfl (lv_at hl 0 rfl) ?_
  obtain ⟨v_1, e_2⟩ := hKp.2.1
  refine r_get ck7 flX7_61 C hS (by omega) e_2 (by decide) rfl dX7_reached_1 ?_
  refine lv_iconst (v := (-1)) C.x C.b dX7_reached_4 (by decide) ?_
  refine lv_icmp_ne (tgt := 16) C.x C.b dX7_reached_5 (by decide) (fun c_3 => ?_) (fun c_3 => ?_)
  · skip
    refine lv_aload_n C.x C.b dX7_reached_16 rfl (lv_at hl 0 rfl) ?_
    refine r_get ck7 flX7_61 C hS (by omega) e_2 (by decide) rfl dX7_reached_17 ?_
    exact r_iret C hr hlocks hS hKp dX7_reached_20
  · skip
    refine lv_aload_n C.x C.b dX7_reached_8 rfl (lv_at hl 0 rfl) ?_
    refine lv_aload_n C.x C.b dX7_reached_9 rfl (lv_at hl 0 rfl) ?_
    refine r_callV (b := 0) (As := []) (rest := [.ref (B + 0)]) (k_X7_visitedByAll l D t B N g _ _ _ _ _ _ _  (by omega) ⟨p0, p1, p2, p3⟩ (by omega) hW hKp.2 ) mf_yX7_visitedByAll mlX7_190 im_yX7_visitedByAll se_yX7_visitedByAll (by decide) C hS (by omega) e_2 (show vwCl[7]? = some _ from rfl) rfl rfl hl.1 rfl (Nat.le_of_ble_eq_true rfl) dX7_reached_10 ⟨Nat.zero_le _, Nat.zero_le _⟩ (fun r_6 g_4 H locs w_5 hS => ?_)
    replace hKp : Kp t B g g_4 := hKp.tr w_5
    obtain ⟨v_7, e_8⟩ := hKp.2.1
    refine r_put ck7 flX7_61 C hS (by omega) e_8 (by decide) rfl rfl rfl (Nat.le_of_ble_eq_true rfl) dX7_reached_13 (fun g_9 H locs e_10 o_11 hS => ?_)
    replace e_10 : g_9 0 = .inr (7, [.ref (B + 1), .ref (B + 5), .ref (B + 6), .ref (B + 9), .ref (B + 15), .ref (B + 19), .ref (B + 23), .ref (B + 113), .int r_6]) := e_10
    replace hKp : Kp t B g g_9 := hKp.top e_10 o_11
    refine lv_aload_n C.x C.b dX7_reached_16 rfl (lv_at hl 0 rfl) ?_
    refine r_get ck7 flX7_61 C hS (by omega) e_10 (by decide) rfl dX7_reached_17 ?_
    exact r_iret C hr hlocks hS hKp dX7_reached_20
set_option maxHeartbeats 1000000 in
set_option maxRecDepth 100000 in
theorem k_X7_tellers (l : Launch) (D : va_G) (t : Gx) (B N : Nat) (g : Nat → va_E) (o pr w : Nat → Int32) (n : Nat) (ey wi ev : Int32)  (hN : 220 ≤ N) (hP : isProg t B g 1 o pr w n) (hn : n ≤ 8) (hW : isWat g 5 ey wi ev) (hScr : Scr t B g)  : Ci l D t B N yX7_tellers cX7_tellers 4 (some .int) 6 157 g [.ref (B + 0)] (fun r g' => Kp t B g g') := by
  refine Ci.start (by decide) (Nat.le_of_ble_eq_true rfl) ?_
  intro p e s m below meth c ls C hr hlocks hS hl
  replace C : Cx D t p s m [.ref (B + 0)].toArray c cX7_tellers 4 RX7 := C
  replace hl : lv_has ls 4 [(0, .ref (B + 0))] := hl
  obtain ⟨p0, p1, p2, p3⟩ := id hP
  have hKp : Kp t B g g := Kp.rf hScr
  refine lv_aload_n C.x C.b dX7_tellers_0 rfl (lv_at hl 0 rfl) ?_
  obtain ⟨v_1, e_2⟩ := hKp.2.1
  refine r_get ck7 flX7_57 C hS (by omega) e_2 (by decide) rfl dX7_tellers_1 ?_
  refine lv_aload_n C.x C.b dX7_tellers_4 rfl (lv_at hl 0 rfl) ?_
  refine r_get ck7 flX7_26 C hS (by omega) e_2 (by decide) rfl dX7_tellers_5 ?_
  refine lv_aload_n C.x C.b dX7_tellers_8 rfl (lv_at hl 0 rfl) ?_
  refine r_get ck7 flX7_12 C hS (by omega) e_2 (by decide) rfl dX7_tellers_9 ?_
  refine lv_aload_n C.x C.b dX7_tellers_12 rfl (lv_at hl 0 rfl) ?_
  refine r_get ck7 flX7_19 C hS (by omega) e_2 (by decide) rfl dX7_tellers_13 ?_
  obtain ⟨v_6, e_7, hz_8⟩ := hKp.2.2.2.2.2.2.2.2.1
  refine r_callVv (b := 113) (As := [.ref (B + 6), .ref (B + 1), .ref (B + 5)]) (rest := []) (k_X0_learn l D t B N g _ _ _ _ _ _ _  (by omega) ⟨p0, p1, p2, p3⟩ (by omega) hW hKp.2 ) mf_yX0_learn mlX7_177 im_yX0_learn se_yX0_learn (by decide) C hS (by omega) e_7 (show vwCl[0]? = some _ from rfl) rfl rfl hl.1 rfl (Nat.le_of_ble_eq_true rfl) dX7_tellers_16 ⟨Nat.zero_le _, Nat.zero_le _⟩ (fun g_3 H locs w_4 hS => ?_)
  replace hKp : Kp t B g g_3 := hKp.tr w_4
  refine lv_aload_n C.x C.b dX7_tellers_19 rfl (lv_at hl 0 rfl) ?_
  obtain ⟨v_9, e_10⟩ := hKp.2.1
  refine r_get ck7 flX7_12 C hS (by omega) e_10 (by decide) rfl dX7_tellers_20 ?_
  have e_11 : g_3 1 = .inr (3, [.ref (B + (1 + 1)), .ref (B + (1 + 2)), .ref (B + (1 + 3)), .int (nI n)]) := (hKp.1 _ (by omega)).trans p0
  have e_12 : g_3 (1 + 1) = .inl (t.1, 8, .inl o) := (hKp.1 _ (by omega)).trans p1
  have e_13 : g_3 (1 + 2) = .inl (t.1, 8, .inl pr) := (hKp.1 _ (by omega)).trans p2
  have e_14 : g_3 (1 + 3) = .inl (t.1, 8, .inl w) := (hKp.1 _ (by omega)).trans p3
  refine r_callV (b := 1) (As := []) (rest := []) (c_X3_allPlaces l D t B N g_3 1 _ _ _ _ (by omega) ⟨e_11, e_12, e_13, e_14⟩) mf_yX3_allPlaces mlX7_193 im_yX3_allPlaces se_yX3_allPlaces (by decide) C hS (by omega) e_11 (show vwCl[3]? = some _ from rfl) rfl rfl hl.1 rfl (Nat.le_of_ble_eq_true rfl) dX7_tellers_23 ⟨Nat.zero_le _, Nat.zero_le _⟩ (fun r_17 g_15 H locs w_16 hS => ?_)
  obtain ⟨rfl, er_17⟩ := w_16
  subst er_17
  obtain ⟨M, hM, eM⟩ := al1 hn
  refine r_top (y := nI M) eM ?_
  refine lv_istore_n (lv' := [(1, .int (nI M)), (0, .ref (B + 0))]) C.x C.b dX7_tellers_26 rfl hl (by decide) rfl (fun ls hl => ?_)
  refine lv_iconst (v := 0) C.x C.b dX7_tellers_27 (by decide) ?_
  refine lv_istore_n (lv' := [(2, .int 0), (1, .int (nI M)), (0, .ref (B + 0))]) C.x C.b dX7_tellers_28 rfl hl (by decide) rfl (fun ls hl => ?_)
  refine lv_iconst (v := 0) C.x C.b dX7_tellers_29 (by decide) ?_
  refine lv_istore_n (lv' := [(3, .int 0), (2, .int 0), (1, .int (nI M)), (0, .ref (B + 0))]) C.x C.b dX7_tellers_30 rfl hl (by decide) rfl (fun ls hl => ?_)
  have lp_18 : ∀ (u_19 k_20 : Nat) (b_24 : Int32) (g_23 : Nat → va_E) (H : Heap) (locs : List Loc) (ls : Array Slot), k_20 + u_19 = n → Kp t B g g_23 → St D B s.heap N g_23 H locs → lv_has ls 4 [(1, .int (nI M)), (0, .ref (B + 0)), (2, .int b_24), (3, .int (nI k_20))] → W p l e (rmOf 6 157 0 0) s m [.ref (B + 0)].toArray below meth c H locs 0 0 (MQ below (qI D B N (fun r g' => Kp t B g g')) [.ref (B + 0)].toArray s 0 0 (fun q => B ≤ q)) (F0 m 31 ls []) := by
    intro u_19
    induction u_19 with
    | zero =>
      intro k_20 b_24 g_23 H locs ls hk_21 hKp hS hl
      obtain rfl : n = k_20 := by omega
      refine lv_iload_n C.x C.b dX7_tellers_31 rfl (lv_at hl 3 rfl) ?_
      refine lv_aload_n C.x C.b dX7_tellers_32 rfl (lv_at hl 1 rfl) ?_
      obtain ⟨v_25, e_26⟩ := hKp.2.1
      refine r_get ck7 flX7_12 C hS (by omega) e_26 (by decide) rfl dX7_tellers_33 ?_
      have e_27 : g_23 1 = .inr (3, [.ref (B + (1 + 1)), .ref (B + (1 + 2)), .ref (B + (1 + 3)), .int (nI n)]) := (hKp.1 _ (by omega)).trans p0
      refine r_get ck3 flX7_69 C hS (by omega) e_27 (by decide) rfl dX7_tellers_36 ?_
      refine lv_icmp_ge (tgt := 72) C.x C.b dX7_tellers_39 (by decide) (fun c_28 => ?_) (fun c_28 => absurd (nI_le (Nat.le_refl _) (by omega)) c_28)
      refine lv_iload_n C.x C.b dX7_tellers_72 rfl (lv_at hl 2 rfl) ?_
      exact r_iret C hr hlocks hS hKp dX7_tellers_73
    | succ u_19 ih_22 =>
      intro k_20 b_24 g_23 H locs ls hk_21 hKp hS hl
      refine lv_iload_n C.x C.b dX7_tellers_31 rfl (lv_at hl 3 rfl) ?_
      refine lv_aload_n C.x C.b dX7_tellers_32 rfl (lv_at hl 1 rfl) ?_
      obtain ⟨v_29, e_30⟩ := hKp.2.1
      refine r_get ck7 flX7_12 C hS (by omega) e_30 (by decide) rfl dX7_tellers_33 ?_
      have e_31 : g_23 1 = .inr (3, [.ref (B + (1 + 1)), .ref (B + (1 + 2)), .ref (B + (1 + 3)), .int (nI n)]) := (hKp.1 _ (by omega)).trans p0
      refine r_get ck3 flX7_69 C hS (by omega) e_31 (by decide) rfl dX7_tellers_36 ?_
      refine lv_icmp_ge (tgt := 72) C.x C.b dX7_tellers_39 (by decide) (fun c_32 => absurd c_32 (nI_ge (a := k_20) (b := n) (by omega) (by omega))) (fun c_32 => ?_)
      refine lv_aload_n C.x C.b dX7_tellers_42 rfl (lv_at hl 1 rfl) ?_
      refine r_get ck7 flX7_57 C hS (by omega) e_30 (by decide) rfl dX7_tellers_43 ?_
      obtain ⟨v_33, e_34, hz_35⟩ := hKp.2.2.2.2.2.2.2.2.1
      refine r_get ck0 flX7_196 C hS (by omega) e_34 (by decide) rfl dX7_tellers_46 ?_
      refine lv_iload_n C.x C.b dX7_tellers_49 rfl (lv_at hl 0 rfl) ?_
      refine lv_iconst (v := 1) C.x C.b dX7_tellers_50 (by decide) ?_
      refine lv_iload_n C.x C.b dX7_tellers_51 rfl (lv_at hl 3 rfl) ?_
      refine lv_ishl C.x C.b dX7_tellers_52 ?_
      refine lv_iconst (v := (-1)) C.x C.b dX7_tellers_53 (by decide) ?_
      refine lv_ixor C.x C.b dX7_tellers_54 ?_
      refine lv_iand C.x C.b dX7_tellers_55 ?_
      obtain ⟨q_36, e_37, hz_38⟩ := hKp.2.2.2.2.2.2.2.2.2
      refine r_zaldN (an M ((1 <<< ((nI k_20) &&& 31)) ^^^ (-1))) (an_eq _ _) (Nat.lt_of_le_of_lt (an_le _ _) (by omega)) (by decide) C hS (by omega) e_37 dX7_tellers_56 ?_
      refine lv_if_ne (tgt := 66) C.x C.b dX7_tellers_57 (by decide) (fun c_39 => ?_) (fun c_39 => ?_)
      · skip
        refine lv_iinc (v := nI (k_20 + 1)) (lv' := [(3, .int (nI (k_20 + 1))), (1, .int (nI M)), (0, .ref (B + 0)), (2, .int b_24)]) C.x C.b dX7_tellers_66 hl (k := 3) rfl (nI_1 k_20) (by decide) rfl (fun ls hl => ?_)
        refine lv_goto (tgt := 31) C.x C.b dX7_tellers_69 (by decide) ?_
        exact ih_22 (k_20 + 1) b_24 g_23 _ _ _ (by omega)  hKp hS (lv_sub hl [1, 2, 3, 0] rfl)
      · skip
        refine lv_iload_n C.x C.b dX7_tellers_60 rfl (lv_at hl 2 rfl) ?_
        refine lv_iconst (v := 1) C.x C.b dX7_tellers_61 (by decide) ?_
        refine lv_iload_n C.x C.b dX7_tellers_62 rfl (lv_at hl 3 rfl) ?_
        refine lv_ishl C.x C.b dX7_tellers_63 ?_
        refine lv_ior C.x C.b dX7_tellers_64 ?_
        refine lv_istore_n (lv' := [(2, .int (b_24 ||| (1 <<< ((nI k_20) &&& 31)))), (1, .int (nI M)), (0, .ref (B + 0)), (3, .int (nI k_20))]) C.x C.b dX7_tellers_65 rfl hl (by decide) rfl (fun ls hl => ?_)
        refine lv_iinc (v := nI (k_20 + 1)) (lv' := [(3, .int (nI (k_20 + 1))), (2, .int (b_24 ||| (1 <<< ((nI k_20) &&& 31)))), (1, .int (nI M)), (0, .ref (B + 0))]) C.x C.b dX7_tellers_66 hl (k := 3) rfl (nI_1 k_20) (by decide) rfl (fun ls hl => ?_)
        refine lv_goto (tgt := 31) C.x C.b dX7_tellers_69 (by decide) ?_
        exact ih_22 (k_20 + 1) (b_24 ||| (1 <<< ((nI k_20) &&& 31))) g_23 _ _ _ (by omega)  hKp hS (lv_sub hl [2, 3, 1, 0] rfl)
  exact lp_18 n 0 0 g_3 _ _ _ (by omega)  hKp hS (lv_sub hl [2, 3, 1, 0] rfl)
set_option maxHeartbeats 1000000 in
set_option maxRecDepth 100000 in
theorem k_X7_seen (l : Launch) (D : va_G) (t : Gx) (B N : Nat) (g : Nat → va_E) (o pr w : Nat → Int32) (n : Nat) (ey wi ev : Int32) (x y z v : Int32) (hN : 220 ≤ N) (hP : isProg t B g 1 o pr w n) (hn : n ≤ 8) (hW : isWat g 5 ey wi ev) (hScr : Scr t B g)  : Ci l D t B N yX7_seen cX7_seen 5 (some .int) 5 127 g [.ref (B + 0), .int x, .int y, .int z, .int v] (fun r g' => Kp t B g g') := by
  refine Ci.start (by decide) (Nat.le_of_ble_eq_true rfl) ?_
  intro p e s m below meth c ls C hr hlocks hS hl
  replace C : Cx D t p s m [.ref (B + 0), .int x, .int y, .int z, .int v].toArray c cX7_seen 5 RX7 := C
  replace hl : lv_has ls 5 [(0, .ref (B + 0)), (1, .int x), (2, .int y), (3, .int z), (4, .int v)] := hl
  obtain ⟨p0, p1, p2, p3⟩ := id hP
  have hKp : Kp t B g g := Kp.rf hScr
  refine lv_iload_n C.x C.b dX7_seen_0 rfl (lv_at hl 1 rfl) ?_
  refine r_callS (As := [.int x]) (rest := []) (c_X7_isInput l D t B N g x) mf_yX7_isInput mlX7_116 sm_yX7_isInput (by decide) C hS rfl hl.1 rfl (Nat.le_of_ble_eq_true rfl) dX7_seen_1 ⟨Nat.zero_le _, Nat.zero_le _⟩ (fun r_3 g_1 H locs w_2 hS => ?_)
  obtain ⟨rfl, er_3⟩ := w_2
  by_cases b_4 : inP 16 x
  · rw [bz_t b_4] at er_3
    subst er_3
    refine lv_if_eq (tgt := 25) C.x C.b dX7_seen_4 (by decide) (fun c_5 => absurd c_5 (by decide)) (fun c_5 => ?_)
    refine lv_iload_n C.x C.b dX7_seen_7 rfl (lv_at hl 2 rfl) ?_
    refine r_callS (As := [.int y]) (rest := []) (c_X7_isInput l D t B N g y) mf_yX7_isInput mlX7_116 sm_yX7_isInput (by decide) C hS rfl hl.1 rfl (Nat.le_of_ble_eq_true rfl) dX7_seen_8 ⟨Nat.zero_le _, Nat.zero_le _⟩ (fun r_8 g_6 H locs w_7 hS => ?_)
    obtain ⟨rfl, er_8⟩ := w_7
    by_cases b_9 : inP 16 y
    · rw [bz_t b_9] at er_8
      subst er_8
      refine lv_if_eq (tgt := 25) C.x C.b dX7_seen_11 (by decide) (fun c_10 => absurd c_10 (by decide)) (fun c_10 => ?_)
      refine lv_iload C.x C.b dX7_seen_14 (lv_at hl 4 rfl) ?_
      refine lv_if_lt (tgt := 25) C.x C.b dX7_seen_16 (by decide) (fun c_11 => ?_) (fun c_11 => ?_)
      · skip
        refine lv_sipush (v := (-1001)) C.x C.b dX7_seen_25 (by decide) ?_
        exact r_iret C hr hlocks hS hKp dX7_seen_28
      · skip
        refine lv_iload C.x C.b dX7_seen_19 (lv_at hl 4 rfl) ?_
        refine lv_iconst (v := 2) C.x C.b dX7_seen_21 (by decide) ?_
        refine lv_icmp_le (tgt := 29) C.x C.b dX7_seen_22 (by decide) (fun c_12 => ?_) (fun c_12 => ?_)
        · skip
          refine lv_aload_n C.x C.b dX7_seen_29 rfl (lv_at hl 0 rfl) ?_
          refine lv_aload_n C.x C.b dX7_seen_30 rfl (lv_at hl 0 rfl) ?_
          obtain ⟨v_13, e_14⟩ := hKp.2.1
          refine r_get ck7 flX7_40 C hS (by omega) e_14 (by decide) rfl dX7_seen_31 ?_
          refine lv_iload_n C.x C.b dX7_seen_34 rfl (lv_at hl 1 rfl) ?_
          refine lv_iload_n C.x C.b dX7_seen_35 rfl (lv_at hl 2 rfl) ?_
          refine r_callVv (b := 0) (As := [.ref (B + 15), .int x, .int y]) (rest := []) (k_X7_fillRow l D t B N g _ _ _ _ _ _ _ 15 x y (by omega) ⟨p0, p1, p2, p3⟩ (by omega) hW hKp.2 (Or.inl rfl) (by omega)) mf_yX7_fillRow mlX7_119 im_yX7_fillRow se_yX7_fillRow (by decide) C hS (by omega) e_14 (show vwCl[7]? = some _ from rfl) rfl rfl hl.1 rfl (Nat.le_of_ble_eq_true rfl) dX7_seen_36 ⟨Nat.zero_le _, Nat.zero_le _⟩ (fun g_15 H locs w_16 hS => ?_)
          replace hKp : Kp t B g g_15 := hKp.tr w_16
          refine lv_aload_n C.x C.b dX7_seen_39 rfl (lv_at hl 0 rfl) ?_
          obtain ⟨v_18, e_19⟩ := hKp.2.1
          refine r_get ck7 flX7_40 C hS (by omega) e_19 (by decide) rfl dX7_seen_40 ?_
          refine lv_iload_n C.x C.b dX7_seen_43 rfl (lv_at hl 3 rfl) ?_
          obtain ⟨q_20, q_21, q_22, q_23, ⟨e_24, e_25, e_26, e_27⟩, hl_28⟩ := hKp.2.2.2.2.1 15 (Or.inl rfl)
          refine r_callV (b := 15) (As := [.int z]) (rest := []) (c_X4_has l D t B N g_15 15 _ _ _ _ z (by omega) ⟨e_24, e_25, e_26, e_27⟩) mf_yX4_has mlX7_139 im_yX4_has se_yX4_has (by decide) C hS (by omega) e_24 (show vwCl[4]? = some _ from rfl) rfl rfl hl.1 rfl (Nat.le_of_ble_eq_true rfl) dX7_seen_44 ⟨Nat.zero_le _, Nat.zero_le _⟩ (fun r_31 g_29 H locs w_30 hS => ?_)
          obtain ⟨rfl, er_31⟩ := w_30
          by_cases b_32 : inP q_23 z
          · rw [bz_t b_32] at er_31
            subst er_31
            obtain ⟨q_33, hq_34, rfl⟩ := inP_nI b_32 (by omega)
            refine lv_if_ne (tgt := 54) C.x C.b dX7_seen_47 (by decide) (fun c_35 => ?_) (fun c_35 => absurd c_35 (by decide))
            refine lv_iload C.x C.b dX7_seen_54 (lv_at hl 4 rfl) ?_
            by_cases h_36 : v = 0
            · refine lv_lookup (off := 28) (tgt := 84) C.x C.b dX7_seen_56 (by decide) (by rw [h_36]; decide) (by decide) ?_
              refine lv_aload_n C.x C.b dX7_seen_84 rfl (lv_at hl 0 rfl) ?_
              refine r_get ck7 flX7_40 C hS (by omega) e_19 (by decide) rfl dX7_seen_85 ?_
              refine r_get ck4 flX7_140 C hS (by omega) e_24 (by decide) rfl dX7_seen_88 ?_
              refine lv_iload_n C.x C.b dX7_seen_91 rfl (lv_at hl 3 rfl) ?_
              refine r_ialdN q_33 rfl (by omega) (by decide) C hS (by omega) e_25 dX7_seen_92 ?_
              exact r_iret C hr hlocks hS hKp dX7_seen_93
            by_cases h_37 : v = 1
            · refine lv_lookup (off := 38) (tgt := 94) C.x C.b dX7_seen_56 (by decide) (by rw [h_37]; decide) (by decide) ?_
              refine lv_aload_n C.x C.b dX7_seen_94 rfl (lv_at hl 0 rfl) ?_
              refine r_get ck7 flX7_40 C hS (by omega) e_19 (by decide) rfl dX7_seen_95 ?_
              refine r_get ck4 flX7_143 C hS (by omega) e_24 (by decide) rfl dX7_seen_98 ?_
              refine lv_iload_n C.x C.b dX7_seen_101 rfl (lv_at hl 3 rfl) ?_
              refine r_ialdN q_33 rfl (by omega) (by decide) C hS (by omega) e_26 dX7_seen_102 ?_
              exact r_iret C hr hlocks hS hKp dX7_seen_103
            refine lv_lookup (off := 48) (tgt := 104) C.x C.b dX7_seen_56 (by decide) (by show Op.lookupswitch.offset [(0, 28), (1, 38)] 48 _ = 48; rw [lv_osw h_36 (by decide), lv_osw h_37 (by decide)]; rfl) (by decide) ?_
            refine lv_aload_n C.x C.b dX7_seen_104 rfl (lv_at hl 0 rfl) ?_
            refine r_get ck7 flX7_40 C hS (by omega) e_19 (by decide) rfl dX7_seen_105 ?_
            refine r_get ck4 flX7_146 C hS (by omega) e_24 (by decide) rfl dX7_seen_108 ?_
            refine lv_iload_n C.x C.b dX7_seen_111 rfl (lv_at hl 3 rfl) ?_
            refine r_ialdN q_33 rfl (by omega) (by decide) C hS (by omega) e_27 dX7_seen_112 ?_
            exact r_iret C hr hlocks hS hKp dX7_seen_113
          · rw [bz_f b_32] at er_31
            subst er_31
            refine lv_if_ne (tgt := 54) C.x C.b dX7_seen_47 (by decide) (fun c_38 => absurd (by decide) c_38) (fun c_38 => ?_)
            refine lv_sipush (v := (-1001)) C.x C.b dX7_seen_50 (by decide) ?_
            exact r_iret C hr hlocks hS hKp dX7_seen_53
        · skip
          refine lv_sipush (v := (-1001)) C.x C.b dX7_seen_25 (by decide) ?_
          exact r_iret C hr hlocks hS hKp dX7_seen_28
    · rw [bz_f b_9] at er_8
      subst er_8
      refine lv_if_eq (tgt := 25) C.x C.b dX7_seen_11 (by decide) (fun c_39 => ?_) (fun c_39 => absurd (by decide) c_39)
      refine lv_sipush (v := (-1001)) C.x C.b dX7_seen_25 (by decide) ?_
      exact r_iret C hr hlocks hS hKp dX7_seen_28
  · rw [bz_f b_4] at er_3
    subst er_3
    refine lv_if_eq (tgt := 25) C.x C.b dX7_seen_4 (by decide) (fun c_40 => ?_) (fun c_40 => absurd (by decide) c_40)
    refine lv_sipush (v := (-1001)) C.x C.b dX7_seen_25 (by decide) ?_
    exact r_iret C hr hlocks hS hKp dX7_seen_28
set_option maxHeartbeats 1000000 in
set_option maxRecDepth 100000 in
theorem k_X7_run (l : Launch) (D : va_G) (t : Gx) (B N : Nat) (g : Nat → va_E) (o pr w : Nat → Int32) (n : Nat) (ey wi ev : Int32) (x y z : Int32) (hN : 220 ≤ N) (hP : isProg t B g 1 o pr w n) (hn : n ≤ 8) (hW : isWat g 5 ey wi ev) (hScr : Scr t B g)  : Ci l D t B N yX7_run cX7_run 4 (some .int) 5 127 g [.ref (B + 0), .int x, .int y, .int z] (fun r g' => Kp t B g g') := by
  refine Ci.start (by decide) (Nat.le_of_ble_eq_true rfl) ?_
  intro p e s m below meth c ls C hr hlocks hS hl
  replace C : Cx D t p s m [.ref (B + 0), .int x, .int y, .int z].toArray c cX7_run 4 RX7 := C
  replace hl : lv_has ls 4 [(0, .ref (B + 0)), (1, .int x), (2, .int y), (3, .int z)] := hl
  obtain ⟨p0, p1, p2, p3⟩ := id hP
  have hKp : Kp t B g g := Kp.rf hScr
  refine lv_iload_n C.x C.b dX7_run_0 rfl (lv_at hl 1 rfl) ?_
  refine r_callS (As := [.int x]) (rest := []) (c_X7_isInput l D t B N g x) mf_yX7_isInput mlX7_116 sm_yX7_isInput (by decide) C hS rfl hl.1 rfl (Nat.le_of_ble_eq_true rfl) dX7_run_1 ⟨Nat.zero_le _, Nat.zero_le _⟩ (fun r_3 g_1 H locs w_2 hS => ?_)
  obtain ⟨rfl, er_3⟩ := w_2
  by_cases b_4 : inP 16 x
  · rw [bz_t b_4] at er_3
    subst er_3
    refine lv_if_eq (tgt := 23) C.x C.b dX7_run_4 (by decide) (fun c_5 => absurd c_5 (by decide)) (fun c_5 => ?_)
    refine lv_iload_n C.x C.b dX7_run_7 rfl (lv_at hl 2 rfl) ?_
    refine r_callS (As := [.int y]) (rest := []) (c_X7_isInput l D t B N g y) mf_yX7_isInput mlX7_116 sm_yX7_isInput (by decide) C hS rfl hl.1 rfl (Nat.le_of_ble_eq_true rfl) dX7_run_8 ⟨Nat.zero_le _, Nat.zero_le _⟩ (fun r_8 g_6 H locs w_7 hS => ?_)
    obtain ⟨rfl, er_8⟩ := w_7
    by_cases b_9 : inP 16 y
    · rw [bz_t b_9] at er_8
      subst er_8
      refine lv_if_eq (tgt := 23) C.x C.b dX7_run_11 (by decide) (fun c_10 => absurd c_10 (by decide)) (fun c_10 => ?_)
      refine lv_iload_n C.x C.b dX7_run_14 rfl (lv_at hl 3 rfl) ?_
      refine lv_if_lt (tgt := 23) C.x C.b dX7_run_15 (by decide) (fun c_11 => ?_) (fun c_11 => ?_)
      · skip
        refine lv_sipush (v := (-1001)) C.x C.b dX7_run_23 (by decide) ?_
        exact r_iret C hr hlocks hS hKp dX7_run_26
      · skip
        refine lv_iload_n C.x C.b dX7_run_18 rfl (lv_at hl 3 rfl) ?_
        refine lv_iconst (v := 4) C.x C.b dX7_run_19 (by decide) ?_
        refine lv_icmp_le (tgt := 27) C.x C.b dX7_run_20 (by decide) (fun c_12 => ?_) (fun c_12 => ?_)
        · skip
          refine lv_aload_n C.x C.b dX7_run_27 rfl (lv_at hl 0 rfl) ?_
          refine lv_aload_n C.x C.b dX7_run_28 rfl (lv_at hl 0 rfl) ?_
          obtain ⟨v_13, e_14⟩ := hKp.2.1
          refine r_get ck7 flX7_40 C hS (by omega) e_14 (by decide) rfl dX7_run_29 ?_
          refine lv_iload_n C.x C.b dX7_run_32 rfl (lv_at hl 1 rfl) ?_
          refine lv_iload_n C.x C.b dX7_run_33 rfl (lv_at hl 2 rfl) ?_
          refine r_callVv (b := 0) (As := [.ref (B + 15), .int x, .int y]) (rest := []) (k_X7_fillRow l D t B N g _ _ _ _ _ _ _ 15 x y (by omega) ⟨p0, p1, p2, p3⟩ (by omega) hW hKp.2 (Or.inl rfl) (by omega)) mf_yX7_fillRow mlX7_119 im_yX7_fillRow se_yX7_fillRow (by decide) C hS (by omega) e_14 (show vwCl[7]? = some _ from rfl) rfl rfl hl.1 rfl (Nat.le_of_ble_eq_true rfl) dX7_run_34 ⟨Nat.zero_le _, Nat.zero_le _⟩ (fun g_15 H locs w_16 hS => ?_)
          replace hKp : Kp t B g g_15 := hKp.tr w_16
          refine lv_iload_n C.x C.b dX7_run_37 rfl (lv_at hl 3 rfl) ?_
          by_cases h_18 : z = 0
          · refine lv_tableIn (off := 30) (tgt := 68) C.x C.b dX7_run_38 (by rw [h_18]; decide) (by rw [h_18]; decide) (by rw [h_18]; rfl) (by decide) ?_
            refine lv_aload_n C.x C.b dX7_run_68 rfl (lv_at hl 0 rfl) ?_
            obtain ⟨v_19, e_20⟩ := hKp.2.1
            refine r_get ck7 flX7_33 C hS (by omega) e_20 (by decide) rfl dX7_run_69 ?_
            obtain ⟨q_21, q_22, q_23, q_24, q_25, q_26, q_27, q_28, q_29, q_30, ⟨e_31, e_32, e_33, e_34, e_35, e_36⟩, hl_37, hs_38⟩ := hKp.2.2.2.1 9 (Or.inl rfl)
            refine r_get ck5 flX7_123 C hS (by omega) e_31 (by decide) rfl dX7_run_72 ?_
            exact r_iret C hr hlocks hS hKp dX7_run_75
          by_cases h_39 : z = 1
          · refine lv_tableIn (off := 38) (tgt := 76) C.x C.b dX7_run_38 (by rw [h_39]; decide) (by rw [h_39]; decide) (by rw [h_39]; rfl) (by decide) ?_
            refine lv_aload_n C.x C.b dX7_run_76 rfl (lv_at hl 0 rfl) ?_
            obtain ⟨v_40, e_41⟩ := hKp.2.1
            refine r_get ck7 flX7_33 C hS (by omega) e_41 (by decide) rfl dX7_run_77 ?_
            refine lv_aload_n C.x C.b dX7_run_80 rfl (lv_at hl 0 rfl) ?_
            refine r_get ck7 flX7_19 C hS (by omega) e_41 (by decide) rfl dX7_run_81 ?_
            have e_42 : g_15 5 = .inr (6, [.int ey, .int wi, .int ev]) := (hKp.1 _ (by omega)).trans hW
            refine r_get ck6 flX7_89 C hS (by omega) e_42 (by decide) rfl dX7_run_84 ?_
            obtain ⟨q_43, q_44, q_45, q_46, q_47, q_48, q_49, q_50, q_51, q_52, ⟨e_53, e_54, e_55, e_56, e_57, e_58⟩, hl_59, hs_60⟩ := hKp.2.2.2.1 9 (Or.inl rfl)
            refine r_callV (b := 9) (As := [.int ev]) (rest := []) (c_X5_costWith l D t B N g_15 9 _ _ _ _ _ _ _ _ _ _ ev (by omega) ⟨e_53, e_54, e_55, e_56, e_57, e_58⟩) mf_yX5_costWith mlX7_126 im_yX5_costWith se_yX5_costWith (by decide) C hS (by omega) e_53 (show vwCl[5]? = some _ from rfl) rfl rfl hl.1 rfl (Nat.le_of_ble_eq_true rfl) dX7_run_87 ⟨Nat.zero_le _, Nat.zero_le _⟩ (fun r_63 g_61 H locs w_62 hS => ?_)
            obtain ⟨rfl, er_63⟩ := w_62
            subst er_63
            exact r_iret C hr hlocks hS hKp dX7_run_90
          by_cases h_64 : z = 2
          · refine lv_tableIn (off := 53) (tgt := 91) C.x C.b dX7_run_38 (by rw [h_64]; decide) (by rw [h_64]; decide) (by rw [h_64]; rfl) (by decide) ?_
            refine lv_aload_n C.x C.b dX7_run_91 rfl (lv_at hl 0 rfl) ?_
            obtain ⟨v_65, e_66⟩ := hKp.2.1
            refine r_get ck7 flX7_33 C hS (by omega) e_66 (by decide) rfl dX7_run_92 ?_
            obtain ⟨q_67, q_68, q_69, q_70, q_71, q_72, q_73, q_74, q_75, q_76, ⟨e_77, e_78, e_79, e_80, e_81, e_82⟩, hl_83, hs_84⟩ := hKp.2.2.2.1 9 (Or.inl rfl)
            refine r_get ck5 flX7_129 C hS (by omega) e_77 (by decide) rfl dX7_run_95 ?_
            exact r_iret C hr hlocks hS hKp dX7_run_98
          by_cases h_85 : z = 3
          · refine lv_tableIn (off := 61) (tgt := 99) C.x C.b dX7_run_38 (by rw [h_85]; decide) (by rw [h_85]; decide) (by rw [h_85]; rfl) (by decide) ?_
            refine lv_aload_n C.x C.b dX7_run_99 rfl (lv_at hl 0 rfl) ?_
            obtain ⟨v_86, e_87⟩ := hKp.2.1
            refine r_get ck7 flX7_33 C hS (by omega) e_87 (by decide) rfl dX7_run_100 ?_
            obtain ⟨q_88, q_89, q_90, q_91, q_92, q_93, q_94, q_95, q_96, q_97, ⟨e_98, e_99, e_100, e_101, e_102, e_103⟩, hl_104, hs_105⟩ := hKp.2.2.2.1 9 (Or.inl rfl)
            refine r_get ck5 flX7_132 C hS (by omega) e_98 (by decide) rfl dX7_run_103 ?_
            refine lv_if_eq (tgt := 113) C.x C.b dX7_run_106 (by decide) (fun c_106 => ?_) (fun c_106 => ?_)
            · skip
              refine lv_iconst (v := 0) C.x C.b dX7_run_113 (by decide) ?_
              exact r_iret C hr hlocks hS hKp dX7_run_114
            · skip
              refine lv_iconst (v := 1) C.x C.b dX7_run_109 (by decide) ?_
              refine lv_goto (tgt := 114) C.x C.b dX7_run_110 (by decide) ?_
              exact r_iret C hr hlocks hS hKp dX7_run_114
          refine lv_tableOut (tgt := 115) C.x C.b dX7_run_38 (sw_out_0_3 h_18 h_39 h_64 h_85) (by decide) ?_
          refine lv_aload_n C.x C.b dX7_run_115 rfl (lv_at hl 0 rfl) ?_
          obtain ⟨v_107, e_108⟩ := hKp.2.1
          refine r_get ck7 flX7_40 C hS (by omega) e_108 (by decide) rfl dX7_run_116 ?_
          obtain ⟨q_109, q_110, q_111, q_112, ⟨e_113, e_114, e_115, e_116⟩, hl_117⟩ := hKp.2.2.2.2.1 15 (Or.inl rfl)
          refine r_get ck4 flX7_136 C hS (by omega) e_113 (by decide) rfl dX7_run_119 ?_
          exact r_iret C hr hlocks hS hKp dX7_run_122
        · skip
          refine lv_sipush (v := (-1001)) C.x C.b dX7_run_23 (by decide) ?_
          exact r_iret C hr hlocks hS hKp dX7_run_26
    · rw [bz_f b_9] at er_8
      subst er_8
      refine lv_if_eq (tgt := 23) C.x C.b dX7_run_11 (by decide) (fun c_118 => ?_) (fun c_118 => absurd (by decide) c_118)
      refine lv_sipush (v := (-1001)) C.x C.b dX7_run_23 (by decide) ?_
      exact r_iret C hr hlocks hS hKp dX7_run_26
  · rw [bz_f b_4] at er_3
    subst er_3
    refine lv_if_eq (tgt := 23) C.x C.b dX7_run_4 (by decide) (fun c_119 => ?_) (fun c_119 => absurd (by decide) c_119)
    refine lv_sipush (v := (-1001)) C.x C.b dX7_run_23 (by decide) ?_
    exact r_iret C hr hlocks hS hKp dX7_run_26
end
