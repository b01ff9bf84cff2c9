section
-- ===== PART A: goes FIRST, ahead of the names: the tables' words, and 'selects' of the private methods out of them =====
/-- a private method of a class that the tables say can be made, by its rows of tables_1 -/
def lw_okq (q : MethodName × Nat) : Prop := (q.1.cls ≠ "java/lang/invoke/MethodHandle" ∧ q.1.cls ≠ "java/lang/invoke/VarHandle") ∧ Cond.instantiable q.1.cls q.2 ∈ tables_1 ∧ Cond.privateMethod q.1 ∈ tables_1 ∧ Cond.instanceMethod q.1 ∈ tables_1
theorem lw_p0 : lw_okq (⟨"LendingDisk", "recorded", "(I)I"⟩, 7) := ⟨⟨by decide +kernel, by decide +kernel⟩, List.mem_of_getElem? (i := 10) (by decide +kernel), List.mem_of_getElem? (i := 175) (by decide +kernel), List.mem_of_getElem? (i := 176) (by decide +kernel)⟩
theorem lw_p1 : lw_okq (⟨"LendingDisk$History", "slotBehind", "(I)LLendingDisk$Disk;"⟩, 3) := ⟨⟨by decide +kernel, by decide +kernel⟩, List.mem_of_getElem? (i := 73) (by decide +kernel), List.mem_of_getElem? (i := 183) (by decide +kernel), List.mem_of_getElem? (i := 184) (by decide +kernel)⟩
theorem lw_p2 : lw_okq (⟨"LendingDisk$Disk", "giveBack", "(I)I"⟩, 10) := ⟨⟨by decide +kernel, by decide +kernel⟩, List.mem_of_getElem? (i := 18) (by decide +kernel), List.mem_of_getElem? (i := 216) (by decide +kernel), List.mem_of_getElem? (i := 217) (by decide +kernel)⟩
theorem lw_p3 : lw_okq (⟨"LendingDisk$Disk", "freeFrom", "(II)V"⟩, 10) := ⟨⟨by decide +kernel, by decide +kernel⟩, List.mem_of_getElem? (i := 18) (by decide +kernel), List.mem_of_getElem? (i := 225) (by decide +kernel), List.mem_of_getElem? (i := 226) (by decide +kernel)⟩
theorem lw_p4 : lw_okq (⟨"LendingDisk$Disk", "takeBack", "(II)V"⟩, 10) := ⟨⟨by decide +kernel, by decide +kernel⟩, List.mem_of_getElem? (i := 18) (by decide +kernel), List.mem_of_getElem? (i := 265) (by decide +kernel), List.mem_of_getElem? (i := 266) (by decide +kernel)⟩
theorem lw_p5 : lw_okq (⟨"LendingDisk$Disk", "greatestLender", "(I)I"⟩, 10) := ⟨⟨by decide +kernel, by decide +kernel⟩, List.mem_of_getElem? (i := 18) (by decide +kernel), List.mem_of_getElem? (i := 273) (by decide +kernel), List.mem_of_getElem? (i := 274) (by decide +kernel)⟩
theorem lw_p6 : lw_okq (⟨"LendingDisk$Disk", "lengthen", "(II)V"⟩, 10) := ⟨⟨by decide +kernel, by decide +kernel⟩, List.mem_of_getElem? (i := 18) (by decide +kernel), List.mem_of_getElem? (i := 277) (by decide +kernel), List.mem_of_getElem? (i := 278) (by decide +kernel)⟩
theorem lw_p7 : lw_okq (⟨"LendingDisk$Disk", "addFrom", "(III)I"⟩, 10) := ⟨⟨by decide +kernel, by decide +kernel⟩, List.mem_of_getElem? (i := 18) (by decide +kernel), List.mem_of_getElem? (i := 288) (by decide +kernel), List.mem_of_getElem? (i := 289) (by decide +kernel)⟩
theorem lw_p8 : lw_okq (⟨"LendingDisk$Disk", "chosenRun", "(I)I"⟩, 10) := ⟨⟨by decide +kernel, by decide +kernel⟩, List.mem_of_getElem? (i := 18) (by decide +kernel), List.mem_of_getElem? (i := 292) (by decide +kernel), List.mem_of_getElem? (i := 293) (by decide +kernel)⟩
theorem lw_p9 : lw_okq (⟨"LendingDisk$Disk", "isBetter", "(III)Z"⟩, 10) := ⟨⟨by decide +kernel, by decide +kernel⟩, List.mem_of_getElem? (i := 18) (by decide +kernel), List.mem_of_getElem? (i := 300) (by decide +kernel), List.mem_of_getElem? (i := 301) (by decide +kernel)⟩
theorem lw_p10 : lw_okq (⟨"LendingDisk$Disk", "write", "(III)V"⟩, 10) := ⟨⟨by decide +kernel, by decide +kernel⟩, List.mem_of_getElem? (i := 18) (by decide +kernel), List.mem_of_getElem? (i := 304) (by decide +kernel), List.mem_of_getElem? (i := 305) (by decide +kernel)⟩
theorem lw_p11 : lw_okq (⟨"LendingDisk$Disk", "isPart", "(IIII)Z"⟩, 10) := ⟨⟨by decide +kernel, by decide +kernel⟩, List.mem_of_getElem? (i := 18) (by decide +kernel), List.mem_of_getElem? (i := 308) (by decide +kernel), List.mem_of_getElem? (i := 309) (by decide +kernel)⟩
theorem lw_p12 : lw_okq (⟨"LendingDisk$Disk", "beginsExtent", "(I)Z"⟩, 10) := ⟨⟨by decide +kernel, by decide +kernel⟩, List.mem_of_getElem? (i := 18) (by decide +kernel), List.mem_of_getElem? (i := 316) (by decide +kernel), List.mem_of_getElem? (i := 317) (by decide +kernel)⟩
theorem lw_p13 : lw_okq (⟨"LendingDisk$Order", "takesLetter", "(I)Z"⟩, 5) := ⟨⟨by decide +kernel, by decide +kernel⟩, List.mem_of_getElem? (i := 107) (by decide +kernel), List.mem_of_getElem? (i := 394) (by decide +kernel), List.mem_of_getElem? (i := 395) (by decide +kernel)⟩
theorem lw_p14 : lw_okq (⟨"LendingDisk$Order", "takesFile", "(I)Z"⟩, 5) := ⟨⟨by decide +kernel, by decide +kernel⟩, List.mem_of_getElem? (i := 107) (by decide +kernel), List.mem_of_getElem? (i := 398) (by decide +kernel), List.mem_of_getElem? (i := 399) (by decide +kernel)⟩
theorem lw_p15 : lw_okq (⟨"LendingDisk$Order", "takesMark", "(III)Z"⟩, 5) := ⟨⟨by decide +kernel, by decide +kernel⟩, List.mem_of_getElem? (i := 107) (by decide +kernel), List.mem_of_getElem? (i := 402) (by decide +kernel), List.mem_of_getElem? (i := 403) (by decide +kernel)⟩
def lw_privs_1 : List (MethodName × Nat) := [(⟨"LendingDisk", "recorded", "(I)I"⟩, 7), (⟨"LendingDisk$History", "slotBehind", "(I)LLendingDisk$Disk;"⟩, 3), (⟨"LendingDisk$Disk", "giveBack", "(I)I"⟩, 10), (⟨"LendingDisk$Disk", "freeFrom", "(II)V"⟩, 10), (⟨"LendingDisk$Disk", "takeBack", "(II)V"⟩, 10), (⟨"LendingDisk$Disk", "greatestLender", "(I)I"⟩, 10), (⟨"LendingDisk$Disk", "lengthen", "(II)V"⟩, 10), (⟨"LendingDisk$Disk", "addFrom", "(III)I"⟩, 10), (⟨"LendingDisk$Disk", "chosenRun", "(I)I"⟩, 10), (⟨"LendingDisk$Disk", "isBetter", "(III)Z"⟩, 10), (⟨"LendingDisk$Disk", "write", "(III)V"⟩, 10), (⟨"LendingDisk$Disk", "isPart", "(IIII)Z"⟩, 10), (⟨"LendingDisk$Disk", "beginsExtent", "(I)Z"⟩, 10), (⟨"LendingDisk$Order", "takesLetter", "(I)Z"⟩, 5), (⟨"LendingDisk$Order", "takesFile", "(I)Z"⟩, 5), (⟨"LendingDisk$Order", "takesMark", "(III)Z"⟩, 5)]
theorem lw_r1 : ∀ q ∈ lw_privs_1, lw_okq q := List.forall_mem_cons.mpr ⟨lw_p0, List.forall_mem_cons.mpr ⟨lw_p1, List.forall_mem_cons.mpr ⟨lw_p2, List.forall_mem_cons.mpr ⟨lw_p3, List.forall_mem_cons.mpr ⟨lw_p4, List.forall_mem_cons.mpr ⟨lw_p5, List.forall_mem_cons.mpr ⟨lw_p6, List.forall_mem_cons.mpr ⟨lw_p7, List.forall_mem_cons.mpr ⟨lw_p8, List.forall_mem_cons.mpr ⟨lw_p9, List.forall_mem_cons.mpr ⟨lw_p10, List.forall_mem_cons.mpr ⟨lw_p11, List.forall_mem_cons.mpr ⟨lw_p12, List.forall_mem_cons.mpr ⟨lw_p13, List.forall_mem_cons.mpr ⟨lw_p14, List.forall_mem_cons.mpr ⟨lw_p15, fun _ h => absurd h List.not_mem_nil⟩⟩⟩⟩⟩⟩⟩⟩⟩⟩⟩⟩⟩⟩⟩⟩
theorem lw_p16 : lw_okq (⟨"LendingDisk$Order", "takesFirst", "(I)Z"⟩, 5) := ⟨⟨by decide +kernel, by decide +kernel⟩, List.mem_of_getElem? (i := 107) (by decide +kernel), List.mem_of_getElem? (i := 406) (by decide +kernel), List.mem_of_getElem? (i := 407) (by decide +kernel)⟩
theorem lw_p17 : lw_okq (⟨"LendingDisk$Order", "takesMoreOfFirst", "(I)Z"⟩, 5) := ⟨⟨by decide +kernel, by decide +kernel⟩, List.mem_of_getElem? (i := 107) (by decide +kernel), List.mem_of_getElem? (i := 410) (by decide +kernel), List.mem_of_getElem? (i := 411) (by decide +kernel)⟩
theorem lw_p18 : lw_okq (⟨"LendingDisk$Order", "takesSecond", "(I)Z"⟩, 5) := ⟨⟨by decide +kernel, by decide +kernel⟩, List.mem_of_getElem? (i := 107) (by decide +kernel), List.mem_of_getElem? (i := 417) (by decide +kernel), List.mem_of_getElem? (i := 418) (by decide +kernel)⟩
theorem lw_p19 : lw_okq (⟨"LendingDisk$Order", "takesMoreOfSecond", "(I)Z"⟩, 5) := ⟨⟨by decide +kernel, by decide +kernel⟩, List.mem_of_getElem? (i := 107) (by decide +kernel), List.mem_of_getElem? (i := 421) (by decide +kernel), List.mem_of_getElem? (i := 422) (by decide +kernel)⟩
theorem lw_p20 : lw_okq (⟨"LendingDisk", "carryOut", "()I"⟩, 7) := ⟨⟨by decide +kernel, by decide +kernel⟩, List.mem_of_getElem? (i := 10) (by decide +kernel), List.mem_of_getElem? (i := 435) (by decide +kernel), List.mem_of_getElem? (i := 436) (by decide +kernel)⟩
theorem lw_p21 : lw_okq (⟨"LendingDiskModel", "createError", "()I"⟩, 10) := ⟨⟨by decide +kernel, by decide +kernel⟩, List.mem_of_getElem? (i := 596) (by decide +kernel), List.mem_of_getElem? (i := 637) (by decide +kernel), List.mem_of_getElem? (i := 638) (by decide +kernel)⟩
theorem lw_p22 : lw_okq (⟨"LendingDiskModel", "many", "()I"⟩, 10) := ⟨⟨by decide +kernel, by decide +kernel⟩, List.mem_of_getElem? (i := 596) (by decide +kernel), List.mem_of_getElem? (i := 641) (by decide +kernel), List.mem_of_getElem? (i := 642) (by decide +kernel)⟩
theorem lw_p23 : lw_okq (⟨"LendingDiskModel", "records", "()V"⟩, 10) := ⟨⟨by decide +kernel, by decide +kernel⟩, List.mem_of_getElem? (i := 596) (by decide +kernel), List.mem_of_getElem? (i := 648) (by decide +kernel), List.mem_of_getElem? (i := 649) (by decide +kernel)⟩
theorem lw_p24 : lw_okq (⟨"LendingDiskModel", "copies", "(II)V"⟩, 10) := ⟨⟨by decide +kernel, by decide +kernel⟩, List.mem_of_getElem? (i := 596) (by decide +kernel), List.mem_of_getElem? (i := 652) (by decide +kernel), List.mem_of_getElem? (i := 653) (by decide +kernel)⟩
theorem lw_p25 : lw_okq (⟨"LendingDiskModel", "creates", "()I"⟩, 10) := ⟨⟨by decide +kernel, by decide +kernel⟩, List.mem_of_getElem? (i := 596) (by decide +kernel), List.mem_of_getElem? (i := 656) (by decide +kernel), List.mem_of_getElem? (i := 657) (by decide +kernel)⟩
theorem lw_p26 : lw_okq (⟨"LendingDiskModel", "isThere", "(I)Z"⟩, 10) := ⟨⟨by decide +kernel, by decide +kernel⟩, List.mem_of_getElem? (i := 596) (by decide +kernel), List.mem_of_getElem? (i := 660) (by decide +kernel), List.mem_of_getElem? (i := 661) (by decide +kernel)⟩
theorem lw_p27 : lw_okq (⟨"LendingDiskModel", "openError", "(I)I"⟩, 10) := ⟨⟨by decide +kernel, by decide +kernel⟩, List.mem_of_getElem? (i := 596) (by decide +kernel), List.mem_of_getElem? (i := 671) (by decide +kernel), List.mem_of_getElem? (i := 672) (by decide +kernel)⟩
theorem lw_p28 : lw_okq (⟨"LendingDiskModel", "isOpen", "(I)Z"⟩, 10) := ⟨⟨by decide +kernel, by decide +kernel⟩, List.mem_of_getElem? (i := 596) (by decide +kernel), List.mem_of_getElem? (i := 675) (by decide +kernel), List.mem_of_getElem? (i := 676) (by decide +kernel)⟩
theorem lw_p29 : lw_okq (⟨"LendingDiskModel", "opens", "(I)I"⟩, 10) := ⟨⟨by decide +kernel, by decide +kernel⟩, List.mem_of_getElem? (i := 596) (by decide +kernel), List.mem_of_getElem? (i := 679) (by decide +kernel), List.mem_of_getElem? (i := 680) (by decide +kernel)⟩
theorem lw_p30 : lw_okq (⟨"LendingDiskModel", "opened", "()I"⟩, 10) := ⟨⟨by decide +kernel, by decide +kernel⟩, List.mem_of_getElem? (i := 596) (by decide +kernel), List.mem_of_getElem? (i := 683) (by decide +kernel), List.mem_of_getElem? (i := 684) (by decide +kernel)⟩
theorem lw_p31 : lw_okq (⟨"LendingDiskModel", "closeError", "(I)I"⟩, 10) := ⟨⟨by decide +kernel, by decide +kernel⟩, List.mem_of_getElem? (i := 596) (by decide +kernel), List.mem_of_getElem? (i := 694) (by decide +kernel), List.mem_of_getElem? (i := 695) (by decide +kernel)⟩
def lw_privs_2 : List (MethodName × Nat) := [(⟨"LendingDisk$Order", "takesFirst", "(I)Z"⟩, 5), (⟨"LendingDisk$Order", "takesMoreOfFirst", "(I)Z"⟩, 5), (⟨"LendingDisk$Order", "takesSecond", "(I)Z"⟩, 5), (⟨"LendingDisk$Order", "takesMoreOfSecond", "(I)Z"⟩, 5), (⟨"LendingDisk", "carryOut", "()I"⟩, 7), (⟨"LendingDiskModel", "createError", "()I"⟩, 10), (⟨"LendingDiskModel", "many", "()I"⟩, 10), (⟨"LendingDiskModel", "records", "()V"⟩, 10), (⟨"LendingDiskModel", "copies", "(II)V"⟩, 10), (⟨"LendingDiskModel", "creates", "()I"⟩, 10), (⟨"LendingDiskModel", "isThere", "(I)Z"⟩, 10), (⟨"LendingDiskModel", "openError", "(I)I"⟩, 10), (⟨"LendingDiskModel", "isOpen", "(I)Z"⟩, 10), (⟨"LendingDiskModel", "opens", "(I)I"⟩, 10), (⟨"LendingDiskModel", "opened", "()I"⟩, 10), (⟨"LendingDiskModel", "closeError", "(I)I"⟩, 10)]
theorem lw_r2 : ∀ q ∈ lw_privs_2, lw_okq q := List.forall_mem_cons.mpr ⟨lw_p16, List.forall_mem_cons.mpr ⟨lw_p17, List.forall_mem_cons.mpr ⟨lw_p18, List.forall_mem_cons.mpr ⟨lw_p19, List.forall_mem_cons.mpr ⟨lw_p20, List.forall_mem_cons.mpr ⟨lw_p21, List.forall_mem_cons.mpr ⟨lw_p22, List.forall_mem_cons.mpr ⟨lw_p23, List.forall_mem_cons.mpr ⟨lw_p24, List.forall_mem_cons.mpr ⟨lw_p25, List.forall_mem_cons.mpr ⟨lw_p26, List.forall_mem_cons.mpr ⟨lw_p27, List.forall_mem_cons.mpr ⟨lw_p28, List.forall_mem_cons.mpr ⟨lw_p29, List.forall_mem_cons.mpr ⟨lw_p30, List.forall_mem_cons.mpr ⟨lw_p31, fun _ h => absurd h List.not_mem_nil⟩⟩⟩⟩⟩⟩⟩⟩⟩⟩⟩⟩⟩⟩⟩⟩
theorem lw_p32 : lw_okq (⟨"LendingDiskModel", "closes", "(I)I"⟩, 10) := ⟨⟨by decide +kernel, by decide +kernel⟩, List.mem_of_getElem? (i := 596) (by decide +kernel), List.mem_of_getElem? (i := 698) (by decide +kernel), List.mem_of_getElem? (i := 699) (by decide +kernel)⟩
theorem lw_p33 : lw_okq (⟨"LendingDiskModel", "givesBack", "(II)I"⟩, 10) := ⟨⟨by decide +kernel, by decide +kernel⟩, List.mem_of_getElem? (i := 596) (by decide +kernel), List.mem_of_getElem? (i := 702) (by decide +kernel), List.mem_of_getElem? (i := 703) (by decide +kernel)⟩
theorem lw_p34 : lw_okq (⟨"LendingDiskModel", "frees", "(III)I"⟩, 10) := ⟨⟨by decide +kernel, by decide +kernel⟩, List.mem_of_getElem? (i := 596) (by decide +kernel), List.mem_of_getElem? (i := 706) (by decide +kernel), List.mem_of_getElem? (i := 707) (by decide +kernel)⟩
theorem lw_p35 : lw_okq (⟨"LendingDiskModel", "removes", "(I)I"⟩, 10) := ⟨⟨by decide +kernel, by decide +kernel⟩, List.mem_of_getElem? (i := 596) (by decide +kernel), List.mem_of_getElem? (i := 714) (by decide +kernel), List.mem_of_getElem? (i := 715) (by decide +kernel)⟩
theorem lw_p36 : lw_okq (⟨"LendingDiskModel", "syncs", "(I)I"⟩, 10) := ⟨⟨by decide +kernel, by decide +kernel⟩, List.mem_of_getElem? (i := 596) (by decide +kernel), List.mem_of_getElem? (i := 722) (by decide +kernel), List.mem_of_getElem? (i := 723) (by decide +kernel)⟩
theorem lw_p37 : lw_okq (⟨"LendingDiskModel", "appendError", "(III)I"⟩, 10) := ⟨⟨by decide +kernel, by decide +kernel⟩, List.mem_of_getElem? (i := 596) (by decide +kernel), List.mem_of_getElem? (i := 730) (by decide +kernel), List.mem_of_getElem? (i := 731) (by decide +kernel)⟩
theorem lw_p38 : lw_okq (⟨"LendingDiskModel", "canAppend", "(II)Z"⟩, 10) := ⟨⟨by decide +kernel, by decide +kernel⟩, List.mem_of_getElem? (i := 596) (by decide +kernel), List.mem_of_getElem? (i := 734) (by decide +kernel), List.mem_of_getElem? (i := 735) (by decide +kernel)⟩
theorem lw_p39 : lw_okq (⟨"LendingDiskModel", "sumOfLent", "(I)I"⟩, 10) := ⟨⟨by decide +kernel, by decide +kernel⟩, List.mem_of_getElem? (i := 596) (by decide +kernel), List.mem_of_getElem? (i := 738) (by decide +kernel), List.mem_of_getElem? (i := 739) (by decide +kernel)⟩
theorem lw_p40 : lw_okq (⟨"LendingDiskModel", "lent", "(II)I"⟩, 10) := ⟨⟨by decide +kernel, by decide +kernel⟩, List.mem_of_getElem? (i := 596) (by decide +kernel), List.mem_of_getElem? (i := 742) (by decide +kernel), List.mem_of_getElem? (i := 743) (by decide +kernel)⟩
theorem lw_p41 : lw_okq (⟨"LendingDiskModel", "free", "(I)I"⟩, 10) := ⟨⟨by decide +kernel, by decide +kernel⟩, List.mem_of_getElem? (i := 596) (by decide +kernel), List.mem_of_getElem? (i := 746) (by decide +kernel), List.mem_of_getElem? (i := 747) (by decide +kernel)⟩
theorem lw_p42 : lw_okq (⟨"LendingDiskModel", "isFree", "(II)Z"⟩, 10) := ⟨⟨by decide +kernel, by decide +kernel⟩, List.mem_of_getElem? (i := 596) (by decide +kernel), List.mem_of_getElem? (i := 750) (by decide +kernel), List.mem_of_getElem? (i := 751) (by decide +kernel)⟩
theorem lw_p43 : lw_okq (⟨"LendingDiskModel", "appends", "(IIII)I"⟩, 10) := ⟨⟨by decide +kernel, by decide +kernel⟩, List.mem_of_getElem? (i := 596) (by decide +kernel), List.mem_of_getElem? (i := 754) (by decide +kernel), List.mem_of_getElem? (i := 755) (by decide +kernel)⟩
theorem lw_p44 : lw_okq (⟨"LendingDiskModel", "grows", "(III)V"⟩, 10) := ⟨⟨by decide +kernel, by decide +kernel⟩, List.mem_of_getElem? (i := 596) (by decide +kernel), List.mem_of_getElem? (i := 758) (by decide +kernel), List.mem_of_getElem? (i := 759) (by decide +kernel)⟩
theorem lw_p45 : lw_okq (⟨"LendingDiskModel", "giver", "(II)I"⟩, 10) := ⟨⟨by decide +kernel, by decide +kernel⟩, List.mem_of_getElem? (i := 596) (by decide +kernel), List.mem_of_getElem? (i := 762) (by decide +kernel), List.mem_of_getElem? (i := 763) (by decide +kernel)⟩
theorem lw_p46 : lw_okq (⟨"LendingDiskModel", "blockOf", "(III)I"⟩, 10) := ⟨⟨by decide +kernel, by decide +kernel⟩, List.mem_of_getElem? (i := 596) (by decide +kernel), List.mem_of_getElem? (i := 766) (by decide +kernel), List.mem_of_getElem? (i := 767) (by decide +kernel)⟩
theorem lw_p47 : lw_okq (⟨"LendingDiskModel", "adds", "(IIII)I"⟩, 10) := ⟨⟨by decide +kernel, by decide +kernel⟩, List.mem_of_getElem? (i := 596) (by decide +kernel), List.mem_of_getElem? (i := 770) (by decide +kernel), List.mem_of_getElem? (i := 771) (by decide +kernel)⟩
def lw_privs_3 : List (MethodName × Nat) := [(⟨"LendingDiskModel", "closes", "(I)I"⟩, 10), (⟨"LendingDiskModel", "givesBack", "(II)I"⟩, 10), (⟨"LendingDiskModel", "frees", "(III)I"⟩, 10), (⟨"LendingDiskModel", "removes", "(I)I"⟩, 10), (⟨"LendingDiskModel", "syncs", "(I)I"⟩, 10), (⟨"LendingDiskModel", "appendError", "(III)I"⟩, 10), (⟨"LendingDiskModel", "canAppend", "(II)Z"⟩, 10), (⟨"LendingDiskModel", "sumOfLent", "(I)I"⟩, 10), (⟨"LendingDiskModel", "lent", "(II)I"⟩, 10), (⟨"LendingDiskModel", "free", "(I)I"⟩, 10), (⟨"LendingDiskModel", "isFree", "(II)Z"⟩, 10), (⟨"LendingDiskModel", "appends", "(IIII)I"⟩, 10), (⟨"LendingDiskModel", "grows", "(III)V"⟩, 10), (⟨"LendingDiskModel", "giver", "(II)I"⟩, 10), (⟨"LendingDiskModel", "blockOf", "(III)I"⟩, 10), (⟨"LendingDiskModel", "adds", "(IIII)I"⟩, 10)]
theorem lw_r3 : ∀ q ∈ lw_privs_3, lw_okq q := List.forall_mem_cons.mpr ⟨lw_p32, List.forall_mem_cons.mpr ⟨lw_p33, List.forall_mem_cons.mpr ⟨lw_p34, List.forall_mem_cons.mpr ⟨lw_p35, List.forall_mem_cons.mpr ⟨lw_p36, List.forall_mem_cons.mpr ⟨lw_p37, List.forall_mem_cons.mpr ⟨lw_p38, List.forall_mem_cons.mpr ⟨lw_p39, List.forall_mem_cons.mpr ⟨lw_p40, List.forall_mem_cons.mpr ⟨lw_p41, List.forall_mem_cons.mpr ⟨lw_p42, List.forall_mem_cons.mpr ⟨lw_p43, List.forall_mem_cons.mpr ⟨lw_p44, List.forall_mem_cons.mpr ⟨lw_p45, List.forall_mem_cons.mpr ⟨lw_p46, List.forall_mem_cons.mpr ⟨lw_p47, fun _ h => absurd h List.not_mem_nil⟩⟩⟩⟩⟩⟩⟩⟩⟩⟩⟩⟩⟩⟩⟩⟩
theorem lw_p48 : lw_okq (⟨"LendingDiskModel", "chooses", "(II)I"⟩, 10) := ⟨⟨by decide +kernel, by decide +kernel⟩, List.mem_of_getElem? (i := 596) (by decide +kernel), List.mem_of_getElem? (i := 774) (by decide +kernel), List.mem_of_getElem? (i := 775) (by decide +kernel)⟩
theorem lw_p49 : lw_okq (⟨"LendingDiskModel", "isRunStart", "(II)Z"⟩, 10) := ⟨⟨by decide +kernel, by decide +kernel⟩, List.mem_of_getElem? (i := 596) (by decide +kernel), List.mem_of_getElem? (i := 778) (by decide +kernel), List.mem_of_getElem? (i := 779) (by decide +kernel)⟩
theorem lw_p50 : lw_okq (⟨"LendingDiskModel", "runLength", "(II)I"⟩, 10) := ⟨⟨by decide +kernel, by decide +kernel⟩, List.mem_of_getElem? (i := 596) (by decide +kernel), List.mem_of_getElem? (i := 782) (by decide +kernel), List.mem_of_getElem? (i := 783) (by decide +kernel)⟩
theorem lw_p51 : lw_okq (⟨"LendingDiskModel", "extents", "(II)I"⟩, 10) := ⟨⟨by decide +kernel, by decide +kernel⟩, List.mem_of_getElem? (i := 596) (by decide +kernel), List.mem_of_getElem? (i := 786) (by decide +kernel), List.mem_of_getElem? (i := 787) (by decide +kernel)⟩
theorem lw_p52 : lw_okq (⟨"LendingDiskModel", "cutError", "(II)I"⟩, 10) := ⟨⟨by decide +kernel, by decide +kernel⟩, List.mem_of_getElem? (i := 596) (by decide +kernel), List.mem_of_getElem? (i := 794) (by decide +kernel), List.mem_of_getElem? (i := 795) (by decide +kernel)⟩
theorem lw_p53 : lw_okq (⟨"LendingDiskModel", "cuts", "(II)I"⟩, 10) := ⟨⟨by decide +kernel, by decide +kernel⟩, List.mem_of_getElem? (i := 596) (by decide +kernel), List.mem_of_getElem? (i := 798) (by decide +kernel), List.mem_of_getElem? (i := 799) (by decide +kernel)⟩
theorem lw_p54 : lw_okq (⟨"LendingDiskModel", "crashes", "()I"⟩, 10) := ⟨⟨by decide +kernel, by decide +kernel⟩, List.mem_of_getElem? (i := 596) (by decide +kernel), List.mem_of_getElem? (i := 806) (by decide +kernel), List.mem_of_getElem? (i := 807) (by decide +kernel)⟩
theorem lw_p55 : lw_okq (⟨"LendingDiskModel", "mends", "()I"⟩, 10) := ⟨⟨by decide +kernel, by decide +kernel⟩, List.mem_of_getElem? (i := 596) (by decide +kernel), List.mem_of_getElem? (i := 814) (by decide +kernel), List.mem_of_getElem? (i := 815) (by decide +kernel)⟩
theorem lw_p56 : lw_okq (⟨"LendingDiskModel", "readsOrder", "()Z"⟩, 10) := ⟨⟨by decide +kernel, by decide +kernel⟩, List.mem_of_getElem? (i := 596) (by decide +kernel), List.mem_of_getElem? (i := 834) (by decide +kernel), List.mem_of_getElem? (i := 835) (by decide +kernel)⟩
theorem lw_p57 : lw_okq (⟨"LendingDiskModel", "readsFile", "()Z"⟩, 10) := ⟨⟨by decide +kernel, by decide +kernel⟩, List.mem_of_getElem? (i := 596) (by decide +kernel), List.mem_of_getElem? (i := 838) (by decide +kernel), List.mem_of_getElem? (i := 839) (by decide +kernel)⟩
theorem lw_p58 : lw_okq (⟨"LendingDiskModel", "isHere", "(II)Z"⟩, 10) := ⟨⟨by decide +kernel, by decide +kernel⟩, List.mem_of_getElem? (i := 596) (by decide +kernel), List.mem_of_getElem? (i := 842) (by decide +kernel), List.mem_of_getElem? (i := 843) (by decide +kernel)⟩
theorem lw_p59 : lw_okq (⟨"LendingDiskModel", "readsAppend", "()Z"⟩, 10) := ⟨⟨by decide +kernel, by decide +kernel⟩, List.mem_of_getElem? (i := 596) (by decide +kernel), List.mem_of_getElem? (i := 846) (by decide +kernel), List.mem_of_getElem? (i := 847) (by decide +kernel)⟩
theorem lw_p60 : lw_okq (⟨"LendingDiskModel", "takes", "(I)Z"⟩, 10) := ⟨⟨by decide +kernel, by decide +kernel⟩, List.mem_of_getElem? (i := 596) (by decide +kernel), List.mem_of_getElem? (i := 850) (by decide +kernel), List.mem_of_getElem? (i := 851) (by decide +kernel)⟩
theorem lw_p61 : lw_okq (⟨"LendingDiskModel", "number", "(II)I"⟩, 10) := ⟨⟨by decide +kernel, by decide +kernel⟩, List.mem_of_getElem? (i := 596) (by decide +kernel), List.mem_of_getElem? (i := 854) (by decide +kernel), List.mem_of_getElem? (i := 855) (by decide +kernel)⟩
theorem lw_p62 : lw_okq (⟨"LendingDiskModel", "readsCut", "()Z"⟩, 10) := ⟨⟨by decide +kernel, by decide +kernel⟩, List.mem_of_getElem? (i := 596) (by decide +kernel), List.mem_of_getElem? (i := 858) (by decide +kernel), List.mem_of_getElem? (i := 859) (by decide +kernel)⟩
theorem lw_p63 : lw_okq (⟨"LendingDiskModel", "orderError", "()I"⟩, 10) := ⟨⟨by decide +kernel, by decide +kernel⟩, List.mem_of_getElem? (i := 596) (by decide +kernel), List.mem_of_getElem? (i := 867) (by decide +kernel), List.mem_of_getElem? (i := 868) (by decide +kernel)⟩
def lw_privs_4 : List (MethodName × Nat) := [(⟨"LendingDiskModel", "chooses", "(II)I"⟩, 10), (⟨"LendingDiskModel", "isRunStart", "(II)Z"⟩, 10), (⟨"LendingDiskModel", "runLength", "(II)I"⟩, 10), (⟨"LendingDiskModel", "extents", "(II)I"⟩, 10), (⟨"LendingDiskModel", "cutError", "(II)I"⟩, 10), (⟨"LendingDiskModel", "cuts", "(II)I"⟩, 10), (⟨"LendingDiskModel", "crashes", "()I"⟩, 10), (⟨"LendingDiskModel", "mends", "()I"⟩, 10), (⟨"LendingDiskModel", "readsOrder", "()Z"⟩, 10), (⟨"LendingDiskModel", "readsFile", "()Z"⟩, 10), (⟨"LendingDiskModel", "isHere", "(II)Z"⟩, 10), (⟨"LendingDiskModel", "readsAppend", "()Z"⟩, 10), (⟨"LendingDiskModel", "takes", "(I)Z"⟩, 10), (⟨"LendingDiskModel", "number", "(II)I"⟩, 10), (⟨"LendingDiskModel", "readsCut", "()Z"⟩, 10), (⟨"LendingDiskModel", "orderError", "()I"⟩, 10)]
theorem lw_r4 : ∀ q ∈ lw_privs_4, lw_okq q := List.forall_mem_cons.mpr ⟨lw_p48, List.forall_mem_cons.mpr ⟨lw_p49, List.forall_mem_cons.mpr ⟨lw_p50, List.forall_mem_cons.mpr ⟨lw_p51, List.forall_mem_cons.mpr ⟨lw_p52, List.forall_mem_cons.mpr ⟨lw_p53, List.forall_mem_cons.mpr ⟨lw_p54, List.forall_mem_cons.mpr ⟨lw_p55, List.forall_mem_cons.mpr ⟨lw_p56, List.forall_mem_cons.mpr ⟨lw_p57, List.forall_mem_cons.mpr ⟨lw_p58, List.forall_mem_cons.mpr ⟨lw_p59, List.forall_mem_cons.mpr ⟨lw_p60, List.forall_mem_cons.mpr ⟨lw_p61, List.forall_mem_cons.mpr ⟨lw_p62, List.forall_mem_cons.mpr ⟨lw_p63, fun _ h => absurd h List.not_mem_nil⟩⟩⟩⟩⟩⟩⟩⟩⟩⟩⟩⟩⟩⟩⟩⟩
theorem lw_p64 : lw_okq (⟨"LendingDiskModel", "does", "()I"⟩, 10) := ⟨⟨by decide +kernel, by decide +kernel⟩, List.mem_of_getElem? (i := 596) (by decide +kernel), List.mem_of_getElem? (i := 871) (by decide +kernel), List.mem_of_getElem? (i := 872) (by decide +kernel)⟩
theorem lw_p65 : lw_okq (⟨"LendingDiskModel", "hasData", "(I)Z"⟩, 10) := ⟨⟨by decide +kernel, by decide +kernel⟩, List.mem_of_getElem? (i := 596) (by decide +kernel), List.mem_of_getElem? (i := 891) (by decide +kernel), List.mem_of_getElem? (i := 892) (by decide +kernel)⟩
theorem lw_p66 : lw_okq (⟨"LendingDiskModel", "lentOfClosed", "()I"⟩, 10) := ⟨⟨by decide +kernel, by decide +kernel⟩, List.mem_of_getElem? (i := 596) (by decide +kernel), List.mem_of_getElem? (i := 915) (by decide +kernel), List.mem_of_getElem? (i := 916) (by decide +kernel)⟩
theorem lw_p67 : lw_okq (⟨"LendingDiskModel", "runs", "(Z)I"⟩, 10) := ⟨⟨by decide +kernel, by decide +kernel⟩, List.mem_of_getElem? (i := 596) (by decide +kernel), List.mem_of_getElem? (i := 919) (by decide +kernel), List.mem_of_getElem? (i := 920) (by decide +kernel)⟩
theorem lw_p68 : lw_okq (⟨"LendingDiskModel", "allExtents", "()I"⟩, 10) := ⟨⟨by decide +kernel, by decide +kernel⟩, List.mem_of_getElem? (i := 596) (by decide +kernel), List.mem_of_getElem? (i := 923) (by decide +kernel), List.mem_of_getElem? (i := 924) (by decide +kernel)⟩
def lw_privs_5 : List (MethodName × Nat) := [(⟨"LendingDiskModel", "does", "()I"⟩, 10), (⟨"LendingDiskModel", "hasData", "(I)Z"⟩, 10), (⟨"LendingDiskModel", "lentOfClosed", "()I"⟩, 10), (⟨"LendingDiskModel", "runs", "(Z)I"⟩, 10), (⟨"LendingDiskModel", "allExtents", "()I"⟩, 10)]
theorem lw_r5 : ∀ q ∈ lw_privs_5, lw_okq q := List.forall_mem_cons.mpr ⟨lw_p64, List.forall_mem_cons.mpr ⟨lw_p65, List.forall_mem_cons.mpr ⟨lw_p66, List.forall_mem_cons.mpr ⟨lw_p67, List.forall_mem_cons.mpr ⟨lw_p68, fun _ h => absurd h List.not_mem_nil⟩⟩⟩⟩⟩
def lw_privs : List (MethodName × Nat) := lw_privs_1 ++ (lw_privs_2 ++ (lw_privs_3 ++ (lw_privs_4 ++ (lw_privs_5))))
def lw_tbl : List Cond := k2_sels lw_privs ++ tables_1
theorem lw_privs_ok : ∀ q ∈ lw_privs, lw_okq q := by
  show ∀ q ∈ lw_privs_1 ++ (lw_privs_2 ++ (lw_privs_3 ++ (lw_privs_4 ++ (lw_privs_5)))), lw_okq q
  exact List.forall_mem_append.mpr ⟨lw_r1, List.forall_mem_append.mpr ⟨lw_r2, List.forall_mem_append.mpr ⟨lw_r3, List.forall_mem_append.mpr ⟨lw_r4, lw_r5⟩⟩⟩⟩
/-- the streams that the claim lets the run draw from -/
abbrev lw_cs : List Choice := [Jvm.Choice.named "NaN.bits"]
theorem lw_bits : nanBits ∈ lw_cs := by first | decide | exact List.mem_cons_self | simp [lw_cs, nanBits]
/-! ===== BEGIN words of one list among another's, by their places ===== -/
theorem goodIn_r {big : List Cond} (ws : List Cond) (ps : List Nat) (hp : ws = ps.filterMap (fun i => big[i]?)) (h : ws.all goodWord = true) : GoodIn big ws := by
  intro w hw
  have h1 := List.all_eq_true.mp h w hw
  rw [hp] at hw
  obtain ⟨i, -, hi⟩ := List.mem_filterMap.mp hw
  have hm : w ∈ big := by first | exact List.mem_of_getElem? hi | exact List.getElem?_mem hi
  exact ⟨hm, good_of_word h1⟩
theorem goodIn_app {big a b : List Cond} (ha : GoodIn big a) (hb : GoodIn big b) : GoodIn big (a ++ b) := fun w h => (List.mem_append.mp h).elim (ha w) (hb w)
theorem goodIn_ca {big a b : List Cond} {c : Cond} (ha : GoodIn big (c :: a)) (hb : GoodIn big b) : GoodIn big (c :: (a ++ b)) := fun w h => (List.mem_cons.mp h).elim (fun e => ha w (List.mem_cons.mpr (Or.inl e))) (fun h => (List.mem_append.mp h).elim (fun h => ha w (List.mem_cons.mpr (Or.inr h))) (hb w))
theorem goodIn_sub {big ws : List Cond} (hm : ∀ w ∈ ws, w ∈ big) (h : ws.all goodWord = true) : GoodIn big ws := fun w hw => ⟨hm w hw, good_of_word (List.all_eq_true.mp h w hw)⟩
/-! ===== END ===== -/

/-! ===== BEGIN printed: names, fields, word lists, decode rows ===== -/
def RX0 : String := "LendingDisk$Disk"
def TX0 : u_T := fun k => match k with
  | 0 => ("LendingDisk$Disk", "stamps", "LLendingDisk$Row;", true)
  | 1 => ("LendingDisk$Disk", "owners", "LLendingDisk$Row;", true)
  | 2 => ("LendingDisk$Disk", "places", "LLendingDisk$Row;", true)
  | 3 => ("LendingDisk$Disk", "modes", "LLendingDisk$Row;", true)
  | 4 => ("LendingDisk$Disk", "lengths", "LLendingDisk$Row;", true)
  | 5 => ("LendingDisk$Disk", "sizes", "LLendingDisk$Row;", true)
  | 6 => ("LendingDisk$Disk", "safeSizes", "LLendingDisk$Row;", true)
  | 7 => ("LendingDisk$Disk", "lends", "LLendingDisk$Row;", true)
  | 8 => ("LendingDisk$Disk", "settings", "LLendingDisk$Row;", true)
  | _ => ("LendingDisk$Disk", "totals", "LLendingDisk$Row;", true)
def tyX0 : Nat → FieldType := fun k => match k with
  | 0 => .object "LendingDisk$Row"
  | 1 => .object "LendingDisk$Row"
  | 2 => .object "LendingDisk$Row"
  | 3 => .object "LendingDisk$Row"
  | 4 => .object "LendingDisk$Row"
  | 5 => .object "LendingDisk$Row"
  | 6 => .object "LendingDisk$Row"
  | 7 => .object "LendingDisk$Row"
  | 8 => .object "LendingDisk$Row"
  | _ => .object "LendingDisk$Row"
abbrev wsX00 : List Cond := u_ws RX0 TX0 10
theorem nmX0 : ∀ a, a < 10 → ∀ b, b < 10 → a ≠ b → (TX0 a).2.1 ≠ (TX0 b).2.1 := by decide +kernel
theorem tyX0_ok : ∀ k, k < 10 → parseFieldDescriptor (TX0 k).2.2.1 = some (tyX0 k) := by decide +kernel
abbrev cX0_init : ByteArray := prog_2_method_1_code
def yX0_init : MethodName := ⟨RX0, "<init>", "()V"⟩
abbrev cX0_copyFrom : ByteArray := prog_2_method_2_code
def yX0_copyFrom : MethodName := ⟨RX0, "copyFrom", "(LLendingDisk$Disk;)V"⟩
abbrev cX0_createFile : ByteArray := prog_2_method_3_code
def yX0_createFile : MethodName := ⟨RX0, "createFile", "()I"⟩
abbrev cX0_openFile : ByteArray := prog_2_method_4_code
def yX0_openFile : MethodName := ⟨RX0, "openFile", "(I)I"⟩
abbrev cX0_closeFile : ByteArray := prog_2_method_5_code
def yX0_closeFile : MethodName := ⟨RX0, "closeFile", "(I)I"⟩
abbrev cX0_removeFile : ByteArray := prog_2_method_6_code
def yX0_removeFile : MethodName := ⟨RX0, "removeFile", "(I)I"⟩
abbrev cX0_syncFile : ByteArray := prog_2_method_7_code
def yX0_syncFile : MethodName := ⟨RX0, "syncFile", "(I)I"⟩
abbrev cX0_appendTo : ByteArray := prog_2_method_8_code
def yX0_appendTo : MethodName := ⟨RX0, "appendTo", "(III)I"⟩
abbrev cX0_cutFile : ByteArray := prog_2_method_9_code
def yX0_cutFile : MethodName := ⟨RX0, "cutFile", "(II)I"⟩
abbrev cX0_crashAll : ByteArray := prog_2_method_10_code
def yX0_crashAll : MethodName := ⟨RX0, "crashAll", "()I"⟩
abbrev cX0_mendAll : ByteArray := prog_2_method_11_code
def yX0_mendAll : MethodName := ⟨RX0, "mendAll", "()I"⟩
abbrev cX0_changeSetting : ByteArray := prog_2_method_12_code
def yX0_changeSetting : MethodName := ⟨RX0, "changeSetting", "(II)I"⟩
abbrev cX0_takeBack : ByteArray := prog_2_method_13_code
def yX0_takeBack : MethodName := ⟨RX0, "takeBack", "(II)V"⟩
abbrev cX0_greatestLender : ByteArray := prog_2_method_14_code
def yX0_greatestLender : MethodName := ⟨RX0, "greatestLender", "(I)I"⟩
abbrev cX0_lengthen : ByteArray := prog_2_method_15_code
def yX0_lengthen : MethodName := ⟨RX0, "lengthen", "(II)V"⟩
abbrev cX0_addFrom : ByteArray := prog_2_method_16_code
def yX0_addFrom : MethodName := ⟨RX0, "addFrom", "(III)I"⟩
abbrev cX0_chosenRun : ByteArray := prog_2_method_17_code
def yX0_chosenRun : MethodName := ⟨RX0, "chosenRun", "(I)I"⟩
abbrev cX0_isBetter : ByteArray := prog_2_method_18_code
def yX0_isBetter : MethodName := ⟨RX0, "isBetter", "(III)Z"⟩
abbrev cX0_write : ByteArray := prog_2_method_19_code
def yX0_write : MethodName := ⟨RX0, "write", "(III)V"⟩
abbrev cX0_giveBack : ByteArray := prog_2_method_20_code
def yX0_giveBack : MethodName := ⟨RX0, "giveBack", "(I)I"⟩
abbrev cX0_freeFrom : ByteArray := prog_2_method_21_code
def yX0_freeFrom : MethodName := ⟨RX0, "freeFrom", "(II)V"⟩
abbrev cX0_ownerOf : ByteArray := prog_2_method_22_code
def yX0_ownerOf : MethodName := ⟨RX0, "ownerOf", "(I)I"⟩
abbrev cX0_placeOf : ByteArray := prog_2_method_23_code
def yX0_placeOf : MethodName := ⟨RX0, "placeOf", "(I)I"⟩
abbrev cX0_stampOf : ByteArray := prog_2_method_24_code
def yX0_stampOf : MethodName := ⟨RX0, "stampOf", "(I)I"⟩
abbrev cX0_useOf : ByteArray := prog_2_method_25_code
def yX0_useOf : MethodName := ⟨RX0, "useOf", "(I)I"⟩
abbrev cX0_isPart : ByteArray := prog_2_method_26_code
def yX0_isPart : MethodName := ⟨RX0, "isPart", "(IIII)Z"⟩
abbrev cX0_isFile : ByteArray := prog_2_method_27_code
def yX0_isFile : MethodName := ⟨RX0, "isFile", "(I)Z"⟩
abbrev cX0_isOpen : ByteArray := prog_2_method_28_code
def yX0_isOpen : MethodName := ⟨RX0, "isOpen", "(I)Z"⟩
abbrev cX0_sizeOf : ByteArray := prog_2_method_29_code
def yX0_sizeOf : MethodName := ⟨RX0, "sizeOf", "(I)I"⟩
abbrev cX0_lentOf : ByteArray := prog_2_method_30_code
def yX0_lentOf : MethodName := ⟨RX0, "lentOf", "(I)I"⟩
abbrev cX0_safeSizeOf : ByteArray := prog_2_method_31_code
def yX0_safeSizeOf : MethodName := ⟨RX0, "safeSizeOf", "(I)I"⟩
abbrev cX0_lendOf : ByteArray := prog_2_method_32_code
def yX0_lendOf : MethodName := ⟨RX0, "lendOf", "(I)I"⟩
abbrev cX0_blockAt : ByteArray := prog_2_method_33_code
def yX0_blockAt : MethodName := ⟨RX0, "blockAt", "(II)I"⟩
abbrev cX0_extentsOf : ByteArray := prog_2_method_34_code
def yX0_extentsOf : MethodName := ⟨RX0, "extentsOf", "(I)I"⟩
abbrev cX0_beginsExtent : ByteArray := prog_2_method_35_code
def yX0_beginsExtent : MethodName := ⟨RX0, "beginsExtent", "(I)Z"⟩
abbrev cX0_placeOfExtent : ByteArray := prog_2_method_36_code
def yX0_placeOfExtent : MethodName := ⟨RX0, "placeOfExtent", "(II)I"⟩
abbrev cX0_extentFrom : ByteArray := prog_2_method_37_code
def yX0_extentFrom : MethodName := ⟨RX0, "extentFrom", "(II)I"⟩
abbrev cX0_sumOfStamps : ByteArray := prog_2_method_38_code
def yX0_sumOfStamps : MethodName := ⟨RX0, "sumOfStamps", "(III)I"⟩
abbrev cX0_runFrom : ByteArray := prog_2_method_39_code
def yX0_runFrom : MethodName := ⟨RX0, "runFrom", "(I)I"⟩
abbrev cX0_firstOfRun : ByteArray := prog_2_method_40_code
def yX0_firstOfRun : MethodName := ⟨RX0, "firstOfRun", "(I)I"⟩
abbrev cX0_freeRuns : ByteArray := prog_2_method_41_code
def yX0_freeRuns : MethodName := ⟨RX0, "freeRuns", "()I"⟩
abbrev cX0_longestRun : ByteArray := prog_2_method_42_code
def yX0_longestRun : MethodName := ⟨RX0, "longestRun", "()I"⟩
abbrev cX0_totalOf : ByteArray := prog_2_method_43_code
def yX0_totalOf : MethodName := ⟨RX0, "totalOf", "(I)I"⟩
abbrev cX0_freeBlocks : ByteArray := prog_2_method_44_code
def yX0_freeBlocks : MethodName := ⟨RX0, "freeBlocks", "()I"⟩
abbrev cX0_dataBlocks : ByteArray := prog_2_method_45_code
def yX0_dataBlocks : MethodName := ⟨RX0, "dataBlocks", "()I"⟩
abbrev cX0_blocksWithoutData : ByteArray := prog_2_method_46_code
def yX0_blocksWithoutData : MethodName := ⟨RX0, "blocksWithoutData", "()I"⟩
abbrev cX0_filesThatAre : ByteArray := prog_2_method_47_code
def yX0_filesThatAre : MethodName := ⟨RX0, "filesThatAre", "(I)I"⟩
abbrev cX0_lentToFilesThatAre : ByteArray := prog_2_method_48_code
def yX0_lentToFilesThatAre : MethodName := ⟨RX0, "lentToFilesThatAre", "(I)I"⟩
abbrev cX0_filesWithBlocks : ByteArray := prog_2_method_49_code
def yX0_filesWithBlocks : MethodName := ⟨RX0, "filesWithBlocks", "()I"⟩
abbrev cX0_allExtents : ByteArray := prog_2_method_50_code
def yX0_allExtents : MethodName := ⟨RX0, "allExtents", "()I"⟩
def RX1 : String := "LendingDisk$History"
def TX1 : u_T := fun k => match k with
  | 0 => ("LendingDisk$History", "slots", "[LLendingDisk$Disk;", true)
  | 1 => ("LendingDisk$History", "oldest", "I", false)
  | _ => ("LendingDisk$History", "size", "I", false)
def tyX1 : Nat → FieldType := fun k => match k with
  | 0 => .array (.object "LendingDisk$Disk")
  | 1 => .int
  | _ => .int
abbrev wsX10 : List Cond := u_ws RX1 TX1 3
theorem nmX1 : ∀ a, a < 3 → ∀ b, b < 3 → a ≠ b → (TX1 a).2.1 ≠ (TX1 b).2.1 := by decide +kernel
theorem tyX1_ok : ∀ k, k < 3 → parseFieldDescriptor (TX1 k).2.2.1 = some (tyX1 k) := by decide +kernel
abbrev cX1_init : ByteArray := prog_3_method_1_code
def yX1_init : MethodName := ⟨RX1, "<init>", "()V"⟩
abbrev cX1_size : ByteArray := prog_3_method_2_code
def yX1_size : MethodName := ⟨RX1, "size", "()I"⟩
abbrev cX1_record : ByteArray := prog_3_method_3_code
def yX1_record : MethodName := ⟨RX1, "record", "(LLendingDisk$Disk;)V"⟩
abbrev cX1_takeLatest : ByteArray := prog_3_method_4_code
def yX1_takeLatest : MethodName := ⟨RX1, "takeLatest", "(LLendingDisk$Disk;)Z"⟩
abbrev cX1_slotBehind : ByteArray := prog_3_method_5_code
def yX1_slotBehind : MethodName := ⟨RX1, "slotBehind", "(I)LLendingDisk$Disk;"⟩
def RX2 : String := "LendingDisk$Order"
def TX2 : u_T := fun k => match k with
  | 0 => ("LendingDisk$Order", "step", "I", false)
  | 1 => ("LendingDisk$Order", "letter", "I", false)
  | 2 => ("LendingDisk$Order", "file", "I", false)
  | 3 => ("LendingDisk$Order", "first", "I", false)
  | _ => ("LendingDisk$Order", "second", "I", false)
def tyX2 : Nat → FieldType := fun k => match k with
  | 0 => .int
  | 1 => .int
  | 2 => .int
  | 3 => .int
  | _ => .int
abbrev wsX20 : List Cond := u_ws RX2 TX2 5
theorem nmX2 : ∀ a, a < 5 → ∀ b, b < 5 → a ≠ b → (TX2 a).2.1 ≠ (TX2 b).2.1 := by decide +kernel
theorem tyX2_ok : ∀ k, k < 5 → parseFieldDescriptor (TX2 k).2.2.1 = some (tyX2 k) := by decide +kernel
abbrev cX2_init : ByteArray := prog_4_method_1_code
def yX2_init : MethodName := ⟨RX2, "<init>", "()V"⟩
abbrev cX2_letter : ByteArray := prog_4_method_2_code
def yX2_letter : MethodName := ⟨RX2, "letter", "()I"⟩
abbrev cX2_fileNumber : ByteArray := prog_4_method_3_code
def yX2_fileNumber : MethodName := ⟨RX2, "fileNumber", "()I"⟩
abbrev cX2_firstNumber : ByteArray := prog_4_method_4_code
def yX2_firstNumber : MethodName := ⟨RX2, "firstNumber", "()I"⟩
abbrev cX2_secondNumber : ByteArray := prog_4_method_5_code
def yX2_secondNumber : MethodName := ⟨RX2, "secondNumber", "()I"⟩
abbrev cX2_begin : ByteArray := prog_4_method_6_code
def yX2_begin : MethodName := ⟨RX2, "begin", "()V"⟩
abbrev cX2_isWhole : ByteArray := prog_4_method_7_code
def yX2_isWhole : MethodName := ⟨RX2, "isWhole", "()Z"⟩
abbrev cX2_takes : ByteArray := prog_4_method_8_code
def yX2_takes : MethodName := ⟨RX2, "takes", "(I)Z"⟩
abbrev cX2_takesLetter : ByteArray := prog_4_method_9_code
def yX2_takesLetter : MethodName := ⟨RX2, "takesLetter", "(I)Z"⟩
abbrev cX2_takesFile : ByteArray := prog_4_method_10_code
def yX2_takesFile : MethodName := ⟨RX2, "takesFile", "(I)Z"⟩
abbrev cX2_takesMark : ByteArray := prog_4_method_11_code
def yX2_takesMark : MethodName := ⟨RX2, "takesMark", "(III)Z"⟩
abbrev cX2_takesFirst : ByteArray := prog_4_method_12_code
def yX2_takesFirst : MethodName := ⟨RX2, "takesFirst", "(I)Z"⟩
abbrev cX2_takesMoreOfFirst : ByteArray := prog_4_method_13_code
def yX2_takesMoreOfFirst : MethodName := ⟨RX2, "takesMoreOfFirst", "(I)Z"⟩
abbrev cX2_takesSecond : ByteArray := prog_4_method_14_code
def yX2_takesSecond : MethodName := ⟨RX2, "takesSecond", "(I)Z"⟩
abbrev cX2_takesMoreOfSecond : ByteArray := prog_4_method_15_code
def yX2_takesMoreOfSecond : MethodName := ⟨RX2, "takesMoreOfSecond", "(I)Z"⟩
abbrev cX2_isMore : ByteArray := prog_4_method_16_code
def yX2_isMore : MethodName := ⟨RX2, "isMore", "(III)Z"⟩
def RX3 : String := "LendingDisk$Row"
def TX3 : u_T := fun k => match k with
  | _ => ("LendingDisk$Row", "cells", "[I", true)
def tyX3 : Nat → FieldType := fun k => match k with
  | _ => .array .int
abbrev wsX30 : List Cond := u_ws RX3 TX3 1
theorem nmX3 : ∀ a, a < 1 → ∀ b, b < 1 → a ≠ b → (TX3 a).2.1 ≠ (TX3 b).2.1 := by decide +kernel
theorem tyX3_ok : ∀ k, k < 1 → parseFieldDescriptor (TX3 k).2.2.1 = some (tyX3 k) := by decide +kernel
abbrev cX3_init : ByteArray := prog_5_method_1_code
def yX3_init : MethodName := ⟨RX3, "<init>", "(II)V"⟩
abbrev cX3_at : ByteArray := prog_5_method_2_code
def yX3_at : MethodName := ⟨RX3, "at", "(I)I"⟩
abbrev cX3_holds : ByteArray := prog_5_method_3_code
def yX3_holds : MethodName := ⟨RX3, "holds", "(II)Z"⟩
abbrev cX3_put : ByteArray := prog_5_method_4_code
def yX3_put : MethodName := ⟨RX3, "put", "(II)V"⟩
abbrev cX3_grow : ByteArray := prog_5_method_5_code
def yX3_grow : MethodName := ⟨RX3, "grow", "(II)V"⟩
abbrev cX3_copyFrom : ByteArray := prog_5_method_6_code
def yX3_copyFrom : MethodName := ⟨RX3, "copyFrom", "(LLendingDisk$Row;)V"⟩
def RX4 : String := "LendingDisk$Script"
def TX4 : u_T := fun k => match k with
  | 0 => ("LendingDisk$Script", "characters", "LLendingDisk$Row;", true)
  | _ => ("LendingDisk$Script", "length", "I", false)
def tyX4 : Nat → FieldType := fun k => match k with
  | 0 => .object "LendingDisk$Row"
  | _ => .int
abbrev wsX40 : List Cond := u_ws RX4 TX4 2
theorem nmX4 : ∀ a, a < 2 → ∀ b, b < 2 → a ≠ b → (TX4 a).2.1 ≠ (TX4 b).2.1 := by decide +kernel
theorem tyX4_ok : ∀ k, k < 2 → parseFieldDescriptor (TX4 k).2.2.1 = some (tyX4 k) := by decide +kernel
abbrev cX4_init : ByteArray := prog_6_method_1_code
def yX4_init : MethodName := ⟨RX4, "<init>", "()V"⟩
abbrev cX4_length : ByteArray := prog_6_method_2_code
def yX4_length : MethodName := ⟨RX4, "length", "()I"⟩
abbrev cX4_characterAt : ByteArray := prog_6_method_3_code
def yX4_characterAt : MethodName := ⟨RX4, "characterAt", "(I)I"⟩
abbrev cX4_addCharacter : ByteArray := prog_6_method_4_code
def yX4_addCharacter : MethodName := ⟨RX4, "addCharacter", "(I)Z"⟩
abbrev cX4_empty : ByteArray := prog_6_method_5_code
def yX4_empty : MethodName := ⟨RX4, "empty", "()V"⟩
abbrev cX4_firstFault : ByteArray := prog_6_method_6_code
def yX4_firstFault : MethodName := ⟨RX4, "firstFault", "(LLendingDisk$Order;)I"⟩
def RX5 : String := "LendingDisk"
def TX5 : u_T := fun k => match k with
  | 0 => ("LendingDisk", "disk", "LLendingDisk$Disk;", true)
  | 1 => ("LendingDisk", "spare", "LLendingDisk$Disk;", true)
  | 2 => ("LendingDisk", "snapshot", "LLendingDisk$Disk;", true)
  | 3 => ("LendingDisk", "hasSnapshot", "Z", false)
  | 4 => ("LendingDisk", "history", "LLendingDisk$History;", true)
  | 5 => ("LendingDisk", "script", "LLendingDisk$Script;", true)
  | _ => ("LendingDisk", "order", "LLendingDisk$Order;", true)
def tyX5 : Nat → FieldType := fun k => match k with
  | 0 => .object "LendingDisk$Disk"
  | 1 => .object "LendingDisk$Disk"
  | 2 => .object "LendingDisk$Disk"
  | 3 => .boolean
  | 4 => .object "LendingDisk$History"
  | 5 => .object "LendingDisk$Script"
  | _ => .object "LendingDisk$Order"
abbrev wsX50 : List Cond := u_ws RX5 TX5 7
theorem nmX5 : ∀ a, a < 7 → ∀ b, b < 7 → a ≠ b → (TX5 a).2.1 ≠ (TX5 b).2.1 := by decide +kernel
theorem tyX5_ok : ∀ k, k < 7 → parseFieldDescriptor (TX5 k).2.2.1 = some (tyX5 k) := by decide +kernel
abbrev cX5_init : ByteArray := prog_1_method_1_code
def yX5_init : MethodName := ⟨RX5, "<init>", "()V"⟩
abbrev cX5_create : ByteArray := prog_1_method_2_code
def yX5_create : MethodName := ⟨RX5, "create", "()I"⟩
abbrev cX5_open : ByteArray := prog_1_method_3_code
def yX5_open : MethodName := ⟨RX5, "open", "(I)I"⟩
abbrev cX5_close : ByteArray := prog_1_method_4_code
def yX5_close : MethodName := ⟨RX5, "close", "(I)I"⟩
abbrev cX5_remove : ByteArray := prog_1_method_5_code
def yX5_remove : MethodName := ⟨RX5, "remove", "(I)I"⟩
abbrev cX5_sync : ByteArray := prog_1_method_6_code
def yX5_sync : MethodName := ⟨RX5, "sync", "(I)I"⟩
abbrev cX5_append : ByteArray := prog_1_method_7_code
def yX5_append : MethodName := ⟨RX5, "append", "(III)I"⟩
abbrev cX5_cut : ByteArray := prog_1_method_8_code
def yX5_cut : MethodName := ⟨RX5, "cut", "(II)I"⟩
abbrev cX5_crash : ByteArray := prog_1_method_9_code
def yX5_crash : MethodName := ⟨RX5, "crash", "()I"⟩
abbrev cX5_mend : ByteArray := prog_1_method_10_code
def yX5_mend : MethodName := ⟨RX5, "mend", "()I"⟩
abbrev cX5_set : ByteArray := prog_1_method_11_code
def yX5_set : MethodName := ⟨RX5, "set", "(II)I"⟩
abbrev cX5_type : ByteArray := prog_1_method_12_code
def yX5_type : MethodName := ⟨RX5, "type", "(I)I"⟩
abbrev cX5_clearText : ByteArray := prog_1_method_13_code
def yX5_clearText : MethodName := ⟨RX5, "clearText", "()I"⟩
abbrev cX5_fault : ByteArray := prog_1_method_14_code
def yX5_fault : MethodName := ⟨RX5, "fault", "()I"⟩
abbrev cX5_perform : ByteArray := prog_1_method_15_code
def yX5_perform : MethodName := ⟨RX5, "perform", "()I"⟩
abbrev cX5_undo : ByteArray := prog_1_method_16_code
def yX5_undo : MethodName := ⟨RX5, "undo", "()I"⟩
abbrev cX5_save : ByteArray := prog_1_method_17_code
def yX5_save : MethodName := ⟨RX5, "save", "()I"⟩
abbrev cX5_restore : ByteArray := prog_1_method_18_code
def yX5_restore : MethodName := ⟨RX5, "restore", "()I"⟩
abbrev cX5_block : ByteArray := prog_1_method_19_code
def yX5_block : MethodName := ⟨RX5, "block", "(II)I"⟩
abbrev cX5_file : ByteArray := prog_1_method_20_code
def yX5_file : MethodName := ⟨RX5, "file", "(II)I"⟩
abbrev cX5_extent : ByteArray := prog_1_method_21_code
def yX5_extent : MethodName := ⟨RX5, "extent", "(III)I"⟩
abbrev cX5_run : ByteArray := prog_1_method_22_code
def yX5_run : MethodName := ⟨RX5, "run", "(II)I"⟩
abbrev cX5_read : ByteArray := prog_1_method_23_code
def yX5_read : MethodName := ⟨RX5, "read", "(IIII)I"⟩
abbrev cX5_count : ByteArray := prog_1_method_24_code
def yX5_count : MethodName := ⟨RX5, "count", "(I)I"⟩
abbrev cX5_total : ByteArray := prog_1_method_25_code
def yX5_total : MethodName := ⟨RX5, "total", "(I)I"⟩
abbrev cX5_ifAppended : ByteArray := prog_1_method_26_code
def yX5_ifAppended : MethodName := ⟨RX5, "ifAppended", "(III)I"⟩
abbrev cX5_room : ByteArray := prog_1_method_27_code
def yX5_room : MethodName := ⟨RX5, "room", "(I)I"⟩
abbrev cX5_wholeness : ByteArray := prog_1_method_28_code
def yX5_wholeness : MethodName := ⟨RX5, "wholeness", "()D"⟩
abbrev cX5_recorded : ByteArray := prog_1_method_29_code
def yX5_recorded : MethodName := ⟨RX5, "recorded", "(I)I"⟩
abbrev cX5_carryOut : ByteArray := prog_1_method_30_code
def yX5_carryOut : MethodName := ⟨RX5, "carryOut", "()I"⟩
def RX6 : String := "LendingDiskModel"
def TX6 : u_T := fun k => match k with
  | 0 => ("LendingDiskModel", "s", "[I", true)
  | 1 => ("LendingDiskModel", "states", "I", false)
  | 2 => ("LendingDiskModel", "isSaved", "Z", false)
  | 3 => ("LendingDiskModel", "text", "[I", true)
  | 4 => ("LendingDiskModel", "typed", "I", false)
  | 5 => ("LendingDiskModel", "spot", "I", false)
  | 6 => ("LendingDiskModel", "letter", "I", false)
  | 7 => ("LendingDiskModel", "one", "I", false)
  | 8 => ("LendingDiskModel", "two", "I", false)
  | _ => ("LendingDiskModel", "three", "I", false)
def tyX6 : Nat → FieldType := fun k => match k with
  | 0 => .array .int
  | 1 => .int
  | 2 => .boolean
  | 3 => .array .int
  | 4 => .int
  | 5 => .int
  | 6 => .int
  | 7 => .int
  | 8 => .int
  | _ => .int
abbrev wsX60 : List Cond := u_ws RX6 TX6 10
theorem nmX6 : ∀ a, a < 10 → ∀ b, b < 10 → a ≠ b → (TX6 a).2.1 ≠ (TX6 b).2.1 := by decide +kernel
theorem tyX6_ok : ∀ k, k < 10 → parseFieldDescriptor (TX6 k).2.2.1 = some (tyX6 k) := by decide +kernel
abbrev cX6_init : ByteArray := prog_8_method_1_code
def yX6_init : MethodName := ⟨RX6, "<init>", "()V"⟩
abbrev cX6_in : ByteArray := prog_8_method_3_code
def yX6_in : MethodName := ⟨RX6, "in", "(III)Z"⟩
abbrev cX6_flag : ByteArray := prog_8_method_4_code
def yX6_flag : MethodName := ⟨RX6, "flag", "(Z)I"⟩
abbrev cX6_copies : ByteArray := prog_8_method_5_code
def yX6_copies : MethodName := ⟨RX6, "copies", "(II)V"⟩
abbrev cX6_records : ByteArray := prog_8_method_6_code
def yX6_records : MethodName := ⟨RX6, "records", "()V"⟩
abbrev cX6_at : ByteArray := prog_8_method_7_code
def yX6_at : MethodName := ⟨RX6, "at", "(II)I"⟩
abbrev cX6_isThere : ByteArray := prog_8_method_8_code
def yX6_isThere : MethodName := ⟨RX6, "isThere", "(I)Z"⟩
abbrev cX6_isOpen : ByteArray := prog_8_method_9_code
def yX6_isOpen : MethodName := ⟨RX6, "isOpen", "(I)Z"⟩
abbrev cX6_lent : ByteArray := prog_8_method_10_code
def yX6_lent : MethodName := ⟨RX6, "lent", "(II)I"⟩
abbrev cX6_isFree : ByteArray := prog_8_method_11_code
def yX6_isFree : MethodName := ⟨RX6, "isFree", "(II)Z"⟩
abbrev cX6_free : ByteArray := prog_8_method_12_code
def yX6_free : MethodName := ⟨RX6, "free", "(I)I"⟩
abbrev cX6_blockOf : ByteArray := prog_8_method_13_code
def yX6_blockOf : MethodName := ⟨RX6, "blockOf", "(III)I"⟩
abbrev cX6_extents : ByteArray := prog_8_method_14_code
def yX6_extents : MethodName := ⟨RX6, "extents", "(II)I"⟩
abbrev cX6_frees : ByteArray := prog_8_method_15_code
def yX6_frees : MethodName := ⟨RX6, "frees", "(III)I"⟩
abbrev cX6_givesBack : ByteArray := prog_8_method_16_code
def yX6_givesBack : MethodName := ⟨RX6, "givesBack", "(II)I"⟩
abbrev cX6_sumOfLent : ByteArray := prog_8_method_17_code
def yX6_sumOfLent : MethodName := ⟨RX6, "sumOfLent", "(I)I"⟩
abbrev cX6_giver : ByteArray := prog_8_method_18_code
def yX6_giver : MethodName := ⟨RX6, "giver", "(II)I"⟩
abbrev cX6_runLength : ByteArray := prog_8_method_19_code
def yX6_runLength : MethodName := ⟨RX6, "runLength", "(II)I"⟩
abbrev cX6_isRunStart : ByteArray := prog_8_method_20_code
def yX6_isRunStart : MethodName := ⟨RX6, "isRunStart", "(II)Z"⟩
abbrev cX6_chooses : ByteArray := prog_8_method_21_code
def yX6_chooses : MethodName := ⟨RX6, "chooses", "(II)I"⟩
abbrev cX6_adds : ByteArray := prog_8_method_22_code
def yX6_adds : MethodName := ⟨RX6, "adds", "(IIII)I"⟩
abbrev cX6_grows : ByteArray := prog_8_method_23_code
def yX6_grows : MethodName := ⟨RX6, "grows", "(III)V"⟩
abbrev cX6_canAppend : ByteArray := prog_8_method_24_code
def yX6_canAppend : MethodName := ⟨RX6, "canAppend", "(II)Z"⟩
abbrev cX6_appends : ByteArray := prog_8_method_25_code
def yX6_appends : MethodName := ⟨RX6, "appends", "(IIII)I"⟩
abbrev cX6_openError : ByteArray := prog_8_method_26_code
def yX6_openError : MethodName := ⟨RX6, "openError", "(I)I"⟩
abbrev cX6_closeError : ByteArray := prog_8_method_27_code
def yX6_closeError : MethodName := ⟨RX6, "closeError", "(I)I"⟩
abbrev cX6_appendError : ByteArray := prog_8_method_28_code
def yX6_appendError : MethodName := ⟨RX6, "appendError", "(III)I"⟩
abbrev cX6_cutError : ByteArray := prog_8_method_29_code
def yX6_cutError : MethodName := ⟨RX6, "cutError", "(II)I"⟩
abbrev cX6_many : ByteArray := prog_8_method_30_code
def yX6_many : MethodName := ⟨RX6, "many", "()I"⟩
abbrev cX6_createError : ByteArray := prog_8_method_31_code
def yX6_createError : MethodName := ⟨RX6, "createError", "()I"⟩
abbrev cX6_opened : ByteArray := prog_8_method_32_code
def yX6_opened : MethodName := ⟨RX6, "opened", "()I"⟩
abbrev cX6_creates : ByteArray := prog_8_method_33_code
def yX6_creates : MethodName := ⟨RX6, "creates", "()I"⟩
abbrev cX6_opens : ByteArray := prog_8_method_34_code
def yX6_opens : MethodName := ⟨RX6, "opens", "(I)I"⟩
abbrev cX6_closes : ByteArray := prog_8_method_35_code
def yX6_closes : MethodName := ⟨RX6, "closes", "(I)I"⟩
abbrev cX6_removes : ByteArray := prog_8_method_36_code
def yX6_removes : MethodName := ⟨RX6, "removes", "(I)I"⟩
abbrev cX6_syncs : ByteArray := prog_8_method_37_code
def yX6_syncs : MethodName := ⟨RX6, "syncs", "(I)I"⟩
abbrev cX6_cuts : ByteArray := prog_8_method_38_code
def yX6_cuts : MethodName := ⟨RX6, "cuts", "(II)I"⟩
abbrev cX6_crashes : ByteArray := prog_8_method_39_code
def yX6_crashes : MethodName := ⟨RX6, "crashes", "()I"⟩
abbrev cX6_mends : ByteArray := prog_8_method_40_code
def yX6_mends : MethodName := ⟨RX6, "mends", "()I"⟩
abbrev cX6_create : ByteArray := prog_8_method_41_code
def yX6_create : MethodName := ⟨RX6, "create", "()I"⟩
abbrev cX6_open : ByteArray := prog_8_method_42_code
def yX6_open : MethodName := ⟨RX6, "open", "(I)I"⟩
abbrev cX6_close : ByteArray := prog_8_method_43_code
def yX6_close : MethodName := ⟨RX6, "close", "(I)I"⟩
abbrev cX6_remove : ByteArray := prog_8_method_44_code
def yX6_remove : MethodName := ⟨RX6, "remove", "(I)I"⟩
abbrev cX6_sync : ByteArray := prog_8_method_45_code
def yX6_sync : MethodName := ⟨RX6, "sync", "(I)I"⟩
abbrev cX6_append : ByteArray := prog_8_method_46_code
def yX6_append : MethodName := ⟨RX6, "append", "(III)I"⟩
abbrev cX6_cut : ByteArray := prog_8_method_47_code
def yX6_cut : MethodName := ⟨RX6, "cut", "(II)I"⟩
abbrev cX6_crash : ByteArray := prog_8_method_48_code
def yX6_crash : MethodName := ⟨RX6, "crash", "()I"⟩
abbrev cX6_mend : ByteArray := prog_8_method_49_code
def yX6_mend : MethodName := ⟨RX6, "mend", "()I"⟩
abbrev cX6_set : ByteArray := prog_8_method_50_code
def yX6_set : MethodName := ⟨RX6, "set", "(II)I"⟩
abbrev cX6_type : ByteArray := prog_8_method_51_code
def yX6_type : MethodName := ⟨RX6, "type", "(I)I"⟩
abbrev cX6_clearText : ByteArray := prog_8_method_52_code
def yX6_clearText : MethodName := ⟨RX6, "clearText", "()I"⟩
abbrev cX6_isHere : ByteArray := prog_8_method_53_code
def yX6_isHere : MethodName := ⟨RX6, "isHere", "(II)Z"⟩
abbrev cX6_takes : ByteArray := prog_8_method_54_code
def yX6_takes : MethodName := ⟨RX6, "takes", "(I)Z"⟩
abbrev cX6_readsFile : ByteArray := prog_8_method_55_code
def yX6_readsFile : MethodName := ⟨RX6, "readsFile", "()Z"⟩
abbrev cX6_number : ByteArray := prog_8_method_56_code
def yX6_number : MethodName := ⟨RX6, "number", "(II)I"⟩
abbrev cX6_readsAppend : ByteArray := prog_8_method_57_code
def yX6_readsAppend : MethodName := ⟨RX6, "readsAppend", "()Z"⟩
abbrev cX6_readsCut : ByteArray := prog_8_method_58_code
def yX6_readsCut : MethodName := ⟨RX6, "readsCut", "()Z"⟩
abbrev cX6_readsOrder : ByteArray := prog_8_method_59_code
def yX6_readsOrder : MethodName := ⟨RX6, "readsOrder", "()Z"⟩
abbrev cX6_fault : ByteArray := prog_8_method_60_code
def yX6_fault : MethodName := ⟨RX6, "fault", "()I"⟩
abbrev cX6_orderError : ByteArray := prog_8_method_61_code
def yX6_orderError : MethodName := ⟨RX6, "orderError", "()I"⟩
abbrev cX6_does : ByteArray := prog_8_method_62_code
def yX6_does : MethodName := ⟨RX6, "does", "()I"⟩
abbrev cX6_perform : ByteArray := prog_8_method_63_code
def yX6_perform : MethodName := ⟨RX6, "perform", "()I"⟩
abbrev cX6_undo : ByteArray := prog_8_method_64_code
def yX6_undo : MethodName := ⟨RX6, "undo", "()I"⟩
abbrev cX6_save : ByteArray := prog_8_method_65_code
def yX6_save : MethodName := ⟨RX6, "save", "()I"⟩
abbrev cX6_restore : ByteArray := prog_8_method_66_code
def yX6_restore : MethodName := ⟨RX6, "restore", "()I"⟩
abbrev cX6_hasData : ByteArray := prog_8_method_67_code
def yX6_hasData : MethodName := ⟨RX6, "hasData", "(I)Z"⟩
abbrev cX6_block : ByteArray := prog_8_method_68_code
def yX6_block : MethodName := ⟨RX6, "block", "(II)I"⟩
abbrev cX6_file : ByteArray := prog_8_method_69_code
def yX6_file : MethodName := ⟨RX6, "file", "(II)I"⟩
abbrev cX6_extent : ByteArray := prog_8_method_70_code
def yX6_extent : MethodName := ⟨RX6, "extent", "(III)I"⟩
abbrev cX6_run : ByteArray := prog_8_method_71_code
def yX6_run : MethodName := ⟨RX6, "run", "(II)I"⟩
abbrev cX6_read : ByteArray := prog_8_method_72_code
def yX6_read : MethodName := ⟨RX6, "read", "(IIII)I"⟩
abbrev cX6_allExtents : ByteArray := prog_8_method_73_code
def yX6_allExtents : MethodName := ⟨RX6, "allExtents", "()I"⟩
abbrev cX6_lentOfClosed : ByteArray := prog_8_method_74_code
def yX6_lentOfClosed : MethodName := ⟨RX6, "lentOfClosed", "()I"⟩
abbrev cX6_runs : ByteArray := prog_8_method_75_code
def yX6_runs : MethodName := ⟨RX6, "runs", "(Z)I"⟩
abbrev cX6_count : ByteArray := prog_8_method_76_code
def yX6_count : MethodName := ⟨RX6, "count", "(I)I"⟩
abbrev cX6_total : ByteArray := prog_8_method_77_code
def yX6_total : MethodName := ⟨RX6, "total", "(I)I"⟩
abbrev cX6_ifAppended : ByteArray := prog_8_method_78_code
def yX6_ifAppended : MethodName := ⟨RX6, "ifAppended", "(III)I"⟩
abbrev cX6_room : ByteArray := prog_8_method_79_code
def yX6_room : MethodName := ⟨RX6, "room", "(I)I"⟩
abbrev cX6_wholeness : ByteArray := prog_8_method_80_code
def yX6_wholeness : MethodName := ⟨RX6, "wholeness", "()D"⟩
def RJ9 : String := "java/lang/Math"
def TJ9 : u_T := fun k => match k with
  | _ => ("", "", "", false)
def tyJ9 : Nat → FieldType := fun k => match k with
  | _ => .int
abbrev wsJ90 : List Cond := u_ws RJ9 TJ9 0
theorem nmJ9 : ∀ a, a < 0 → ∀ b, b < 0 → a ≠ b → (TJ9 a).2.1 ≠ (TJ9 b).2.1 := by decide +kernel
theorem tyJ9_ok : ∀ k, k < 0 → parseFieldDescriptor (TJ9 k).2.2.1 = some (tyJ9 k) := by decide +kernel
abbrev cJ9_max_7cf53 : ByteArray := prog_9_method_65_code
def yJ9_max_7cf53 : MethodName := ⟨RJ9, "max", "(II)I"⟩
abbrev cJ9_min_7cf53 : ByteArray := prog_9_method_69_code
def yJ9_min_7cf53 : MethodName := ⟨RJ9, "min", "(II)I"⟩
def RL : String := "LendingDiskLaw"
abbrev cL_law : ByteArray := code
def yL_law : MethodName := ⟨RL, "law", "([I)Z"⟩
def wsX3_init : List Cond := .code yX3_init cX3_init 4 none :: ([.methodLink RX3 1 objectInit, .instanceMethod objectInit, .code objectInit ⟨#[0xb1]⟩ 1 none, .methodLink RX3 7 Lib.Math.max.name, .static Lib.Math.max.name, .initialized "java/lang/Math", .code Lib.Math.max.name Lib.Math.max.code 2 (some .int), .arrayClass .int, .fieldLink RX3 13 "LendingDisk$Row" "cells" "[I"] ++ wsX30)
def wsX3_put : List Cond := .code yX3_put cX3_put 3 none :: ([.fieldLink RX3 13 "LendingDisk$Row" "cells" "[I"] ++ wsX30)
def wsX0_init_r1 : List Cond := [Cond.methodLink RX0 3 objectInit, Cond.instanceMethod objectInit, Cond.code objectInit ⟨#[0xb1]⟩ 1 none, Cond.classLink RX0 9 RX3, Cond.instantiable RX3 1, Cond.initialized RX3, Cond.fieldLink RX0 14 "LendingDisk$Disk" "stamps" "LLendingDisk$Row;", Cond.fieldLink RX0 20 "LendingDisk$Disk" "owners" "LLendingDisk$Row;", Cond.fieldLink RX0 23 "LendingDisk$Disk" "places" "LLendingDisk$Row;", Cond.fieldLink RX0 26 "LendingDisk$Disk" "modes" "LLendingDisk$Row;", Cond.fieldLink RX0 29 "LendingDisk$Disk" "lengths" "LLendingDisk$Row;", Cond.fieldLink RX0 32 "LendingDisk$Disk" "sizes" "LLendingDisk$Row;", Cond.fieldLink RX0 35 "LendingDisk$Disk" "safeSizes" "LLendingDisk$Row;", Cond.fieldLink RX0 38 "LendingDisk$Disk" "lends" "LLendingDisk$Row;", Cond.fieldLink RX0 41 "LendingDisk$Disk" "settings" "LLendingDisk$Row;", Cond.fieldLink RX0 44 "LendingDisk$Disk" "totals" "LLendingDisk$Row;", Cond.methodLink RX0 11 yX3_init, Cond.instanceMethod yX3_init, Cond.code yX3_init cX3_init 4 none, Cond.methodLink RX3 1 objectInit, Cond.methodLink RX3 7 Lib.Math.max.name, Cond.static Lib.Math.max.name, Cond.initialized "java/lang/Math", Cond.code Lib.Math.max.name Lib.Math.max.code 2 (some .int)]
def wsX0_init_r2 : List Cond := [Cond.arrayClass .int, Cond.fieldLink RX3 13 "LendingDisk$Row" "cells" "[I", Cond.methodLink RX0 47 yX3_put, Cond.instanceMethod yX3_put, Cond.selects RX3 yX3_put yX3_put, Cond.code yX3_put cX3_put 3 none]
def wsX0_init : List Cond := .code yX0_init cX0_init 1 none :: ((wsX0_init_r1 ++ wsX0_init_r2) ++ wsX30 ++ wsX00)
def wsX3_at : List Cond := .code yX3_at cX3_at 2 (some .int) :: ([.fieldLink RX3 13 "LendingDisk$Row" "cells" "[I"] ++ wsX30)
def wsX3_copyFrom : List Cond := .code yX3_copyFrom cX3_copyFrom 3 none :: ([.fieldLink RX3 13 "LendingDisk$Row" "cells" "[I", .methodLink RX3 19 yX3_at, .instanceMethod yX3_at, .selects RX3 yX3_at yX3_at, .initialized RX3, .code yX3_at cX3_at 2 (some .int)] ++ wsX30)
def wsX0_copyFrom : List Cond := .code yX0_copyFrom cX0_copyFrom 2 none :: ([.fieldLink RX0 14 "LendingDisk$Disk" "stamps" "LLendingDisk$Row;", .fieldLink RX0 20 "LendingDisk$Disk" "owners" "LLendingDisk$Row;", .fieldLink RX0 23 "LendingDisk$Disk" "places" "LLendingDisk$Row;", .fieldLink RX0 26 "LendingDisk$Disk" "modes" "LLendingDisk$Row;", .fieldLink RX0 29 "LendingDisk$Disk" "lengths" "LLendingDisk$Row;", .fieldLink RX0 32 "LendingDisk$Disk" "sizes" "LLendingDisk$Row;", .fieldLink RX0 35 "LendingDisk$Disk" "safeSizes" "LLendingDisk$Row;", .fieldLink RX0 38 "LendingDisk$Disk" "lends" "LLendingDisk$Row;", .fieldLink RX0 41 "LendingDisk$Disk" "settings" "LLendingDisk$Row;", .fieldLink RX0 44 "LendingDisk$Disk" "totals" "LLendingDisk$Row;", .methodLink RX0 50 yX3_copyFrom, .instanceMethod yX3_copyFrom, .selects RX3 yX3_copyFrom yX3_copyFrom, .initialized RX3, .code yX3_copyFrom cX3_copyFrom 3 none, .fieldLink RX3 13 "LendingDisk$Row" "cells" "[I", .methodLink RX3 19 yX3_at, .instanceMethod yX3_at, .selects RX3 yX3_at yX3_at, .code yX3_at cX3_at 2 (some .int)] ++ wsX00 ++ wsX30)
def wsX3_holds : List Cond := .code yX3_holds cX3_holds 3 (some .boolean) :: ([.fieldLink RX3 13 "LendingDisk$Row" "cells" "[I"] ++ wsX30)
def wsX0_createFile : List Cond := .code yX0_createFile cX0_createFile 2 (some .int) :: ([.fieldLink RX0 26 "LendingDisk$Disk" "modes" "LLendingDisk$Row;", .fieldLink RX0 29 "LendingDisk$Disk" "lengths" "LLendingDisk$Row;", .fieldLink RX0 32 "LendingDisk$Disk" "sizes" "LLendingDisk$Row;", .fieldLink RX0 35 "LendingDisk$Disk" "safeSizes" "LLendingDisk$Row;", .fieldLink RX0 38 "LendingDisk$Disk" "lends" "LLendingDisk$Row;", .methodLink RX0 54 yX3_holds, .instanceMethod yX3_holds, .selects RX3 yX3_holds yX3_holds, .initialized RX3, .code yX3_holds cX3_holds 3 (some .boolean), .fieldLink RX3 13 "LendingDisk$Row" "cells" "[I", .methodLink RX0 47 yX3_put, .instanceMethod yX3_put, .selects RX3 yX3_put yX3_put, .code yX3_put cX3_put 3 none] ++ wsX00 ++ wsX30)
def wsX0_isFile : List Cond := .code yX0_isFile cX0_isFile 2 (some .boolean) :: ([.fieldLink RX0 26 "LendingDisk$Disk" "modes" "LLendingDisk$Row;", .methodLink RX0 54 yX3_holds, .instanceMethod yX3_holds, .selects RX3 yX3_holds yX3_holds, .initialized RX3, .code yX3_holds cX3_holds 3 (some .boolean), .fieldLink RX3 13 "LendingDisk$Row" "cells" "[I"] ++ wsX00 ++ wsX30)
def wsX0_isOpen : List Cond := .code yX0_isOpen cX0_isOpen 2 (some .boolean) :: ([.fieldLink RX0 26 "LendingDisk$Disk" "modes" "LLendingDisk$Row;", .methodLink RX0 54 yX3_holds, .instanceMethod yX3_holds, .selects RX3 yX3_holds yX3_holds, .initialized RX3, .code yX3_holds cX3_holds 3 (some .boolean), .fieldLink RX3 13 "LendingDisk$Row" "cells" "[I"] ++ wsX00 ++ wsX30)
def wsX0_filesThatAre : List Cond := .code yX0_filesThatAre cX0_filesThatAre 4 (some .int) :: ([.fieldLink RX0 26 "LendingDisk$Disk" "modes" "LLendingDisk$Row;", .methodLink RX0 54 yX3_holds, .instanceMethod yX3_holds, .selects RX3 yX3_holds yX3_holds, .initialized RX3, .code yX3_holds cX3_holds 3 (some .boolean), .fieldLink RX3 13 "LendingDisk$Row" "cells" "[I"] ++ wsX00 ++ wsX30)
def wsX0_openFile : List Cond := .code yX0_openFile cX0_openFile 2 (some .int) :: ([.fieldLink RX0 26 "LendingDisk$Disk" "modes" "LLendingDisk$Row;", .methodLink RX0 58 yX0_isFile, .instanceMethod yX0_isFile, .selects RX0 yX0_isFile yX0_isFile, .initialized RX0, .code yX0_isFile cX0_isFile 2 (some .boolean), .methodLink RX0 54 yX3_holds, .instanceMethod yX3_holds, .selects RX3 yX3_holds yX3_holds, .initialized RX3, .code yX3_holds cX3_holds 3 (some .boolean), .fieldLink RX3 13 "LendingDisk$Row" "cells" "[I", .methodLink RX0 62 yX0_isOpen, .instanceMethod yX0_isOpen, .selects RX0 yX0_isOpen yX0_isOpen, .code yX0_isOpen cX0_isOpen 2 (some .boolean), .methodLink RX0 47 yX3_put, .instanceMethod yX3_put, .selects RX3 yX3_put yX3_put, .code yX3_put cX3_put 3 none, .methodLink RX0 65 yX0_filesThatAre, .instanceMethod yX0_filesThatAre, .selects RX0 yX0_filesThatAre yX0_filesThatAre, .code yX0_filesThatAre cX0_filesThatAre 4 (some .int)] ++ wsX00 ++ wsX30)
def wsX0_lentOf : List Cond := .code yX0_lentOf cX0_lentOf 2 (some .int) :: ([.fieldLink RX0 29 "LendingDisk$Disk" "lengths" "LLendingDisk$Row;", .fieldLink RX0 32 "LendingDisk$Disk" "sizes" "LLendingDisk$Row;", .methodLink RX0 72 yX3_at, .instanceMethod yX3_at, .selects RX3 yX3_at yX3_at, .initialized RX3, .code yX3_at cX3_at 2 (some .int), .fieldLink RX3 13 "LendingDisk$Row" "cells" "[I"] ++ wsX00 ++ wsX30)
def wsX0_freeFrom : List Cond := .code yX0_freeFrom cX0_freeFrom 4 none :: ([.fieldLink RX0 20 "LendingDisk$Disk" "owners" "LLendingDisk$Row;", .fieldLink RX0 23 "LendingDisk$Disk" "places" "LLendingDisk$Row;", .fieldLink RX0 29 "LendingDisk$Disk" "lengths" "LLendingDisk$Row;", .methodLink RX0 54 yX3_holds, .instanceMethod yX3_holds, .selects RX3 yX3_holds yX3_holds, .initialized RX3, .code yX3_holds cX3_holds 3 (some .boolean), .fieldLink RX3 13 "LendingDisk$Row" "cells" "[I", .methodLink RX0 72 yX3_at, .instanceMethod yX3_at, .selects RX3 yX3_at yX3_at, .code yX3_at cX3_at 2 (some .int), .methodLink RX0 47 yX3_put, .instanceMethod yX3_put, .selects RX3 yX3_put yX3_put, .code yX3_put cX3_put 3 none] ++ wsX00 ++ wsX30)
def wsX3_grow : List Cond := .code yX3_grow cX3_grow 3 none :: ([.fieldLink RX3 13 "LendingDisk$Row" "cells" "[I"] ++ wsX30)
def wsX0_giveBack_r1 : List Cond := [Cond.fieldLink RX0 32 "LendingDisk$Disk" "sizes" "LLendingDisk$Row;", Cond.fieldLink RX0 38 "LendingDisk$Disk" "lends" "LLendingDisk$Row;", Cond.fieldLink RX0 44 "LendingDisk$Disk" "totals" "LLendingDisk$Row;", Cond.methodLink RX0 82 yX0_lentOf, Cond.instanceMethod yX0_lentOf, Cond.selects RX0 yX0_lentOf yX0_lentOf, Cond.initialized RX0, Cond.code yX0_lentOf cX0_lentOf 2 (some .int), Cond.fieldLink RX0 29 "LendingDisk$Disk" "lengths" "LLendingDisk$Row;", Cond.methodLink RX0 72 yX3_at, Cond.instanceMethod yX3_at, Cond.selects RX3 yX3_at yX3_at, Cond.initialized RX3, Cond.code yX3_at cX3_at 2 (some .int), Cond.fieldLink RX3 13 "LendingDisk$Row" "cells" "[I", Cond.methodLink RX0 75 yX0_freeFrom, Cond.instanceMethod yX0_freeFrom, Cond.selects RX0 yX0_freeFrom yX0_freeFrom, Cond.code yX0_freeFrom cX0_freeFrom 4 none, Cond.fieldLink RX0 20 "LendingDisk$Disk" "owners" "LLendingDisk$Row;", Cond.fieldLink RX0 23 "LendingDisk$Disk" "places" "LLendingDisk$Row;", Cond.methodLink RX0 54 yX3_holds, Cond.instanceMethod yX3_holds, Cond.selects RX3 yX3_holds yX3_holds]
def wsX0_giveBack_r2 : List Cond := [Cond.code yX3_holds cX3_holds 3 (some .boolean), Cond.methodLink RX0 47 yX3_put, Cond.instanceMethod yX3_put, Cond.selects RX3 yX3_put yX3_put, Cond.code yX3_put cX3_put 3 none, Cond.methodLink RX0 104 yX3_grow, Cond.instanceMethod yX3_grow, Cond.selects RX3 yX3_grow yX3_grow, Cond.code yX3_grow cX3_grow 3 none]
def wsX0_giveBack : List Cond := .code yX0_giveBack cX0_giveBack 3 (some .int) :: ((wsX0_giveBack_r1 ++ wsX0_giveBack_r2) ++ wsX00 ++ wsX30)
def wsX0_closeFile_r1 : List Cond := [Cond.fieldLink RX0 35 "LendingDisk$Disk" "safeSizes" "LLendingDisk$Row;", Cond.fieldLink RX0 32 "LendingDisk$Disk" "sizes" "LLendingDisk$Row;", Cond.fieldLink RX0 26 "LendingDisk$Disk" "modes" "LLendingDisk$Row;", Cond.methodLink RX0 58 yX0_isFile, Cond.instanceMethod yX0_isFile, Cond.selects RX0 yX0_isFile yX0_isFile, Cond.initialized RX0, Cond.code yX0_isFile cX0_isFile 2 (some .boolean), Cond.methodLink RX0 54 yX3_holds, Cond.instanceMethod yX3_holds, Cond.selects RX3 yX3_holds yX3_holds, Cond.initialized RX3, Cond.code yX3_holds cX3_holds 3 (some .boolean), Cond.fieldLink RX3 13 "LendingDisk$Row" "cells" "[I", Cond.methodLink RX0 62 yX0_isOpen, Cond.instanceMethod yX0_isOpen, Cond.selects RX0 yX0_isOpen yX0_isOpen, Cond.code yX0_isOpen cX0_isOpen 2 (some .boolean), Cond.methodLink RX0 69 yX0_giveBack, Cond.instanceMethod yX0_giveBack, Cond.selects RX0 yX0_giveBack yX0_giveBack, Cond.code yX0_giveBack cX0_giveBack 3 (some .int), Cond.fieldLink RX0 38 "LendingDisk$Disk" "lends" "LLendingDisk$Row;", Cond.fieldLink RX0 44 "LendingDisk$Disk" "totals" "LLendingDisk$Row;"]
def wsX0_closeFile_r2 : List Cond := [Cond.methodLink RX0 82 yX0_lentOf, Cond.instanceMethod yX0_lentOf, Cond.selects RX0 yX0_lentOf yX0_lentOf, Cond.code yX0_lentOf cX0_lentOf 2 (some .int), Cond.fieldLink RX0 29 "LendingDisk$Disk" "lengths" "LLendingDisk$Row;", Cond.methodLink RX0 72 yX3_at, Cond.instanceMethod yX3_at, Cond.selects RX3 yX3_at yX3_at, Cond.code yX3_at cX3_at 2 (some .int), Cond.methodLink RX0 75 yX0_freeFrom, Cond.instanceMethod yX0_freeFrom, Cond.selects RX0 yX0_freeFrom yX0_freeFrom, Cond.code yX0_freeFrom cX0_freeFrom 4 none, Cond.fieldLink RX0 20 "LendingDisk$Disk" "owners" "LLendingDisk$Row;", Cond.fieldLink RX0 23 "LendingDisk$Disk" "places" "LLendingDisk$Row;", Cond.methodLink RX0 47 yX3_put, Cond.instanceMethod yX3_put, Cond.selects RX3 yX3_put yX3_put, Cond.code yX3_put cX3_put 3 none, Cond.methodLink RX0 104 yX3_grow, Cond.instanceMethod yX3_grow, Cond.selects RX3 yX3_grow yX3_grow, Cond.code yX3_grow cX3_grow 3 none]
def wsX0_closeFile : List Cond := .code yX0_closeFile cX0_closeFile 3 (some .int) :: ((wsX0_closeFile_r1 ++ wsX0_closeFile_r2) ++ wsX00 ++ wsX30)
def wsX0_removeFile_r1 : List Cond := [Cond.fieldLink RX0 29 "LendingDisk$Disk" "lengths" "LLendingDisk$Row;", Cond.fieldLink RX0 32 "LendingDisk$Disk" "sizes" "LLendingDisk$Row;", Cond.fieldLink RX0 26 "LendingDisk$Disk" "modes" "LLendingDisk$Row;", Cond.methodLink RX0 58 yX0_isFile, Cond.instanceMethod yX0_isFile, Cond.selects RX0 yX0_isFile yX0_isFile, Cond.initialized RX0, Cond.code yX0_isFile cX0_isFile 2 (some .boolean), Cond.methodLink RX0 54 yX3_holds, Cond.instanceMethod yX3_holds, Cond.selects RX3 yX3_holds yX3_holds, Cond.initialized RX3, Cond.code yX3_holds cX3_holds 3 (some .boolean), Cond.fieldLink RX3 13 "LendingDisk$Row" "cells" "[I", Cond.methodLink RX0 62 yX0_isOpen, Cond.instanceMethod yX0_isOpen, Cond.selects RX0 yX0_isOpen yX0_isOpen, Cond.code yX0_isOpen cX0_isOpen 2 (some .boolean), Cond.methodLink RX0 72 yX3_at, Cond.instanceMethod yX3_at, Cond.selects RX3 yX3_at yX3_at, Cond.code yX3_at cX3_at 2 (some .int), Cond.methodLink RX0 75 yX0_freeFrom, Cond.instanceMethod yX0_freeFrom]
def wsX0_removeFile_r2 : List Cond := [Cond.selects RX0 yX0_freeFrom yX0_freeFrom, Cond.code yX0_freeFrom cX0_freeFrom 4 none, Cond.fieldLink RX0 20 "LendingDisk$Disk" "owners" "LLendingDisk$Row;", Cond.fieldLink RX0 23 "LendingDisk$Disk" "places" "LLendingDisk$Row;", Cond.methodLink RX0 47 yX3_put, Cond.instanceMethod yX3_put, Cond.selects RX3 yX3_put yX3_put, Cond.code yX3_put cX3_put 3 none]
def wsX0_removeFile : List Cond := .code yX0_removeFile cX0_removeFile 3 (some .int) :: ((wsX0_removeFile_r1 ++ wsX0_removeFile_r2) ++ wsX00 ++ wsX30)
def wsX0_syncFile_r1 : List Cond := [Cond.fieldLink RX0 32 "LendingDisk$Disk" "sizes" "LLendingDisk$Row;", Cond.fieldLink RX0 35 "LendingDisk$Disk" "safeSizes" "LLendingDisk$Row;", Cond.methodLink RX0 58 yX0_isFile, Cond.instanceMethod yX0_isFile, Cond.selects RX0 yX0_isFile yX0_isFile, Cond.initialized RX0, Cond.code yX0_isFile cX0_isFile 2 (some .boolean), Cond.fieldLink RX0 26 "LendingDisk$Disk" "modes" "LLendingDisk$Row;", Cond.methodLink RX0 54 yX3_holds, Cond.instanceMethod yX3_holds, Cond.selects RX3 yX3_holds yX3_holds, Cond.initialized RX3, Cond.code yX3_holds cX3_holds 3 (some .boolean), Cond.fieldLink RX3 13 "LendingDisk$Row" "cells" "[I", Cond.methodLink RX0 62 yX0_isOpen, Cond.instanceMethod yX0_isOpen, Cond.selects RX0 yX0_isOpen yX0_isOpen, Cond.code yX0_isOpen cX0_isOpen 2 (some .boolean), Cond.methodLink RX0 72 yX3_at, Cond.instanceMethod yX3_at, Cond.selects RX3 yX3_at yX3_at, Cond.code yX3_at cX3_at 2 (some .int), Cond.methodLink RX0 47 yX3_put, Cond.instanceMethod yX3_put]
def wsX0_syncFile_r2 : List Cond := [Cond.selects RX3 yX3_put yX3_put, Cond.code yX3_put cX3_put 3 none]
def wsX0_syncFile : List Cond := .code yX0_syncFile cX0_syncFile 3 (some .int) :: ((wsX0_syncFile_r1 ++ wsX0_syncFile_r2) ++ wsX00 ++ wsX30)
def wsX0_dataBlocks : List Cond := .code yX0_dataBlocks cX0_dataBlocks 3 (some .int) :: ([.fieldLink RX0 32 "LendingDisk$Disk" "sizes" "LLendingDisk$Row;", .methodLink RX0 72 yX3_at, .instanceMethod yX3_at, .selects RX3 yX3_at yX3_at, .initialized RX3, .code yX3_at cX3_at 2 (some .int), .fieldLink RX3 13 "LendingDisk$Row" "cells" "[I"] ++ wsX00 ++ wsX30)
def wsX0_blocksWithoutData : List Cond := .code yX0_blocksWithoutData cX0_blocksWithoutData 1 (some .int) :: ([.methodLink RX0 140 yX0_dataBlocks, .instanceMethod yX0_dataBlocks, .selects RX0 yX0_dataBlocks yX0_dataBlocks, .initialized RX0, .code yX0_dataBlocks cX0_dataBlocks 3 (some .int), .fieldLink RX0 32 "LendingDisk$Disk" "sizes" "LLendingDisk$Row;", .methodLink RX0 72 yX3_at, .instanceMethod yX3_at, .selects RX3 yX3_at yX3_at, .initialized RX3, .code yX3_at cX3_at 2 (some .int), .fieldLink RX3 13 "LendingDisk$Row" "cells" "[I"] ++ wsX00 ++ wsX30)
def wsX0_freeBlocks : List Cond := .code yX0_freeBlocks cX0_freeBlocks 3 (some .int) :: ([.fieldLink RX0 20 "LendingDisk$Disk" "owners" "LLendingDisk$Row;", .methodLink RX0 54 yX3_holds, .instanceMethod yX3_holds, .selects RX3 yX3_holds yX3_holds, .initialized RX3, .code yX3_holds cX3_holds 3 (some .boolean), .fieldLink RX3 13 "LendingDisk$Row" "cells" "[I"] ++ wsX00 ++ wsX30)
def wsX0_greatestLender : List Cond := .code yX0_greatestLender cX0_greatestLender 5 (some .int) :: ([.methodLink RX0 82 yX0_lentOf, .instanceMethod yX0_lentOf, .selects RX0 yX0_lentOf yX0_lentOf, .initialized RX0, .code yX0_lentOf cX0_lentOf 2 (some .int), .fieldLink RX0 29 "LendingDisk$Disk" "lengths" "LLendingDisk$Row;", .fieldLink RX0 32 "LendingDisk$Disk" "sizes" "LLendingDisk$Row;", .methodLink RX0 72 yX3_at, .instanceMethod yX3_at, .selects RX3 yX3_at yX3_at, .initialized RX3, .code yX3_at cX3_at 2 (some .int), .fieldLink RX3 13 "LendingDisk$Row" "cells" "[I"] ++ wsX00 ++ wsX30)
def wsX0_takeBack_r1 : List Cond := [Cond.fieldLink RX0 44 "LendingDisk$Disk" "totals" "LLendingDisk$Row;", Cond.methodLink RX0 107 yX0_freeBlocks, Cond.instanceMethod yX0_freeBlocks, Cond.selects RX0 yX0_freeBlocks yX0_freeBlocks, Cond.initialized RX0, Cond.code yX0_freeBlocks cX0_freeBlocks 3 (some .int), Cond.fieldLink RX0 20 "LendingDisk$Disk" "owners" "LLendingDisk$Row;", Cond.methodLink RX0 54 yX3_holds, Cond.instanceMethod yX3_holds, Cond.selects RX3 yX3_holds yX3_holds, Cond.initialized RX3, Cond.code yX3_holds cX3_holds 3 (some .boolean), Cond.fieldLink RX3 13 "LendingDisk$Row" "cells" "[I", Cond.methodLink RX0 110 yX0_greatestLender, Cond.instanceMethod yX0_greatestLender, Cond.selects RX0 yX0_greatestLender yX0_greatestLender, Cond.code yX0_greatestLender cX0_greatestLender 5 (some .int), Cond.methodLink RX0 82 yX0_lentOf, Cond.instanceMethod yX0_lentOf, Cond.selects RX0 yX0_lentOf yX0_lentOf, Cond.code yX0_lentOf cX0_lentOf 2 (some .int), Cond.fieldLink RX0 29 "LendingDisk$Disk" "lengths" "LLendingDisk$Row;", Cond.fieldLink RX0 32 "LendingDisk$Disk" "sizes" "LLendingDisk$Row;", Cond.methodLink RX0 72 yX3_at]
def wsX0_takeBack_r2 : List Cond := [Cond.instanceMethod yX3_at, Cond.selects RX3 yX3_at yX3_at, Cond.code yX3_at cX3_at 2 (some .int), Cond.methodLink RX0 69 yX0_giveBack, Cond.instanceMethod yX0_giveBack, Cond.selects RX0 yX0_giveBack yX0_giveBack, Cond.code yX0_giveBack cX0_giveBack 3 (some .int), Cond.fieldLink RX0 38 "LendingDisk$Disk" "lends" "LLendingDisk$Row;", Cond.methodLink RX0 75 yX0_freeFrom, Cond.instanceMethod yX0_freeFrom, Cond.selects RX0 yX0_freeFrom yX0_freeFrom, Cond.code yX0_freeFrom cX0_freeFrom 4 none, Cond.fieldLink RX0 23 "LendingDisk$Disk" "places" "LLendingDisk$Row;", Cond.methodLink RX0 47 yX3_put, Cond.instanceMethod yX3_put, Cond.selects RX3 yX3_put yX3_put, Cond.code yX3_put cX3_put 3 none, Cond.methodLink RX0 104 yX3_grow, Cond.instanceMethod yX3_grow, Cond.selects RX3 yX3_grow yX3_grow, Cond.code yX3_grow cX3_grow 3 none]
def wsX0_takeBack : List Cond := .code yX0_takeBack cX0_takeBack 5 none :: ((wsX0_takeBack_r1 ++ wsX0_takeBack_r2) ++ wsX00 ++ wsX30)
def wsX0_blockAt : List Cond := .code yX0_blockAt cX0_blockAt 4 (some .int) :: ([.fieldLink RX0 20 "LendingDisk$Disk" "owners" "LLendingDisk$Row;", .fieldLink RX0 23 "LendingDisk$Disk" "places" "LLendingDisk$Row;", .methodLink RX0 54 yX3_holds, .instanceMethod yX3_holds, .selects RX3 yX3_holds yX3_holds, .initialized RX3, .code yX3_holds cX3_holds 3 (some .boolean), .fieldLink RX3 13 "LendingDisk$Row" "cells" "[I"] ++ wsX00 ++ wsX30)
def wsX0_addFrom : List Cond := .code yX0_addFrom cX0_addFrom 5 (some .int) :: ([.fieldLink RX0 20 "LendingDisk$Disk" "owners" "LLendingDisk$Row;", .fieldLink RX0 23 "LendingDisk$Disk" "places" "LLendingDisk$Row;", .fieldLink RX0 29 "LendingDisk$Disk" "lengths" "LLendingDisk$Row;", .methodLink RX0 54 yX3_holds, .instanceMethod yX3_holds, .selects RX3 yX3_holds yX3_holds, .initialized RX3, .code yX3_holds cX3_holds 3 (some .boolean), .fieldLink RX3 13 "LendingDisk$Row" "cells" "[I", .methodLink RX0 47 yX3_put, .instanceMethod yX3_put, .selects RX3 yX3_put yX3_put, .code yX3_put cX3_put 3 none, .methodLink RX0 72 yX3_at, .instanceMethod yX3_at, .selects RX3 yX3_at yX3_at, .code yX3_at cX3_at 2 (some .int), .methodLink RX0 104 yX3_grow, .instanceMethod yX3_grow, .selects RX3 yX3_grow yX3_grow, .code yX3_grow cX3_grow 3 none] ++ wsX00 ++ wsX30)
def wsX0_runFrom : List Cond := .code yX0_runFrom cX0_runFrom 3 (some .int) :: ([.fieldLink RX0 20 "LendingDisk$Disk" "owners" "LLendingDisk$Row;", .methodLink RX0 54 yX3_holds, .instanceMethod yX3_holds, .selects RX3 yX3_holds yX3_holds, .initialized RX3, .code yX3_holds cX3_holds 3 (some .boolean), .fieldLink RX3 13 "LendingDisk$Row" "cells" "[I"] ++ wsX00 ++ wsX30)
def wsX0_isBetter : List Cond := .code yX0_isBetter cX0_isBetter 4 (some .boolean) :: ([.fieldLink RX0 41 "LendingDisk$Disk" "settings" "LLendingDisk$Row;", .methodLink RX0 54 yX3_holds, .instanceMethod yX3_holds, .selects RX3 yX3_holds yX3_holds, .initialized RX3, .code yX3_holds cX3_holds 3 (some .boolean), .fieldLink RX3 13 "LendingDisk$Row" "cells" "[I"] ++ wsX00 ++ wsX30)
def wsX0_chosenRun : List Cond := .code yX0_chosenRun cX0_chosenRun 6 (some .int) :: ([.methodLink RX0 123 yX0_runFrom, .instanceMethod yX0_runFrom, .selects RX0 yX0_runFrom yX0_runFrom, .initialized RX0, .code yX0_runFrom cX0_runFrom 3 (some .int), .fieldLink RX0 20 "LendingDisk$Disk" "owners" "LLendingDisk$Row;", .methodLink RX0 54 yX3_holds, .instanceMethod yX3_holds, .selects RX3 yX3_holds yX3_holds, .initialized RX3, .code yX3_holds cX3_holds 3 (some .boolean), .fieldLink RX3 13 "LendingDisk$Row" "cells" "[I", .methodLink RX0 126 yX0_isBetter, .instanceMethod yX0_isBetter, .selects RX0 yX0_isBetter yX0_isBetter, .code yX0_isBetter cX0_isBetter 4 (some .boolean), .fieldLink RX0 41 "LendingDisk$Disk" "settings" "LLendingDisk$Row;"] ++ wsX00 ++ wsX30)
def wsX0_lengthen_r1 : List Cond := [Cond.fieldLink RX0 38 "LendingDisk$Disk" "lends" "LLendingDisk$Row;", Cond.fieldLink RX0 41 "LendingDisk$Disk" "settings" "LLendingDisk$Row;", Cond.methodLink RX0 98 Lib.Math.min.name, Cond.static Lib.Math.min.name, Cond.initialized "java/lang/Math", Cond.code Lib.Math.min.name Lib.Math.min.code 2 (some .int), Cond.fieldLink RX0 29 "LendingDisk$Disk" "lengths" "LLendingDisk$Row;", Cond.methodLink RX0 72 yX3_at, Cond.instanceMethod yX3_at, Cond.selects RX3 yX3_at yX3_at, Cond.initialized RX3, Cond.code yX3_at cX3_at 2 (some .int), Cond.fieldLink RX3 13 "LendingDisk$Row" "cells" "[I", Cond.methodLink RX0 107 yX0_freeBlocks, Cond.instanceMethod yX0_freeBlocks, Cond.selects RX0 yX0_freeBlocks yX0_freeBlocks, Cond.initialized RX0, Cond.code yX0_freeBlocks cX0_freeBlocks 3 (some .int), Cond.fieldLink RX0 20 "LendingDisk$Disk" "owners" "LLendingDisk$Row;", Cond.methodLink RX0 54 yX3_holds, Cond.instanceMethod yX3_holds, Cond.selects RX3 yX3_holds yX3_holds, Cond.code yX3_holds cX3_holds 3 (some .boolean), Cond.methodLink RX0 113 yX0_blockAt]
def wsX0_lengthen_r2 : List Cond := [Cond.instanceMethod yX0_blockAt, Cond.selects RX0 yX0_blockAt yX0_blockAt, Cond.code yX0_blockAt cX0_blockAt 4 (some .int), Cond.fieldLink RX0 23 "LendingDisk$Disk" "places" "LLendingDisk$Row;", Cond.methodLink RX0 116 yX0_addFrom, Cond.instanceMethod yX0_addFrom, Cond.selects RX0 yX0_addFrom yX0_addFrom, Cond.code yX0_addFrom cX0_addFrom 5 (some .int), Cond.methodLink RX0 47 yX3_put, Cond.instanceMethod yX3_put, Cond.selects RX3 yX3_put yX3_put, Cond.code yX3_put cX3_put 3 none, Cond.methodLink RX0 104 yX3_grow, Cond.instanceMethod yX3_grow, Cond.selects RX3 yX3_grow yX3_grow, Cond.code yX3_grow cX3_grow 3 none, Cond.methodLink RX0 120 yX0_chosenRun, Cond.instanceMethod yX0_chosenRun, Cond.selects RX0 yX0_chosenRun yX0_chosenRun, Cond.code yX0_chosenRun cX0_chosenRun 6 (some .int), Cond.methodLink RX0 123 yX0_runFrom, Cond.instanceMethod yX0_runFrom, Cond.selects RX0 yX0_runFrom yX0_runFrom, Cond.code yX0_runFrom cX0_runFrom 3 (some .int)]
def wsX0_lengthen_r3 : List Cond := [Cond.methodLink RX0 126 yX0_isBetter, Cond.instanceMethod yX0_isBetter, Cond.selects RX0 yX0_isBetter yX0_isBetter, Cond.code yX0_isBetter cX0_isBetter 4 (some .boolean)]
def wsX0_lengthen : List Cond := .code yX0_lengthen cX0_lengthen 8 none :: ((wsX0_lengthen_r1 ++ (wsX0_lengthen_r2 ++ wsX0_lengthen_r3)) ++ wsX00 ++ wsX30)
def wsX0_isPart : List Cond := .code yX0_isPart cX0_isPart 5 (some .boolean) :: ([.fieldLink RX0 20 "LendingDisk$Disk" "owners" "LLendingDisk$Row;", .fieldLink RX0 23 "LendingDisk$Disk" "places" "LLendingDisk$Row;", .methodLink RX0 54 yX3_holds, .instanceMethod yX3_holds, .selects RX3 yX3_holds yX3_holds, .initialized RX3, .code yX3_holds cX3_holds 3 (some .boolean), .fieldLink RX3 13 "LendingDisk$Row" "cells" "[I", .methodLink RX0 72 yX3_at, .instanceMethod yX3_at, .selects RX3 yX3_at yX3_at, .code yX3_at cX3_at 2 (some .int)] ++ wsX00 ++ wsX30)
def wsX0_write_r1 : List Cond := [Cond.fieldLink RX0 32 "LendingDisk$Disk" "sizes" "LLendingDisk$Row;", Cond.fieldLink RX0 14 "LendingDisk$Disk" "stamps" "LLendingDisk$Row;", Cond.fieldLink RX0 44 "LendingDisk$Disk" "totals" "LLendingDisk$Row;", Cond.methodLink RX0 72 yX3_at, Cond.instanceMethod yX3_at, Cond.selects RX3 yX3_at yX3_at, Cond.initialized RX3, Cond.code yX3_at cX3_at 2 (some .int), Cond.fieldLink RX3 13 "LendingDisk$Row" "cells" "[I", Cond.methodLink RX0 130 yX0_isPart, Cond.instanceMethod yX0_isPart, Cond.selects RX0 yX0_isPart yX0_isPart, Cond.initialized RX0, Cond.code yX0_isPart cX0_isPart 5 (some .boolean), Cond.fieldLink RX0 20 "LendingDisk$Disk" "owners" "LLendingDisk$Row;", Cond.fieldLink RX0 23 "LendingDisk$Disk" "places" "LLendingDisk$Row;", Cond.methodLink RX0 54 yX3_holds, Cond.instanceMethod yX3_holds, Cond.selects RX3 yX3_holds yX3_holds, Cond.code yX3_holds cX3_holds 3 (some .boolean), Cond.methodLink RX0 47 yX3_put, Cond.instanceMethod yX3_put, Cond.selects RX3 yX3_put yX3_put, Cond.code yX3_put cX3_put 3 none]
def wsX0_write_r2 : List Cond := [Cond.methodLink RX0 104 yX3_grow, Cond.instanceMethod yX3_grow, Cond.selects RX3 yX3_grow yX3_grow, Cond.code yX3_grow cX3_grow 3 none]
def wsX0_write : List Cond := .code yX0_write cX0_write 6 none :: ((wsX0_write_r1 ++ wsX0_write_r2) ++ wsX00 ++ wsX30)
def wsX0_beginsExtent : List Cond := .code yX0_beginsExtent cX0_beginsExtent 2 (some .boolean) :: ([.fieldLink RX0 20 "LendingDisk$Disk" "owners" "LLendingDisk$Row;", .fieldLink RX0 23 "LendingDisk$Disk" "places" "LLendingDisk$Row;", .methodLink RX0 72 yX3_at, .instanceMethod yX3_at, .selects RX3 yX3_at yX3_at, .initialized RX3, .code yX3_at cX3_at 2 (some .int), .fieldLink RX3 13 "LendingDisk$Row" "cells" "[I", .methodLink RX0 54 yX3_holds, .instanceMethod yX3_holds, .selects RX3 yX3_holds yX3_holds, .code yX3_holds cX3_holds 3 (some .boolean)] ++ wsX00 ++ wsX30)
def wsX0_extentsOf : List Cond := .code yX0_extentsOf cX0_extentsOf 4 (some .int) :: ([.fieldLink RX0 20 "LendingDisk$Disk" "owners" "LLendingDisk$Row;", .methodLink RX0 54 yX3_holds, .instanceMethod yX3_holds, .selects RX3 yX3_holds yX3_holds, .initialized RX3, .code yX3_holds cX3_holds 3 (some .boolean), .fieldLink RX3 13 "LendingDisk$Row" "cells" "[I", .methodLink RX0 134 yX0_beginsExtent, .instanceMethod yX0_beginsExtent, .selects RX0 yX0_beginsExtent yX0_beginsExtent, .initialized RX0, .code yX0_beginsExtent cX0_beginsExtent 2 (some .boolean), .fieldLink RX0 23 "LendingDisk$Disk" "places" "LLendingDisk$Row;", .methodLink RX0 72 yX3_at, .instanceMethod yX3_at, .selects RX3 yX3_at yX3_at, .code yX3_at cX3_at 2 (some .int)] ++ wsX00 ++ wsX30)
def wsX0_appendTo_r1 : List Cond := [Cond.methodLink RX0 58 yX0_isFile, Cond.instanceMethod yX0_isFile, Cond.selects RX0 yX0_isFile yX0_isFile, Cond.initialized RX0, Cond.code yX0_isFile cX0_isFile 2 (some .boolean), Cond.fieldLink RX0 26 "LendingDisk$Disk" "modes" "LLendingDisk$Row;", Cond.methodLink RX0 54 yX3_holds, Cond.instanceMethod yX3_holds, Cond.selects RX3 yX3_holds yX3_holds, Cond.initialized RX3, Cond.code yX3_holds cX3_holds 3 (some .boolean), Cond.fieldLink RX3 13 "LendingDisk$Row" "cells" "[I", Cond.methodLink RX0 62 yX0_isOpen, Cond.instanceMethod yX0_isOpen, Cond.selects RX0 yX0_isOpen yX0_isOpen, Cond.code yX0_isOpen cX0_isOpen 2 (some .boolean), Cond.methodLink RX0 78 yX0_blocksWithoutData, Cond.instanceMethod yX0_blocksWithoutData, Cond.selects RX0 yX0_blocksWithoutData yX0_blocksWithoutData, Cond.code yX0_blocksWithoutData cX0_blocksWithoutData 1 (some .int), Cond.methodLink RX0 140 yX0_dataBlocks, Cond.instanceMethod yX0_dataBlocks, Cond.selects RX0 yX0_dataBlocks yX0_dataBlocks, Cond.code yX0_dataBlocks cX0_dataBlocks 3 (some .int)]
def wsX0_appendTo_r2 : List Cond := [Cond.fieldLink RX0 32 "LendingDisk$Disk" "sizes" "LLendingDisk$Row;", Cond.methodLink RX0 72 yX3_at, Cond.instanceMethod yX3_at, Cond.selects RX3 yX3_at yX3_at, Cond.code yX3_at cX3_at 2 (some .int), Cond.methodLink RX0 82 yX0_lentOf, Cond.instanceMethod yX0_lentOf, Cond.selects RX0 yX0_lentOf yX0_lentOf, Cond.code yX0_lentOf cX0_lentOf 2 (some .int), Cond.fieldLink RX0 29 "LendingDisk$Disk" "lengths" "LLendingDisk$Row;", Cond.methodLink RX0 85 yX0_takeBack, Cond.instanceMethod yX0_takeBack, Cond.selects RX0 yX0_takeBack yX0_takeBack, Cond.code yX0_takeBack cX0_takeBack 5 none, Cond.fieldLink RX0 44 "LendingDisk$Disk" "totals" "LLendingDisk$Row;", Cond.methodLink RX0 107 yX0_freeBlocks, Cond.instanceMethod yX0_freeBlocks, Cond.selects RX0 yX0_freeBlocks yX0_freeBlocks, Cond.code yX0_freeBlocks cX0_freeBlocks 3 (some .int), Cond.fieldLink RX0 20 "LendingDisk$Disk" "owners" "LLendingDisk$Row;", Cond.methodLink RX0 110 yX0_greatestLender, Cond.instanceMethod yX0_greatestLender, Cond.selects RX0 yX0_greatestLender yX0_greatestLender, Cond.code yX0_greatestLender cX0_greatestLender 5 (some .int)]
def wsX0_appendTo_r3 : List Cond := [Cond.methodLink RX0 69 yX0_giveBack, Cond.instanceMethod yX0_giveBack, Cond.selects RX0 yX0_giveBack yX0_giveBack, Cond.code yX0_giveBack cX0_giveBack 3 (some .int), Cond.fieldLink RX0 38 "LendingDisk$Disk" "lends" "LLendingDisk$Row;", Cond.methodLink RX0 75 yX0_freeFrom, Cond.instanceMethod yX0_freeFrom, Cond.selects RX0 yX0_freeFrom yX0_freeFrom, Cond.code yX0_freeFrom cX0_freeFrom 4 none, Cond.fieldLink RX0 23 "LendingDisk$Disk" "places" "LLendingDisk$Row;", Cond.methodLink RX0 47 yX3_put, Cond.instanceMethod yX3_put, Cond.selects RX3 yX3_put yX3_put, Cond.code yX3_put cX3_put 3 none, Cond.methodLink RX0 104 yX3_grow, Cond.instanceMethod yX3_grow, Cond.selects RX3 yX3_grow yX3_grow, Cond.code yX3_grow cX3_grow 3 none, Cond.methodLink RX0 88 yX0_lengthen, Cond.instanceMethod yX0_lengthen, Cond.selects RX0 yX0_lengthen yX0_lengthen, Cond.code yX0_lengthen cX0_lengthen 8 none, Cond.fieldLink RX0 41 "LendingDisk$Disk" "settings" "LLendingDisk$Row;", Cond.methodLink RX0 98 Lib.Math.min.name]
def wsX0_appendTo_r4 : List Cond := [Cond.static Lib.Math.min.name, Cond.initialized "java/lang/Math", Cond.code Lib.Math.min.name Lib.Math.min.code 2 (some .int), Cond.methodLink RX0 113 yX0_blockAt, Cond.instanceMethod yX0_blockAt, Cond.selects RX0 yX0_blockAt yX0_blockAt, Cond.code yX0_blockAt cX0_blockAt 4 (some .int), Cond.methodLink RX0 116 yX0_addFrom, Cond.instanceMethod yX0_addFrom, Cond.selects RX0 yX0_addFrom yX0_addFrom, Cond.code yX0_addFrom cX0_addFrom 5 (some .int), Cond.methodLink RX0 120 yX0_chosenRun, Cond.instanceMethod yX0_chosenRun, Cond.selects RX0 yX0_chosenRun yX0_chosenRun, Cond.code yX0_chosenRun cX0_chosenRun 6 (some .int), Cond.methodLink RX0 123 yX0_runFrom, Cond.instanceMethod yX0_runFrom, Cond.selects RX0 yX0_runFrom yX0_runFrom, Cond.code yX0_runFrom cX0_runFrom 3 (some .int), Cond.methodLink RX0 126 yX0_isBetter, Cond.instanceMethod yX0_isBetter, Cond.selects RX0 yX0_isBetter yX0_isBetter, Cond.code yX0_isBetter cX0_isBetter 4 (some .boolean), Cond.methodLink RX0 91 yX0_write]
def wsX0_appendTo_r5 : List Cond := [Cond.instanceMethod yX0_write, Cond.selects RX0 yX0_write yX0_write, Cond.code yX0_write cX0_write 6 none, Cond.fieldLink RX0 14 "LendingDisk$Disk" "stamps" "LLendingDisk$Row;", Cond.methodLink RX0 130 yX0_isPart, Cond.instanceMethod yX0_isPart, Cond.selects RX0 yX0_isPart yX0_isPart, Cond.code yX0_isPart cX0_isPart 5 (some .boolean), Cond.methodLink RX0 95 yX0_extentsOf, Cond.instanceMethod yX0_extentsOf, Cond.selects RX0 yX0_extentsOf yX0_extentsOf, Cond.code yX0_extentsOf cX0_extentsOf 4 (some .int), Cond.methodLink RX0 134 yX0_beginsExtent, Cond.instanceMethod yX0_beginsExtent, Cond.selects RX0 yX0_beginsExtent yX0_beginsExtent, Cond.code yX0_beginsExtent cX0_beginsExtent 2 (some .boolean)]
def wsX0_appendTo : List Cond := .code yX0_appendTo cX0_appendTo 5 (some .int) :: ((wsX0_appendTo_r1 ++ (wsX0_appendTo_r2 ++ (wsX0_appendTo_r3 ++ (wsX0_appendTo_r4 ++ wsX0_appendTo_r5)))) ++ wsX00 ++ wsX30)
def wsX0_cutFile_r1 : List Cond := [Cond.fieldLink RX0 32 "LendingDisk$Disk" "sizes" "LLendingDisk$Row;", Cond.fieldLink RX0 29 "LendingDisk$Disk" "lengths" "LLendingDisk$Row;", Cond.fieldLink RX0 35 "LendingDisk$Disk" "safeSizes" "LLendingDisk$Row;", Cond.methodLink RX0 98 Lib.Math.min.name, Cond.static Lib.Math.min.name, Cond.initialized "java/lang/Math", Cond.code Lib.Math.min.name Lib.Math.min.code 2 (some .int), Cond.methodLink RX0 58 yX0_isFile, Cond.instanceMethod yX0_isFile, Cond.selects RX0 yX0_isFile yX0_isFile, Cond.initialized RX0, Cond.code yX0_isFile cX0_isFile 2 (some .boolean), Cond.fieldLink RX0 26 "LendingDisk$Disk" "modes" "LLendingDisk$Row;", Cond.methodLink RX0 54 yX3_holds, Cond.instanceMethod yX3_holds, Cond.selects RX3 yX3_holds yX3_holds, Cond.initialized RX3, Cond.code yX3_holds cX3_holds 3 (some .boolean), Cond.fieldLink RX3 13 "LendingDisk$Row" "cells" "[I", Cond.methodLink RX0 62 yX0_isOpen, Cond.instanceMethod yX0_isOpen, Cond.selects RX0 yX0_isOpen yX0_isOpen, Cond.code yX0_isOpen cX0_isOpen 2 (some .boolean), Cond.methodLink RX0 72 yX3_at]
def wsX0_cutFile_r2 : List Cond := [Cond.instanceMethod yX3_at, Cond.selects RX3 yX3_at yX3_at, Cond.code yX3_at cX3_at 2 (some .int), Cond.methodLink RX0 69 yX0_giveBack, Cond.instanceMethod yX0_giveBack, Cond.selects RX0 yX0_giveBack yX0_giveBack, Cond.code yX0_giveBack cX0_giveBack 3 (some .int), Cond.fieldLink RX0 38 "LendingDisk$Disk" "lends" "LLendingDisk$Row;", Cond.fieldLink RX0 44 "LendingDisk$Disk" "totals" "LLendingDisk$Row;", Cond.methodLink RX0 82 yX0_lentOf, Cond.instanceMethod yX0_lentOf, Cond.selects RX0 yX0_lentOf yX0_lentOf, Cond.code yX0_lentOf cX0_lentOf 2 (some .int), Cond.methodLink RX0 75 yX0_freeFrom, Cond.instanceMethod yX0_freeFrom, Cond.selects RX0 yX0_freeFrom yX0_freeFrom, Cond.code yX0_freeFrom cX0_freeFrom 4 none, Cond.fieldLink RX0 20 "LendingDisk$Disk" "owners" "LLendingDisk$Row;", Cond.fieldLink RX0 23 "LendingDisk$Disk" "places" "LLendingDisk$Row;", Cond.methodLink RX0 47 yX3_put, Cond.instanceMethod yX3_put, Cond.selects RX3 yX3_put yX3_put, Cond.code yX3_put cX3_put 3 none, Cond.methodLink RX0 104 yX3_grow]
def wsX0_cutFile_r3 : List Cond := [Cond.instanceMethod yX3_grow, Cond.selects RX3 yX3_grow yX3_grow, Cond.code yX3_grow cX3_grow 3 none]
def wsX0_cutFile : List Cond := .code yX0_cutFile cX0_cutFile 4 (some .int) :: ((wsX0_cutFile_r1 ++ (wsX0_cutFile_r2 ++ wsX0_cutFile_r3)) ++ wsX00 ++ wsX30)
def wsX0_crashAll_r1 : List Cond := [Cond.fieldLink RX0 32 "LendingDisk$Disk" "sizes" "LLendingDisk$Row;", Cond.fieldLink RX0 35 "LendingDisk$Disk" "safeSizes" "LLendingDisk$Row;", Cond.fieldLink RX0 38 "LendingDisk$Disk" "lends" "LLendingDisk$Row;", Cond.fieldLink RX0 26 "LendingDisk$Disk" "modes" "LLendingDisk$Row;", Cond.fieldLink RX0 44 "LendingDisk$Disk" "totals" "LLendingDisk$Row;", Cond.methodLink RX0 58 yX0_isFile, Cond.instanceMethod yX0_isFile, Cond.selects RX0 yX0_isFile yX0_isFile, Cond.initialized RX0, Cond.code yX0_isFile cX0_isFile 2 (some .boolean), Cond.methodLink RX0 54 yX3_holds, Cond.instanceMethod yX3_holds, Cond.selects RX3 yX3_holds yX3_holds, Cond.initialized RX3, Cond.code yX3_holds cX3_holds 3 (some .boolean), Cond.fieldLink RX3 13 "LendingDisk$Row" "cells" "[I", Cond.methodLink RX0 72 yX3_at, Cond.instanceMethod yX3_at, Cond.selects RX3 yX3_at yX3_at, Cond.code yX3_at cX3_at 2 (some .int), Cond.methodLink RX0 47 yX3_put, Cond.instanceMethod yX3_put, Cond.selects RX3 yX3_put yX3_put, Cond.code yX3_put cX3_put 3 none]
def wsX0_crashAll_r2 : List Cond := [Cond.methodLink RX0 104 yX3_grow, Cond.instanceMethod yX3_grow, Cond.selects RX3 yX3_grow yX3_grow, Cond.code yX3_grow cX3_grow 3 none]
def wsX0_crashAll : List Cond := .code yX0_crashAll cX0_crashAll 3 (some .int) :: ((wsX0_crashAll_r1 ++ wsX0_crashAll_r2) ++ wsX00 ++ wsX30)
def wsX0_mendAll_r1 : List Cond := [Cond.fieldLink RX0 26 "LendingDisk$Disk" "modes" "LLendingDisk$Row;", Cond.methodLink RX0 54 yX3_holds, Cond.instanceMethod yX3_holds, Cond.selects RX3 yX3_holds yX3_holds, Cond.initialized RX3, Cond.code yX3_holds cX3_holds 3 (some .boolean), Cond.fieldLink RX3 13 "LendingDisk$Row" "cells" "[I", Cond.methodLink RX0 69 yX0_giveBack, Cond.instanceMethod yX0_giveBack, Cond.selects RX0 yX0_giveBack yX0_giveBack, Cond.initialized RX0, Cond.code yX0_giveBack cX0_giveBack 3 (some .int), Cond.fieldLink RX0 32 "LendingDisk$Disk" "sizes" "LLendingDisk$Row;", Cond.fieldLink RX0 38 "LendingDisk$Disk" "lends" "LLendingDisk$Row;", Cond.fieldLink RX0 44 "LendingDisk$Disk" "totals" "LLendingDisk$Row;", Cond.methodLink RX0 82 yX0_lentOf, Cond.instanceMethod yX0_lentOf, Cond.selects RX0 yX0_lentOf yX0_lentOf, Cond.code yX0_lentOf cX0_lentOf 2 (some .int), Cond.fieldLink RX0 29 "LendingDisk$Disk" "lengths" "LLendingDisk$Row;", Cond.methodLink RX0 72 yX3_at, Cond.instanceMethod yX3_at, Cond.selects RX3 yX3_at yX3_at, Cond.code yX3_at cX3_at 2 (some .int)]
def wsX0_mendAll_r2 : List Cond := [Cond.methodLink RX0 75 yX0_freeFrom, Cond.instanceMethod yX0_freeFrom, Cond.selects RX0 yX0_freeFrom yX0_freeFrom, Cond.code yX0_freeFrom cX0_freeFrom 4 none, Cond.fieldLink RX0 20 "LendingDisk$Disk" "owners" "LLendingDisk$Row;", Cond.fieldLink RX0 23 "LendingDisk$Disk" "places" "LLendingDisk$Row;", Cond.methodLink RX0 47 yX3_put, Cond.instanceMethod yX3_put, Cond.selects RX3 yX3_put yX3_put, Cond.code yX3_put cX3_put 3 none, Cond.methodLink RX0 104 yX3_grow, Cond.instanceMethod yX3_grow, Cond.selects RX3 yX3_grow yX3_grow, Cond.code yX3_grow cX3_grow 3 none]
def wsX0_mendAll : List Cond := .code yX0_mendAll cX0_mendAll 3 (some .int) :: ((wsX0_mendAll_r1 ++ wsX0_mendAll_r2) ++ wsX00 ++ wsX30)
def wsX0_changeSetting : List Cond := .code yX0_changeSetting cX0_changeSetting 5 (some .int) :: ([.fieldLink RX0 41 "LendingDisk$Disk" "settings" "LLendingDisk$Row;", .methodLink RX0 72 yX3_at, .instanceMethod yX3_at, .selects RX3 yX3_at yX3_at, .initialized RX3, .code yX3_at cX3_at 2 (some .int), .fieldLink RX3 13 "LendingDisk$Row" "cells" "[I", .methodLink RX0 47 yX3_put, .instanceMethod yX3_put, .selects RX3 yX3_put yX3_put, .code yX3_put cX3_put 3 none] ++ wsX00 ++ wsX30)
def wsX0_ownerOf : List Cond := .code yX0_ownerOf cX0_ownerOf 2 (some .int) :: ([.fieldLink RX0 20 "LendingDisk$Disk" "owners" "LLendingDisk$Row;", .methodLink RX0 72 yX3_at, .instanceMethod yX3_at, .selects RX3 yX3_at yX3_at, .initialized RX3, .code yX3_at cX3_at 2 (some .int), .fieldLink RX3 13 "LendingDisk$Row" "cells" "[I"] ++ wsX00 ++ wsX30)
def wsX0_placeOf : List Cond := .code yX0_placeOf cX0_placeOf 2 (some .int) :: ([.fieldLink RX0 23 "LendingDisk$Disk" "places" "LLendingDisk$Row;", .methodLink RX0 72 yX3_at, .instanceMethod yX3_at, .selects RX3 yX3_at yX3_at, .initialized RX3, .code yX3_at cX3_at 2 (some .int), .fieldLink RX3 13 "LendingDisk$Row" "cells" "[I"] ++ wsX00 ++ wsX30)
def wsX0_stampOf : List Cond := .code yX0_stampOf cX0_stampOf 2 (some .int) :: ([.fieldLink RX0 14 "LendingDisk$Disk" "stamps" "LLendingDisk$Row;", .methodLink RX0 72 yX3_at, .instanceMethod yX3_at, .selects RX3 yX3_at yX3_at, .initialized RX3, .code yX3_at cX3_at 2 (some .int), .fieldLink RX3 13 "LendingDisk$Row" "cells" "[I"] ++ wsX00 ++ wsX30)
def wsX0_useOf : List Cond := .code yX0_useOf cX0_useOf 2 (some .int) :: ([.fieldLink RX0 20 "LendingDisk$Disk" "owners" "LLendingDisk$Row;", .fieldLink RX0 23 "LendingDisk$Disk" "places" "LLendingDisk$Row;", .fieldLink RX0 32 "LendingDisk$Disk" "sizes" "LLendingDisk$Row;", .methodLink RX0 54 yX3_holds, .instanceMethod yX3_holds, .selects RX3 yX3_holds yX3_holds, .initialized RX3, .code yX3_holds cX3_holds 3 (some .boolean), .fieldLink RX3 13 "LendingDisk$Row" "cells" "[I", .methodLink RX0 72 yX3_at, .instanceMethod yX3_at, .selects RX3 yX3_at yX3_at, .code yX3_at cX3_at 2 (some .int)] ++ wsX00 ++ wsX30)
def wsX0_sizeOf : List Cond := .code yX0_sizeOf cX0_sizeOf 2 (some .int) :: ([.fieldLink RX0 32 "LendingDisk$Disk" "sizes" "LLendingDisk$Row;", .methodLink RX0 72 yX3_at, .instanceMethod yX3_at, .selects RX3 yX3_at yX3_at, .initialized RX3, .code yX3_at cX3_at 2 (some .int), .fieldLink RX3 13 "LendingDisk$Row" "cells" "[I"] ++ wsX00 ++ wsX30)
def wsX0_safeSizeOf : List Cond := .code yX0_safeSizeOf cX0_safeSizeOf 2 (some .int) :: ([.fieldLink RX0 35 "LendingDisk$Disk" "safeSizes" "LLendingDisk$Row;", .methodLink RX0 72 yX3_at, .instanceMethod yX3_at, .selects RX3 yX3_at yX3_at, .initialized RX3, .code yX3_at cX3_at 2 (some .int), .fieldLink RX3 13 "LendingDisk$Row" "cells" "[I"] ++ wsX00 ++ wsX30)
def wsX0_lendOf : List Cond := .code yX0_lendOf cX0_lendOf 2 (some .int) :: ([.fieldLink RX0 38 "LendingDisk$Disk" "lends" "LLendingDisk$Row;", .methodLink RX0 72 yX3_at, .instanceMethod yX3_at, .selects RX3 yX3_at yX3_at, .initialized RX3, .code yX3_at cX3_at 2 (some .int), .fieldLink RX3 13 "LendingDisk$Row" "cells" "[I"] ++ wsX00 ++ wsX30)
def wsX0_placeOfExtent : List Cond := .code yX0_placeOfExtent cX0_placeOfExtent 5 (some .int) :: ([.fieldLink RX0 29 "LendingDisk$Disk" "lengths" "LLendingDisk$Row;", .methodLink RX0 72 yX3_at, .instanceMethod yX3_at, .selects RX3 yX3_at yX3_at, .initialized RX3, .code yX3_at cX3_at 2 (some .int), .fieldLink RX3 13 "LendingDisk$Row" "cells" "[I", .methodLink RX0 113 yX0_blockAt, .instanceMethod yX0_blockAt, .selects RX0 yX0_blockAt yX0_blockAt, .initialized RX0, .code yX0_blockAt cX0_blockAt 4 (some .int), .fieldLink RX0 20 "LendingDisk$Disk" "owners" "LLendingDisk$Row;", .fieldLink RX0 23 "LendingDisk$Disk" "places" "LLendingDisk$Row;", .methodLink RX0 54 yX3_holds, .instanceMethod yX3_holds, .selects RX3 yX3_holds yX3_holds, .code yX3_holds cX3_holds 3 (some .boolean), .methodLink RX0 134 yX0_beginsExtent, .instanceMethod yX0_beginsExtent, .selects RX0 yX0_beginsExtent yX0_beginsExtent, .code yX0_beginsExtent cX0_beginsExtent 2 (some .boolean)] ++ wsX00 ++ wsX30)
def wsX0_extentFrom : List Cond := .code yX0_extentFrom cX0_extentFrom 4 (some .int) :: ([.fieldLink RX0 29 "LendingDisk$Disk" "lengths" "LLendingDisk$Row;", .methodLink RX0 72 yX3_at, .instanceMethod yX3_at, .selects RX3 yX3_at yX3_at, .initialized RX3, .code yX3_at cX3_at 2 (some .int), .fieldLink RX3 13 "LendingDisk$Row" "cells" "[I", .methodLink RX0 113 yX0_blockAt, .instanceMethod yX0_blockAt, .selects RX0 yX0_blockAt yX0_blockAt, .initialized RX0, .code yX0_blockAt cX0_blockAt 4 (some .int), .fieldLink RX0 20 "LendingDisk$Disk" "owners" "LLendingDisk$Row;", .fieldLink RX0 23 "LendingDisk$Disk" "places" "LLendingDisk$Row;", .methodLink RX0 54 yX3_holds, .instanceMethod yX3_holds, .selects RX3 yX3_holds yX3_holds, .code yX3_holds cX3_holds 3 (some .boolean), .methodLink RX0 134 yX0_beginsExtent, .instanceMethod yX0_beginsExtent, .selects RX0 yX0_beginsExtent yX0_beginsExtent, .code yX0_beginsExtent cX0_beginsExtent 2 (some .boolean)] ++ wsX00 ++ wsX30)
def wsX0_sumOfStamps : List Cond := .code yX0_sumOfStamps cX0_sumOfStamps 6 (some .int) :: ([.fieldLink RX0 14 "LendingDisk$Disk" "stamps" "LLendingDisk$Row;", .methodLink RX0 130 yX0_isPart, .instanceMethod yX0_isPart, .selects RX0 yX0_isPart yX0_isPart, .initialized RX0, .code yX0_isPart cX0_isPart 5 (some .boolean), .fieldLink RX0 20 "LendingDisk$Disk" "owners" "LLendingDisk$Row;", .fieldLink RX0 23 "LendingDisk$Disk" "places" "LLendingDisk$Row;", .methodLink RX0 54 yX3_holds, .instanceMethod yX3_holds, .selects RX3 yX3_holds yX3_holds, .initialized RX3, .code yX3_holds cX3_holds 3 (some .boolean), .fieldLink RX3 13 "LendingDisk$Row" "cells" "[I", .methodLink RX0 72 yX3_at, .instanceMethod yX3_at, .selects RX3 yX3_at yX3_at, .code yX3_at cX3_at 2 (some .int)] ++ wsX00 ++ wsX30)
def wsX0_firstOfRun : List Cond := .code yX0_firstOfRun cX0_firstOfRun 4 (some .int) :: ([.methodLink RX0 123 yX0_runFrom, .instanceMethod yX0_runFrom, .selects RX0 yX0_runFrom yX0_runFrom, .initialized RX0, .code yX0_runFrom cX0_runFrom 3 (some .int), .fieldLink RX0 20 "LendingDisk$Disk" "owners" "LLendingDisk$Row;", .methodLink RX0 54 yX3_holds, .instanceMethod yX3_holds, .selects RX3 yX3_holds yX3_holds, .initialized RX3, .code yX3_holds cX3_holds 3 (some .boolean), .fieldLink RX3 13 "LendingDisk$Row" "cells" "[I"] ++ wsX00 ++ wsX30)
def wsX0_freeRuns : List Cond := .code yX0_freeRuns cX0_freeRuns 3 (some .int) :: ([.methodLink RX0 123 yX0_runFrom, .instanceMethod yX0_runFrom, .selects RX0 yX0_runFrom yX0_runFrom, .initialized RX0, .code yX0_runFrom cX0_runFrom 3 (some .int), .fieldLink RX0 20 "LendingDisk$Disk" "owners" "LLendingDisk$Row;", .methodLink RX0 54 yX3_holds, .instanceMethod yX3_holds, .selects RX3 yX3_holds yX3_holds, .initialized RX3, .code yX3_holds cX3_holds 3 (some .boolean), .fieldLink RX3 13 "LendingDisk$Row" "cells" "[I"] ++ wsX00 ++ wsX30)
def wsX0_longestRun : List Cond := .code yX0_longestRun cX0_longestRun 3 (some .int) :: ([.methodLink RX0 137 Lib.Math.max.name, .static Lib.Math.max.name, .initialized "java/lang/Math", .code Lib.Math.max.name Lib.Math.max.code 2 (some .int), .methodLink RX0 123 yX0_runFrom, .instanceMethod yX0_runFrom, .selects RX0 yX0_runFrom yX0_runFrom, .initialized RX0, .code yX0_runFrom cX0_runFrom 3 (some .int), .fieldLink RX0 20 "LendingDisk$Disk" "owners" "LLendingDisk$Row;", .methodLink RX0 54 yX3_holds, .instanceMethod yX3_holds, .selects RX3 yX3_holds yX3_holds, .initialized RX3, .code yX3_holds cX3_holds 3 (some .boolean), .fieldLink RX3 13 "LendingDisk$Row" "cells" "[I"] ++ wsX00 ++ wsX30)
def wsX0_totalOf : List Cond := .code yX0_totalOf cX0_totalOf 2 (some .int) :: ([.fieldLink RX0 44 "LendingDisk$Disk" "totals" "LLendingDisk$Row;", .methodLink RX0 72 yX3_at, .instanceMethod yX3_at, .selects RX3 yX3_at yX3_at, .initialized RX3, .code yX3_at cX3_at 2 (some .int), .fieldLink RX3 13 "LendingDisk$Row" "cells" "[I"] ++ wsX00 ++ wsX30)
def wsX0_lentToFilesThatAre : List Cond := .code yX0_lentToFilesThatAre cX0_lentToFilesThatAre 4 (some .int) :: ([.fieldLink RX0 26 "LendingDisk$Disk" "modes" "LLendingDisk$Row;", .methodLink RX0 54 yX3_holds, .instanceMethod yX3_holds, .selects RX3 yX3_holds yX3_holds, .initialized RX3, .code yX3_holds cX3_holds 3 (some .boolean), .fieldLink RX3 13 "LendingDisk$Row" "cells" "[I", .methodLink RX0 82 yX0_lentOf, .instanceMethod yX0_lentOf, .selects RX0 yX0_lentOf yX0_lentOf, .initialized RX0, .code yX0_lentOf cX0_lentOf 2 (some .int), .fieldLink RX0 29 "LendingDisk$Disk" "lengths" "LLendingDisk$Row;", .fieldLink RX0 32 "LendingDisk$Disk" "sizes" "LLendingDisk$Row;", .methodLink RX0 72 yX3_at, .instanceMethod yX3_at, .selects RX3 yX3_at yX3_at, .code yX3_at cX3_at 2 (some .int)] ++ wsX00 ++ wsX30)
def wsX0_filesWithBlocks : List Cond := .code yX0_filesWithBlocks cX0_filesWithBlocks 3 (some .int) :: ([.fieldLink RX0 29 "LendingDisk$Disk" "lengths" "LLendingDisk$Row;", .methodLink RX0 72 yX3_at, .instanceMethod yX3_at, .selects RX3 yX3_at yX3_at, .initialized RX3, .code yX3_at cX3_at 2 (some .int), .fieldLink RX3 13 "LendingDisk$Row" "cells" "[I"] ++ wsX00 ++ wsX30)
def wsX0_allExtents : List Cond := .code yX0_allExtents cX0_allExtents 3 (some .int) :: ([.methodLink RX0 95 yX0_extentsOf, .instanceMethod yX0_extentsOf, .selects RX0 yX0_extentsOf yX0_extentsOf, .initialized RX0, .code yX0_extentsOf cX0_extentsOf 4 (some .int), .fieldLink RX0 20 "LendingDisk$Disk" "owners" "LLendingDisk$Row;", .methodLink RX0 54 yX3_holds, .instanceMethod yX3_holds, .selects RX3 yX3_holds yX3_holds, .initialized RX3, .code yX3_holds cX3_holds 3 (some .boolean), .fieldLink RX3 13 "LendingDisk$Row" "cells" "[I", .methodLink RX0 134 yX0_beginsExtent, .instanceMethod yX0_beginsExtent, .selects RX0 yX0_beginsExtent yX0_beginsExtent, .code yX0_beginsExtent cX0_beginsExtent 2 (some .boolean), .fieldLink RX0 23 "LendingDisk$Disk" "places" "LLendingDisk$Row;", .methodLink RX0 72 yX3_at, .instanceMethod yX3_at, .selects RX3 yX3_at yX3_at, .code yX3_at cX3_at 2 (some .int)] ++ wsX00 ++ wsX30)
def wsX1_init_r1 : List Cond := [Cond.methodLink RX1 3 objectInit, Cond.instanceMethod objectInit, Cond.code objectInit ⟨#[0xb1]⟩ 1 none, Cond.classLink RX1 9 RX0, Cond.fieldLink RX1 11 "LendingDisk$History" "slots" "[LLendingDisk$Disk;", Cond.fieldLink RX1 17 "LendingDisk$History" "oldest" "I", Cond.fieldLink RX1 21 "LendingDisk$History" "size" "I", Cond.instantiable RX0 10, Cond.initialized RX0, Cond.methodLink RX1 24 yX0_init, Cond.instanceMethod yX0_init, Cond.code yX0_init cX0_init 1 none, Cond.methodLink RX0 3 objectInit, Cond.classLink RX0 9 RX3, Cond.instantiable RX3 1, Cond.initialized RX3, Cond.fieldLink RX0 14 "LendingDisk$Disk" "stamps" "LLendingDisk$Row;", Cond.fieldLink RX0 20 "LendingDisk$Disk" "owners" "LLendingDisk$Row;", Cond.fieldLink RX0 23 "LendingDisk$Disk" "places" "LLendingDisk$Row;", Cond.fieldLink RX0 26 "LendingDisk$Disk" "modes" "LLendingDisk$Row;", Cond.fieldLink RX0 29 "LendingDisk$Disk" "lengths" "LLendingDisk$Row;", Cond.fieldLink RX0 32 "LendingDisk$Disk" "sizes" "LLendingDisk$Row;", Cond.fieldLink RX0 35 "LendingDisk$Disk" "safeSizes" "LLendingDisk$Row;", Cond.fieldLink RX0 38 "LendingDisk$Disk" "lends" "LLendingDisk$Row;"]
def wsX1_init_r2 : List Cond := [Cond.fieldLink RX0 41 "LendingDisk$Disk" "settings" "LLendingDisk$Row;", Cond.fieldLink RX0 44 "LendingDisk$Disk" "totals" "LLendingDisk$Row;", Cond.methodLink RX0 11 yX3_init, Cond.instanceMethod yX3_init, Cond.code yX3_init cX3_init 4 none, Cond.methodLink RX3 1 objectInit, Cond.methodLink RX3 7 Lib.Math.max.name, Cond.static Lib.Math.max.name, Cond.initialized "java/lang/Math", Cond.code Lib.Math.max.name Lib.Math.max.code 2 (some .int), Cond.arrayClass .int, Cond.fieldLink RX3 13 "LendingDisk$Row" "cells" "[I", Cond.methodLink RX0 47 yX3_put, Cond.instanceMethod yX3_put, Cond.selects RX3 yX3_put yX3_put, Cond.code yX3_put cX3_put 3 none]
def wsX1_init : List Cond := .code yX1_init cX1_init 2 none :: ((wsX1_init_r1 ++ wsX1_init_r2) ++ wsX10 ++ wsX00 ++ wsX30)
def wsX1_size : List Cond := .code yX1_size cX1_size 1 (some .int) :: ([.fieldLink RX1 21 "LendingDisk$History" "size" "I"] ++ wsX10)
def wsX1_slotBehind : List Cond := .code yX1_slotBehind cX1_slotBehind 3 (some (.object "LendingDisk$Disk")) :: ([.fieldLink RX1 17 "LendingDisk$History" "oldest" "I", .fieldLink RX1 11 "LendingDisk$History" "slots" "[LLendingDisk$Disk;"] ++ wsX10)
def wsX1_record_r1 : List Cond := [Cond.fieldLink RX1 21 "LendingDisk$History" "size" "I", Cond.fieldLink RX1 17 "LendingDisk$History" "oldest" "I", Cond.methodLink RX1 25 yX1_slotBehind, Cond.instanceMethod yX1_slotBehind, Cond.selects RX1 yX1_slotBehind yX1_slotBehind, Cond.initialized RX1, Cond.code yX1_slotBehind cX1_slotBehind 3 (some (.object "LendingDisk$Disk")), Cond.fieldLink RX1 11 "LendingDisk$History" "slots" "[LLendingDisk$Disk;", Cond.methodLink RX1 29 yX0_copyFrom, Cond.instanceMethod yX0_copyFrom, Cond.selects RX0 yX0_copyFrom yX0_copyFrom, Cond.initialized RX0, Cond.code yX0_copyFrom cX0_copyFrom 2 none, Cond.fieldLink RX0 14 "LendingDisk$Disk" "stamps" "LLendingDisk$Row;", Cond.fieldLink RX0 20 "LendingDisk$Disk" "owners" "LLendingDisk$Row;", Cond.fieldLink RX0 23 "LendingDisk$Disk" "places" "LLendingDisk$Row;", Cond.fieldLink RX0 26 "LendingDisk$Disk" "modes" "LLendingDisk$Row;", Cond.fieldLink RX0 29 "LendingDisk$Disk" "lengths" "LLendingDisk$Row;", Cond.fieldLink RX0 32 "LendingDisk$Disk" "sizes" "LLendingDisk$Row;", Cond.fieldLink RX0 35 "LendingDisk$Disk" "safeSizes" "LLendingDisk$Row;", Cond.fieldLink RX0 38 "LendingDisk$Disk" "lends" "LLendingDisk$Row;", Cond.fieldLink RX0 41 "LendingDisk$Disk" "settings" "LLendingDisk$Row;", Cond.fieldLink RX0 44 "LendingDisk$Disk" "totals" "LLendingDisk$Row;", Cond.methodLink RX0 50 yX3_copyFrom]
def wsX1_record_r2 : List Cond := [Cond.instanceMethod yX3_copyFrom, Cond.selects RX3 yX3_copyFrom yX3_copyFrom, Cond.initialized RX3, Cond.code yX3_copyFrom cX3_copyFrom 3 none, Cond.fieldLink RX3 13 "LendingDisk$Row" "cells" "[I", Cond.methodLink RX3 19 yX3_at, Cond.instanceMethod yX3_at, Cond.selects RX3 yX3_at yX3_at, Cond.code yX3_at cX3_at 2 (some .int)]
def wsX1_record : List Cond := .code yX1_record cX1_record 3 none :: ((wsX1_record_r1 ++ wsX1_record_r2) ++ wsX10 ++ wsX00 ++ wsX30)
def wsX1_takeLatest_r1 : List Cond := [Cond.fieldLink RX1 21 "LendingDisk$History" "size" "I", Cond.methodLink RX1 25 yX1_slotBehind, Cond.instanceMethod yX1_slotBehind, Cond.selects RX1 yX1_slotBehind yX1_slotBehind, Cond.initialized RX1, Cond.code yX1_slotBehind cX1_slotBehind 3 (some (.object "LendingDisk$Disk")), Cond.fieldLink RX1 17 "LendingDisk$History" "oldest" "I", Cond.fieldLink RX1 11 "LendingDisk$History" "slots" "[LLendingDisk$Disk;", Cond.methodLink RX1 29 yX0_copyFrom, Cond.instanceMethod yX0_copyFrom, Cond.selects RX0 yX0_copyFrom yX0_copyFrom, Cond.initialized RX0, Cond.code yX0_copyFrom cX0_copyFrom 2 none, Cond.fieldLink RX0 14 "LendingDisk$Disk" "stamps" "LLendingDisk$Row;", Cond.fieldLink RX0 20 "LendingDisk$Disk" "owners" "LLendingDisk$Row;", Cond.fieldLink RX0 23 "LendingDisk$Disk" "places" "LLendingDisk$Row;", Cond.fieldLink RX0 26 "LendingDisk$Disk" "modes" "LLendingDisk$Row;", Cond.fieldLink RX0 29 "LendingDisk$Disk" "lengths" "LLendingDisk$Row;", Cond.fieldLink RX0 32 "LendingDisk$Disk" "sizes" "LLendingDisk$Row;", Cond.fieldLink RX0 35 "LendingDisk$Disk" "safeSizes" "LLendingDisk$Row;", Cond.fieldLink RX0 38 "LendingDisk$Disk" "lends" "LLendingDisk$Row;", Cond.fieldLink RX0 41 "LendingDisk$Disk" "settings" "LLendingDisk$Row;", Cond.fieldLink RX0 44 "LendingDisk$Disk" "totals" "LLendingDisk$Row;", Cond.methodLink RX0 50 yX3_copyFrom]
def wsX1_takeLatest_r2 : List Cond := [Cond.instanceMethod yX3_copyFrom, Cond.selects RX3 yX3_copyFrom yX3_copyFrom, Cond.initialized RX3, Cond.code yX3_copyFrom cX3_copyFrom 3 none, Cond.fieldLink RX3 13 "LendingDisk$Row" "cells" "[I", Cond.methodLink RX3 19 yX3_at, Cond.instanceMethod yX3_at, Cond.selects RX3 yX3_at yX3_at, Cond.code yX3_at cX3_at 2 (some .int)]
def wsX1_takeLatest : List Cond := .code yX1_takeLatest cX1_takeLatest 3 (some .boolean) :: ((wsX1_takeLatest_r1 ++ wsX1_takeLatest_r2) ++ wsX10 ++ wsX00 ++ wsX30)
def wsX2_init : List Cond := .code yX2_init cX2_init 1 none :: ([.methodLink RX2 3 objectInit, .instanceMethod objectInit, .code objectInit ⟨#[0xb1]⟩ 1 none, .fieldLink RX2 11 "LendingDisk$Order" "step" "I", .fieldLink RX2 15 "LendingDisk$Order" "letter" "I", .fieldLink RX2 18 "LendingDisk$Order" "file" "I", .fieldLink RX2 21 "LendingDisk$Order" "first" "I", .fieldLink RX2 24 "LendingDisk$Order" "second" "I"] ++ wsX20)
def wsX2_letter : List Cond := .code yX2_letter cX2_letter 1 (some .int) :: ([.fieldLink RX2 15 "LendingDisk$Order" "letter" "I"] ++ wsX20)
def wsX2_fileNumber : List Cond := .code yX2_fileNumber cX2_fileNumber 1 (some .int) :: ([.fieldLink RX2 18 "LendingDisk$Order" "file" "I"] ++ wsX20)
def wsX2_firstNumber : List Cond := .code yX2_firstNumber cX2_firstNumber 1 (some .int) :: ([.fieldLink RX2 21 "LendingDisk$Order" "first" "I"] ++ wsX20)
def wsX2_secondNumber : List Cond := .code yX2_secondNumber cX2_secondNumber 1 (some .int) :: ([.fieldLink RX2 24 "LendingDisk$Order" "second" "I"] ++ wsX20)
def wsX2_begin : List Cond := .code yX2_begin cX2_begin 1 none :: ([.fieldLink RX2 11 "LendingDisk$Order" "step" "I"] ++ wsX20)
def wsX2_isWhole : List Cond := .code yX2_isWhole cX2_isWhole 1 (some .boolean) :: ([.fieldLink RX2 11 "LendingDisk$Order" "step" "I", .fieldLink RX2 15 "LendingDisk$Order" "letter" "I"] ++ wsX20)
def wsX2_takesLetter : List Cond := .code yX2_takesLetter cX2_takesLetter 2 (some .boolean) :: ([.fieldLink RX2 15 "LendingDisk$Order" "letter" "I", .fieldLink RX2 11 "LendingDisk$Order" "step" "I"] ++ wsX20)
def wsX2_takesFile : List Cond := .code yX2_takesFile cX2_takesFile 2 (some .boolean) :: ([.fieldLink RX2 18 "LendingDisk$Order" "file" "I", .fieldLink RX2 15 "LendingDisk$Order" "letter" "I", .fieldLink RX2 11 "LendingDisk$Order" "step" "I"] ++ wsX20)
def wsX2_takesMark : List Cond := .code yX2_takesMark cX2_takesMark 4 (some .boolean) :: ([.fieldLink RX2 11 "LendingDisk$Order" "step" "I"] ++ wsX20)
def wsX2_takesFirst : List Cond := .code yX2_takesFirst cX2_takesFirst 3 (some .boolean) :: ([.fieldLink RX2 21 "LendingDisk$Order" "first" "I", .fieldLink RX2 11 "LendingDisk$Order" "step" "I", .fieldLink RX2 15 "LendingDisk$Order" "letter" "I"] ++ wsX20)
def wsX2_isMore : List Cond := .code yX2_isMore cX2_isMore 4 (some .boolean) :: ([])
def wsX2_takesMoreOfFirst : List Cond := .code yX2_takesMoreOfFirst cX2_takesMoreOfFirst 3 (some .boolean) :: ([.fieldLink RX2 15 "LendingDisk$Order" "letter" "I", .fieldLink RX2 21 "LendingDisk$Order" "first" "I", .methodLink RX2 38 yX2_takesMark, .instanceMethod yX2_takesMark, .selects RX2 yX2_takesMark yX2_takesMark, .initialized RX2, .code yX2_takesMark cX2_takesMark 4 (some .boolean), .fieldLink RX2 11 "LendingDisk$Order" "step" "I", .methodLink RX2 54 yX2_isMore, .static yX2_isMore, .code yX2_isMore cX2_isMore 4 (some .boolean)] ++ wsX20)
def wsX2_takesSecond : List Cond := .code yX2_takesSecond cX2_takesSecond 2 (some .boolean) :: ([.fieldLink RX2 24 "LendingDisk$Order" "second" "I", .fieldLink RX2 11 "LendingDisk$Order" "step" "I"] ++ wsX20)
def wsX2_takesMoreOfSecond : List Cond := .code yX2_takesMoreOfSecond cX2_takesMoreOfSecond 3 (some .boolean) :: ([.fieldLink RX2 24 "LendingDisk$Order" "second" "I", .methodLink RX2 54 yX2_isMore, .static yX2_isMore, .initialized RX2, .code yX2_isMore cX2_isMore 4 (some .boolean)] ++ wsX20)
def wsX2_takes_r1 : List Cond := [Cond.fieldLink RX2 11 "LendingDisk$Order" "step" "I", Cond.methodLink RX2 27 yX2_isWhole, Cond.instanceMethod yX2_isWhole, Cond.selects RX2 yX2_isWhole yX2_isWhole, Cond.initialized RX2, Cond.code yX2_isWhole cX2_isWhole 1 (some .boolean), Cond.fieldLink RX2 15 "LendingDisk$Order" "letter" "I", Cond.methodLink RX2 31 yX2_takesLetter, Cond.instanceMethod yX2_takesLetter, Cond.selects RX2 yX2_takesLetter yX2_takesLetter, Cond.code yX2_takesLetter cX2_takesLetter 2 (some .boolean), Cond.methodLink RX2 35 yX2_takesFile, Cond.instanceMethod yX2_takesFile, Cond.selects RX2 yX2_takesFile yX2_takesFile, Cond.code yX2_takesFile cX2_takesFile 2 (some .boolean), Cond.fieldLink RX2 18 "LendingDisk$Order" "file" "I", Cond.methodLink RX2 38 yX2_takesMark, Cond.instanceMethod yX2_takesMark, Cond.selects RX2 yX2_takesMark yX2_takesMark, Cond.code yX2_takesMark cX2_takesMark 4 (some .boolean), Cond.methodLink RX2 42 yX2_takesFirst, Cond.instanceMethod yX2_takesFirst, Cond.selects RX2 yX2_takesFirst yX2_takesFirst, Cond.code yX2_takesFirst cX2_takesFirst 3 (some .boolean)]
def wsX2_takes_r2 : List Cond := [Cond.fieldLink RX2 21 "LendingDisk$Order" "first" "I", Cond.methodLink RX2 45 yX2_takesMoreOfFirst, Cond.instanceMethod yX2_takesMoreOfFirst, Cond.selects RX2 yX2_takesMoreOfFirst yX2_takesMoreOfFirst, Cond.code yX2_takesMoreOfFirst cX2_takesMoreOfFirst 3 (some .boolean), Cond.methodLink RX2 54 yX2_isMore, Cond.static yX2_isMore, Cond.code yX2_isMore cX2_isMore 4 (some .boolean), Cond.methodLink RX2 48 yX2_takesSecond, Cond.instanceMethod yX2_takesSecond, Cond.selects RX2 yX2_takesSecond yX2_takesSecond, Cond.code yX2_takesSecond cX2_takesSecond 2 (some .boolean), Cond.fieldLink RX2 24 "LendingDisk$Order" "second" "I", Cond.methodLink RX2 51 yX2_takesMoreOfSecond, Cond.instanceMethod yX2_takesMoreOfSecond, Cond.selects RX2 yX2_takesMoreOfSecond yX2_takesMoreOfSecond, Cond.code yX2_takesMoreOfSecond cX2_takesMoreOfSecond 3 (some .boolean)]
def wsX2_takes : List Cond := .code yX2_takes cX2_takes 3 (some .boolean) :: ((wsX2_takes_r1 ++ wsX2_takes_r2) ++ wsX20)
def wsX4_init : List Cond := .code yX4_init cX4_init 1 none :: ([.methodLink RX4 3 objectInit, .instanceMethod objectInit, .code objectInit ⟨#[0xb1]⟩ 1 none, .classLink RX4 9 RX3, .instantiable RX3 1, .initialized RX3, .fieldLink RX4 14 "LendingDisk$Script" "characters" "LLendingDisk$Row;", .fieldLink RX4 20 "LendingDisk$Script" "length" "I", .methodLink RX4 11 yX3_init, .instanceMethod yX3_init, .code yX3_init cX3_init 4 none, .methodLink RX3 1 objectInit, .methodLink RX3 7 Lib.Math.max.name, .static Lib.Math.max.name, .initialized "java/lang/Math", .code Lib.Math.max.name Lib.Math.max.code 2 (some .int), .arrayClass .int, .fieldLink RX3 13 "LendingDisk$Row" "cells" "[I"] ++ wsX30 ++ wsX40)
def wsX4_length : List Cond := .code yX4_length cX4_length 1 (some .int) :: ([.fieldLink RX4 20 "LendingDisk$Script" "length" "I"] ++ wsX40)
def wsX4_characterAt : List Cond := .code yX4_characterAt cX4_characterAt 2 (some .int) :: ([.fieldLink RX4 14 "LendingDisk$Script" "characters" "LLendingDisk$Row;", .methodLink RX4 24 yX3_at, .instanceMethod yX3_at, .selects RX3 yX3_at yX3_at, .initialized RX3, .code yX3_at cX3_at 2 (some .int), .fieldLink RX3 13 "LendingDisk$Row" "cells" "[I"] ++ wsX40 ++ wsX30)
def wsX4_addCharacter : List Cond := .code yX4_addCharacter cX4_addCharacter 2 (some .boolean) :: ([.fieldLink RX4 20 "LendingDisk$Script" "length" "I", .fieldLink RX4 14 "LendingDisk$Script" "characters" "LLendingDisk$Row;", .methodLink RX4 28 yX3_put, .instanceMethod yX3_put, .selects RX3 yX3_put yX3_put, .initialized RX3, .code yX3_put cX3_put 3 none, .fieldLink RX3 13 "LendingDisk$Row" "cells" "[I"] ++ wsX40 ++ wsX30)
def wsX4_empty : List Cond := .code yX4_empty cX4_empty 1 none :: ([.fieldLink RX4 20 "LendingDisk$Script" "length" "I"] ++ wsX40)
def wsX4_firstFault_r1 : List Cond := [Cond.fieldLink RX4 20 "LendingDisk$Script" "length" "I", Cond.fieldLink RX4 14 "LendingDisk$Script" "characters" "LLendingDisk$Row;", Cond.methodLink RX4 31 yX2_begin, Cond.instanceMethod yX2_begin, Cond.selects RX2 yX2_begin yX2_begin, Cond.initialized RX2, Cond.code yX2_begin cX2_begin 1 none, Cond.fieldLink RX2 11 "LendingDisk$Order" "step" "I", Cond.methodLink RX4 24 yX3_at, Cond.instanceMethod yX3_at, Cond.selects RX3 yX3_at yX3_at, Cond.initialized RX3, Cond.code yX3_at cX3_at 2 (some .int), Cond.fieldLink RX3 13 "LendingDisk$Row" "cells" "[I", Cond.methodLink RX4 36 yX2_takes, Cond.instanceMethod yX2_takes, Cond.selects RX2 yX2_takes yX2_takes, Cond.code yX2_takes cX2_takes 3 (some .boolean), Cond.methodLink RX2 27 yX2_isWhole, Cond.instanceMethod yX2_isWhole, Cond.selects RX2 yX2_isWhole yX2_isWhole, Cond.code yX2_isWhole cX2_isWhole 1 (some .boolean), Cond.fieldLink RX2 15 "LendingDisk$Order" "letter" "I", Cond.methodLink RX2 31 yX2_takesLetter]
def wsX4_firstFault_r2 : List Cond := [Cond.instanceMethod yX2_takesLetter, Cond.selects RX2 yX2_takesLetter yX2_takesLetter, Cond.code yX2_takesLetter cX2_takesLetter 2 (some .boolean), Cond.methodLink RX2 35 yX2_takesFile, Cond.instanceMethod yX2_takesFile, Cond.selects RX2 yX2_takesFile yX2_takesFile, Cond.code yX2_takesFile cX2_takesFile 2 (some .boolean), Cond.fieldLink RX2 18 "LendingDisk$Order" "file" "I", Cond.methodLink RX2 38 yX2_takesMark, Cond.instanceMethod yX2_takesMark, Cond.selects RX2 yX2_takesMark yX2_takesMark, Cond.code yX2_takesMark cX2_takesMark 4 (some .boolean), Cond.methodLink RX2 42 yX2_takesFirst, Cond.instanceMethod yX2_takesFirst, Cond.selects RX2 yX2_takesFirst yX2_takesFirst, Cond.code yX2_takesFirst cX2_takesFirst 3 (some .boolean), Cond.fieldLink RX2 21 "LendingDisk$Order" "first" "I", Cond.methodLink RX2 45 yX2_takesMoreOfFirst, Cond.instanceMethod yX2_takesMoreOfFirst, Cond.selects RX2 yX2_takesMoreOfFirst yX2_takesMoreOfFirst, Cond.code yX2_takesMoreOfFirst cX2_takesMoreOfFirst 3 (some .boolean), Cond.methodLink RX2 54 yX2_isMore, Cond.static yX2_isMore, Cond.code yX2_isMore cX2_isMore 4 (some .boolean)]
def wsX4_firstFault_r3 : List Cond := [Cond.methodLink RX2 48 yX2_takesSecond, Cond.instanceMethod yX2_takesSecond, Cond.selects RX2 yX2_takesSecond yX2_takesSecond, Cond.code yX2_takesSecond cX2_takesSecond 2 (some .boolean), Cond.fieldLink RX2 24 "LendingDisk$Order" "second" "I", Cond.methodLink RX2 51 yX2_takesMoreOfSecond, Cond.instanceMethod yX2_takesMoreOfSecond, Cond.selects RX2 yX2_takesMoreOfSecond yX2_takesMoreOfSecond, Cond.code yX2_takesMoreOfSecond cX2_takesMoreOfSecond 3 (some .boolean), Cond.methodLink RX4 40 yX2_isWhole]
def wsX4_firstFault : List Cond := .code yX4_firstFault cX4_firstFault 3 (some .int) :: ((wsX4_firstFault_r1 ++ (wsX4_firstFault_r2 ++ wsX4_firstFault_r3)) ++ wsX40 ++ wsX20 ++ wsX30)
def wsX5_init_r1 : List Cond := [Cond.methodLink RX5 1 objectInit, Cond.instanceMethod objectInit, Cond.code objectInit ⟨#[0xb1]⟩ 1 none, Cond.classLink RX5 7 RX0, Cond.instantiable RX0 10, Cond.initialized RX0, Cond.fieldLink RX5 10 "LendingDisk" "disk" "LLendingDisk$Disk;", Cond.fieldLink RX5 16 "LendingDisk" "spare" "LLendingDisk$Disk;", Cond.fieldLink RX5 19 "LendingDisk" "snapshot" "LLendingDisk$Disk;", Cond.fieldLink RX5 22 "LendingDisk" "hasSnapshot" "Z", Cond.classLink RX5 26 RX1, Cond.instantiable RX1 3, Cond.initialized RX1, Cond.fieldLink RX5 29 "LendingDisk" "history" "LLendingDisk$History;", Cond.classLink RX5 33 RX4, Cond.instantiable RX4 2, Cond.initialized RX4, Cond.fieldLink RX5 36 "LendingDisk" "script" "LLendingDisk$Script;", Cond.classLink RX5 40 RX2, Cond.instantiable RX2 5, Cond.initialized RX2, Cond.fieldLink RX5 43 "LendingDisk" "order" "LLendingDisk$Order;", Cond.methodLink RX5 9 yX0_init, Cond.instanceMethod yX0_init]
def wsX5_init_r2 : List Cond := [Cond.code yX0_init cX0_init 1 none, Cond.methodLink RX0 3 objectInit, Cond.classLink RX0 9 RX3, Cond.instantiable RX3 1, Cond.initialized RX3, Cond.fieldLink RX0 14 "LendingDisk$Disk" "stamps" "LLendingDisk$Row;", Cond.fieldLink RX0 20 "LendingDisk$Disk" "owners" "LLendingDisk$Row;", Cond.fieldLink RX0 23 "LendingDisk$Disk" "places" "LLendingDisk$Row;", Cond.fieldLink RX0 26 "LendingDisk$Disk" "modes" "LLendingDisk$Row;", Cond.fieldLink RX0 29 "LendingDisk$Disk" "lengths" "LLendingDisk$Row;", Cond.fieldLink RX0 32 "LendingDisk$Disk" "sizes" "LLendingDisk$Row;", Cond.fieldLink RX0 35 "LendingDisk$Disk" "safeSizes" "LLendingDisk$Row;", Cond.fieldLink RX0 38 "LendingDisk$Disk" "lends" "LLendingDisk$Row;", Cond.fieldLink RX0 41 "LendingDisk$Disk" "settings" "LLendingDisk$Row;", Cond.fieldLink RX0 44 "LendingDisk$Disk" "totals" "LLendingDisk$Row;", Cond.methodLink RX0 11 yX3_init, Cond.instanceMethod yX3_init, Cond.code yX3_init cX3_init 4 none, Cond.methodLink RX3 1 objectInit, Cond.methodLink RX3 7 Lib.Math.max.name, Cond.static Lib.Math.max.name, Cond.initialized "java/lang/Math", Cond.code Lib.Math.max.name Lib.Math.max.code 2 (some .int), Cond.arrayClass .int]
def wsX5_init_r3 : List Cond := [Cond.fieldLink RX3 13 "LendingDisk$Row" "cells" "[I", Cond.methodLink RX0 47 yX3_put, Cond.instanceMethod yX3_put, Cond.selects RX3 yX3_put yX3_put, Cond.code yX3_put cX3_put 3 none, Cond.methodLink RX5 28 yX1_init, Cond.instanceMethod yX1_init, Cond.code yX1_init cX1_init 2 none, Cond.methodLink RX1 3 objectInit, Cond.classLink RX1 9 RX0, Cond.fieldLink RX1 11 "LendingDisk$History" "slots" "[LLendingDisk$Disk;", Cond.fieldLink RX1 17 "LendingDisk$History" "oldest" "I", Cond.fieldLink RX1 21 "LendingDisk$History" "size" "I", Cond.methodLink RX1 24 yX0_init, Cond.instanceMethod yX4_init, Cond.code yX4_init cX4_init 1 none, Cond.methodLink RX4 3 objectInit, Cond.classLink RX4 9 RX3, Cond.fieldLink RX4 14 "LendingDisk$Script" "characters" "LLendingDisk$Row;", Cond.fieldLink RX4 20 "LendingDisk$Script" "length" "I", Cond.methodLink RX4 11 yX3_init, Cond.instanceMethod yX2_init, Cond.code yX2_init cX2_init 1 none, Cond.methodLink RX2 3 objectInit]
def wsX5_init_r4 : List Cond := [Cond.fieldLink RX2 11 "LendingDisk$Order" "step" "I", Cond.fieldLink RX2 15 "LendingDisk$Order" "letter" "I", Cond.fieldLink RX2 18 "LendingDisk$Order" "file" "I", Cond.fieldLink RX2 21 "LendingDisk$Order" "first" "I", Cond.fieldLink RX2 24 "LendingDisk$Order" "second" "I"]
def wsX5_init : List Cond := .code yX5_init cX5_init 1 none :: ((wsX5_init_r1 ++ (wsX5_init_r2 ++ (wsX5_init_r3 ++ wsX5_init_r4))) ++ wsX00 ++ wsX50 ++ wsX10 ++ wsX40 ++ wsX20 ++ wsX30)
def wsX5_recorded_r1 : List Cond := [Cond.fieldLink RX5 29 "LendingDisk" "history" "LLendingDisk$History;", Cond.fieldLink RX5 16 "LendingDisk" "spare" "LLendingDisk$Disk;", Cond.methodLink RX5 102 yX1_record, Cond.instanceMethod yX1_record, Cond.selects RX1 yX1_record yX1_record, Cond.initialized RX1, Cond.code yX1_record cX1_record 3 none, Cond.fieldLink RX1 21 "LendingDisk$History" "size" "I", Cond.fieldLink RX1 17 "LendingDisk$History" "oldest" "I", Cond.methodLink RX1 25 yX1_slotBehind, Cond.instanceMethod yX1_slotBehind, Cond.selects RX1 yX1_slotBehind yX1_slotBehind, Cond.code yX1_slotBehind cX1_slotBehind 3 (some (.object "LendingDisk$Disk")), Cond.fieldLink RX1 11 "LendingDisk$History" "slots" "[LLendingDisk$Disk;", Cond.methodLink RX1 29 yX0_copyFrom, Cond.instanceMethod yX0_copyFrom, Cond.selects RX0 yX0_copyFrom yX0_copyFrom, Cond.initialized RX0, Cond.code yX0_copyFrom cX0_copyFrom 2 none, Cond.fieldLink RX0 14 "LendingDisk$Disk" "stamps" "LLendingDisk$Row;", Cond.fieldLink RX0 20 "LendingDisk$Disk" "owners" "LLendingDisk$Row;", Cond.fieldLink RX0 23 "LendingDisk$Disk" "places" "LLendingDisk$Row;", Cond.fieldLink RX0 26 "LendingDisk$Disk" "modes" "LLendingDisk$Row;", Cond.fieldLink RX0 29 "LendingDisk$Disk" "lengths" "LLendingDisk$Row;"]
def wsX5_recorded_r2 : List Cond := [Cond.fieldLink RX0 32 "LendingDisk$Disk" "sizes" "LLendingDisk$Row;", Cond.fieldLink RX0 35 "LendingDisk$Disk" "safeSizes" "LLendingDisk$Row;", Cond.fieldLink RX0 38 "LendingDisk$Disk" "lends" "LLendingDisk$Row;", Cond.fieldLink RX0 41 "LendingDisk$Disk" "settings" "LLendingDisk$Row;", Cond.fieldLink RX0 44 "LendingDisk$Disk" "totals" "LLendingDisk$Row;", Cond.methodLink RX0 50 yX3_copyFrom, Cond.instanceMethod yX3_copyFrom, Cond.selects RX3 yX3_copyFrom yX3_copyFrom, Cond.initialized RX3, Cond.code yX3_copyFrom cX3_copyFrom 3 none, Cond.fieldLink RX3 13 "LendingDisk$Row" "cells" "[I", Cond.methodLink RX3 19 yX3_at, Cond.instanceMethod yX3_at, Cond.selects RX3 yX3_at yX3_at, Cond.code yX3_at cX3_at 2 (some .int)]
def wsX5_recorded : List Cond := .code yX5_recorded cX5_recorded 2 (some .int) :: ((wsX5_recorded_r1 ++ wsX5_recorded_r2) ++ wsX50 ++ wsX10 ++ wsX00 ++ wsX30)
def wsX5_create_r1 : List Cond := [Cond.fieldLink RX5 16 "LendingDisk" "spare" "LLendingDisk$Disk;", Cond.fieldLink RX5 10 "LendingDisk" "disk" "LLendingDisk$Disk;", Cond.methodLink RX5 47 yX0_copyFrom, Cond.instanceMethod yX0_copyFrom, Cond.selects RX0 yX0_copyFrom yX0_copyFrom, Cond.initialized RX0, Cond.code yX0_copyFrom cX0_copyFrom 2 none, Cond.fieldLink RX0 14 "LendingDisk$Disk" "stamps" "LLendingDisk$Row;", Cond.fieldLink RX0 20 "LendingDisk$Disk" "owners" "LLendingDisk$Row;", Cond.fieldLink RX0 23 "LendingDisk$Disk" "places" "LLendingDisk$Row;", Cond.fieldLink RX0 26 "LendingDisk$Disk" "modes" "LLendingDisk$Row;", Cond.fieldLink RX0 29 "LendingDisk$Disk" "lengths" "LLendingDisk$Row;", Cond.fieldLink RX0 32 "LendingDisk$Disk" "sizes" "LLendingDisk$Row;", Cond.fieldLink RX0 35 "LendingDisk$Disk" "safeSizes" "LLendingDisk$Row;", Cond.fieldLink RX0 38 "LendingDisk$Disk" "lends" "LLendingDisk$Row;", Cond.fieldLink RX0 41 "LendingDisk$Disk" "settings" "LLendingDisk$Row;", Cond.fieldLink RX0 44 "LendingDisk$Disk" "totals" "LLendingDisk$Row;", Cond.methodLink RX0 50 yX3_copyFrom, Cond.instanceMethod yX3_copyFrom, Cond.selects RX3 yX3_copyFrom yX3_copyFrom, Cond.initialized RX3, Cond.code yX3_copyFrom cX3_copyFrom 3 none, Cond.fieldLink RX3 13 "LendingDisk$Row" "cells" "[I", Cond.methodLink RX3 19 yX3_at]
def wsX5_create_r2 : List Cond := [Cond.instanceMethod yX3_at, Cond.selects RX3 yX3_at yX3_at, Cond.code yX3_at cX3_at 2 (some .int), Cond.methodLink RX5 51 yX0_createFile, Cond.instanceMethod yX0_createFile, Cond.selects RX0 yX0_createFile yX0_createFile, Cond.code yX0_createFile cX0_createFile 2 (some .int), Cond.methodLink RX0 54 yX3_holds, Cond.instanceMethod yX3_holds, Cond.selects RX3 yX3_holds yX3_holds, Cond.code yX3_holds cX3_holds 3 (some .boolean), Cond.methodLink RX0 47 yX3_put, Cond.instanceMethod yX3_put, Cond.selects RX3 yX3_put yX3_put, Cond.code yX3_put cX3_put 3 none, Cond.methodLink RX5 55 yX5_recorded, Cond.instanceMethod yX5_recorded, Cond.selects RX5 yX5_recorded yX5_recorded, Cond.initialized RX5, Cond.code yX5_recorded cX5_recorded 2 (some .int), Cond.fieldLink RX5 29 "LendingDisk" "history" "LLendingDisk$History;", Cond.methodLink RX5 102 yX1_record, Cond.instanceMethod yX1_record, Cond.selects RX1 yX1_record yX1_record]
def wsX5_create_r3 : List Cond := [Cond.initialized RX1, Cond.code yX1_record cX1_record 3 none, Cond.fieldLink RX1 21 "LendingDisk$History" "size" "I", Cond.fieldLink RX1 17 "LendingDisk$History" "oldest" "I", Cond.methodLink RX1 25 yX1_slotBehind, Cond.instanceMethod yX1_slotBehind, Cond.selects RX1 yX1_slotBehind yX1_slotBehind, Cond.code yX1_slotBehind cX1_slotBehind 3 (some (.object "LendingDisk$Disk")), Cond.fieldLink RX1 11 "LendingDisk$History" "slots" "[LLendingDisk$Disk;", Cond.methodLink RX1 29 yX0_copyFrom]
def wsX5_create : List Cond := .code yX5_create cX5_create 1 (some .int) :: ((wsX5_create_r1 ++ (wsX5_create_r2 ++ wsX5_create_r3)) ++ wsX50 ++ wsX00 ++ wsX30 ++ wsX10)
def wsX5_open_r1 : List Cond := [Cond.fieldLink RX5 16 "LendingDisk" "spare" "LLendingDisk$Disk;", Cond.fieldLink RX5 10 "LendingDisk" "disk" "LLendingDisk$Disk;", Cond.methodLink RX5 47 yX0_copyFrom, Cond.instanceMethod yX0_copyFrom, Cond.selects RX0 yX0_copyFrom yX0_copyFrom, Cond.initialized RX0, Cond.code yX0_copyFrom cX0_copyFrom 2 none, Cond.fieldLink RX0 14 "LendingDisk$Disk" "stamps" "LLendingDisk$Row;", Cond.fieldLink RX0 20 "LendingDisk$Disk" "owners" "LLendingDisk$Row;", Cond.fieldLink RX0 23 "LendingDisk$Disk" "places" "LLendingDisk$Row;", Cond.fieldLink RX0 26 "LendingDisk$Disk" "modes" "LLendingDisk$Row;", Cond.fieldLink RX0 29 "LendingDisk$Disk" "lengths" "LLendingDisk$Row;", Cond.fieldLink RX0 32 "LendingDisk$Disk" "sizes" "LLendingDisk$Row;", Cond.fieldLink RX0 35 "LendingDisk$Disk" "safeSizes" "LLendingDisk$Row;", Cond.fieldLink RX0 38 "LendingDisk$Disk" "lends" "LLendingDisk$Row;", Cond.fieldLink RX0 41 "LendingDisk$Disk" "settings" "LLendingDisk$Row;", Cond.fieldLink RX0 44 "LendingDisk$Disk" "totals" "LLendingDisk$Row;", Cond.methodLink RX0 50 yX3_copyFrom, Cond.instanceMethod yX3_copyFrom, Cond.selects RX3 yX3_copyFrom yX3_copyFrom, Cond.initialized RX3, Cond.code yX3_copyFrom cX3_copyFrom 3 none, Cond.fieldLink RX3 13 "LendingDisk$Row" "cells" "[I", Cond.methodLink RX3 19 yX3_at]
def wsX5_open_r2 : List Cond := [Cond.instanceMethod yX3_at, Cond.selects RX3 yX3_at yX3_at, Cond.code yX3_at cX3_at 2 (some .int), Cond.methodLink RX5 59 yX0_openFile, Cond.instanceMethod yX0_openFile, Cond.selects RX0 yX0_openFile yX0_openFile, Cond.code yX0_openFile cX0_openFile 2 (some .int), Cond.methodLink RX0 58 yX0_isFile, Cond.instanceMethod yX0_isFile, Cond.selects RX0 yX0_isFile yX0_isFile, Cond.code yX0_isFile cX0_isFile 2 (some .boolean), Cond.methodLink RX0 54 yX3_holds, Cond.instanceMethod yX3_holds, Cond.selects RX3 yX3_holds yX3_holds, Cond.code yX3_holds cX3_holds 3 (some .boolean), Cond.methodLink RX0 62 yX0_isOpen, Cond.instanceMethod yX0_isOpen, Cond.selects RX0 yX0_isOpen yX0_isOpen, Cond.code yX0_isOpen cX0_isOpen 2 (some .boolean), Cond.methodLink RX0 47 yX3_put, Cond.instanceMethod yX3_put, Cond.selects RX3 yX3_put yX3_put, Cond.code yX3_put cX3_put 3 none, Cond.methodLink RX0 65 yX0_filesThatAre]
def wsX5_open_r3 : List Cond := [Cond.instanceMethod yX0_filesThatAre, Cond.selects RX0 yX0_filesThatAre yX0_filesThatAre, Cond.code yX0_filesThatAre cX0_filesThatAre 4 (some .int), Cond.methodLink RX5 55 yX5_recorded, Cond.instanceMethod yX5_recorded, Cond.selects RX5 yX5_recorded yX5_recorded, Cond.initialized RX5, Cond.code yX5_recorded cX5_recorded 2 (some .int), Cond.fieldLink RX5 29 "LendingDisk" "history" "LLendingDisk$History;", Cond.methodLink RX5 102 yX1_record, Cond.instanceMethod yX1_record, Cond.selects RX1 yX1_record yX1_record, Cond.initialized RX1, Cond.code yX1_record cX1_record 3 none, Cond.fieldLink RX1 21 "LendingDisk$History" "size" "I", Cond.fieldLink RX1 17 "LendingDisk$History" "oldest" "I", Cond.methodLink RX1 25 yX1_slotBehind, Cond.instanceMethod yX1_slotBehind, Cond.selects RX1 yX1_slotBehind yX1_slotBehind, Cond.code yX1_slotBehind cX1_slotBehind 3 (some (.object "LendingDisk$Disk")), Cond.fieldLink RX1 11 "LendingDisk$History" "slots" "[LLendingDisk$Disk;", Cond.methodLink RX1 29 yX0_copyFrom]
def wsX5_open : List Cond := .code yX5_open cX5_open 2 (some .int) :: ((wsX5_open_r1 ++ (wsX5_open_r2 ++ wsX5_open_r3)) ++ wsX50 ++ wsX00 ++ wsX30 ++ wsX10)
def wsX5_close_r1 : List Cond := [Cond.fieldLink RX5 16 "LendingDisk" "spare" "LLendingDisk$Disk;", Cond.fieldLink RX5 10 "LendingDisk" "disk" "LLendingDisk$Disk;", Cond.methodLink RX5 47 yX0_copyFrom, Cond.instanceMethod yX0_copyFrom, Cond.selects RX0 yX0_copyFrom yX0_copyFrom, Cond.initialized RX0, Cond.code yX0_copyFrom cX0_copyFrom 2 none, Cond.fieldLink RX0 14 "LendingDisk$Disk" "stamps" "LLendingDisk$Row;", Cond.fieldLink RX0 20 "LendingDisk$Disk" "owners" "LLendingDisk$Row;", Cond.fieldLink RX0 23 "LendingDisk$Disk" "places" "LLendingDisk$Row;", Cond.fieldLink RX0 26 "LendingDisk$Disk" "modes" "LLendingDisk$Row;", Cond.fieldLink RX0 29 "LendingDisk$Disk" "lengths" "LLendingDisk$Row;", Cond.fieldLink RX0 32 "LendingDisk$Disk" "sizes" "LLendingDisk$Row;", Cond.fieldLink RX0 35 "LendingDisk$Disk" "safeSizes" "LLendingDisk$Row;", Cond.fieldLink RX0 38 "LendingDisk$Disk" "lends" "LLendingDisk$Row;", Cond.fieldLink RX0 41 "LendingDisk$Disk" "settings" "LLendingDisk$Row;", Cond.fieldLink RX0 44 "LendingDisk$Disk" "totals" "LLendingDisk$Row;", Cond.methodLink RX0 50 yX3_copyFrom, Cond.instanceMethod yX3_copyFrom, Cond.selects RX3 yX3_copyFrom yX3_copyFrom, Cond.initialized RX3, Cond.code yX3_copyFrom cX3_copyFrom 3 none, Cond.fieldLink RX3 13 "LendingDisk$Row" "cells" "[I", Cond.methodLink RX3 19 yX3_at]
def wsX5_close_r2 : List Cond := [Cond.instanceMethod yX3_at, Cond.selects RX3 yX3_at yX3_at, Cond.code yX3_at cX3_at 2 (some .int), Cond.methodLink RX5 62 yX0_closeFile, Cond.instanceMethod yX0_closeFile, Cond.selects RX0 yX0_closeFile yX0_closeFile, Cond.code yX0_closeFile cX0_closeFile 3 (some .int), Cond.methodLink RX0 58 yX0_isFile, Cond.instanceMethod yX0_isFile, Cond.selects RX0 yX0_isFile yX0_isFile, Cond.code yX0_isFile cX0_isFile 2 (some .boolean), Cond.methodLink RX0 54 yX3_holds, Cond.instanceMethod yX3_holds, Cond.selects RX3 yX3_holds yX3_holds, Cond.code yX3_holds cX3_holds 3 (some .boolean), Cond.methodLink RX0 62 yX0_isOpen, Cond.instanceMethod yX0_isOpen, Cond.selects RX0 yX0_isOpen yX0_isOpen, Cond.code yX0_isOpen cX0_isOpen 2 (some .boolean), Cond.methodLink RX0 69 yX0_giveBack, Cond.instanceMethod yX0_giveBack, Cond.selects RX0 yX0_giveBack yX0_giveBack, Cond.code yX0_giveBack cX0_giveBack 3 (some .int), Cond.methodLink RX0 82 yX0_lentOf]
def wsX5_close_r3 : List Cond := [Cond.instanceMethod yX0_lentOf, Cond.selects RX0 yX0_lentOf yX0_lentOf, Cond.code yX0_lentOf cX0_lentOf 2 (some .int), Cond.methodLink RX0 72 yX3_at, Cond.methodLink RX0 75 yX0_freeFrom, Cond.instanceMethod yX0_freeFrom, Cond.selects RX0 yX0_freeFrom yX0_freeFrom, Cond.code yX0_freeFrom cX0_freeFrom 4 none, Cond.methodLink RX0 47 yX3_put, Cond.instanceMethod yX3_put, Cond.selects RX3 yX3_put yX3_put, Cond.code yX3_put cX3_put 3 none, Cond.methodLink RX0 104 yX3_grow, Cond.instanceMethod yX3_grow, Cond.selects RX3 yX3_grow yX3_grow, Cond.code yX3_grow cX3_grow 3 none, Cond.methodLink RX5 55 yX5_recorded, Cond.instanceMethod yX5_recorded, Cond.selects RX5 yX5_recorded yX5_recorded, Cond.initialized RX5, Cond.code yX5_recorded cX5_recorded 2 (some .int), Cond.fieldLink RX5 29 "LendingDisk" "history" "LLendingDisk$History;", Cond.methodLink RX5 102 yX1_record, Cond.instanceMethod yX1_record]
def wsX5_close_r4 : List Cond := [Cond.selects RX1 yX1_record yX1_record, Cond.initialized RX1, Cond.code yX1_record cX1_record 3 none, Cond.fieldLink RX1 21 "LendingDisk$History" "size" "I", Cond.fieldLink RX1 17 "LendingDisk$History" "oldest" "I", Cond.methodLink RX1 25 yX1_slotBehind, Cond.instanceMethod yX1_slotBehind, Cond.selects RX1 yX1_slotBehind yX1_slotBehind, Cond.code yX1_slotBehind cX1_slotBehind 3 (some (.object "LendingDisk$Disk")), Cond.fieldLink RX1 11 "LendingDisk$History" "slots" "[LLendingDisk$Disk;", Cond.methodLink RX1 29 yX0_copyFrom]
def wsX5_close : List Cond := .code yX5_close cX5_close 2 (some .int) :: ((wsX5_close_r1 ++ (wsX5_close_r2 ++ (wsX5_close_r3 ++ wsX5_close_r4))) ++ wsX50 ++ wsX00 ++ wsX30 ++ wsX10)
def wsX5_remove_r1 : List Cond := [Cond.fieldLink RX5 16 "LendingDisk" "spare" "LLendingDisk$Disk;", Cond.fieldLink RX5 10 "LendingDisk" "disk" "LLendingDisk$Disk;", Cond.methodLink RX5 47 yX0_copyFrom, Cond.instanceMethod yX0_copyFrom, Cond.selects RX0 yX0_copyFrom yX0_copyFrom, Cond.initialized RX0, Cond.code yX0_copyFrom cX0_copyFrom 2 none, Cond.fieldLink RX0 14 "LendingDisk$Disk" "stamps" "LLendingDisk$Row;", Cond.fieldLink RX0 20 "LendingDisk$Disk" "owners" "LLendingDisk$Row;", Cond.fieldLink RX0 23 "LendingDisk$Disk" "places" "LLendingDisk$Row;", Cond.fieldLink RX0 26 "LendingDisk$Disk" "modes" "LLendingDisk$Row;", Cond.fieldLink RX0 29 "LendingDisk$Disk" "lengths" "LLendingDisk$Row;", Cond.fieldLink RX0 32 "LendingDisk$Disk" "sizes" "LLendingDisk$Row;", Cond.fieldLink RX0 35 "LendingDisk$Disk" "safeSizes" "LLendingDisk$Row;", Cond.fieldLink RX0 38 "LendingDisk$Disk" "lends" "LLendingDisk$Row;", Cond.fieldLink RX0 41 "LendingDisk$Disk" "settings" "LLendingDisk$Row;", Cond.fieldLink RX0 44 "LendingDisk$Disk" "totals" "LLendingDisk$Row;", Cond.methodLink RX0 50 yX3_copyFrom, Cond.instanceMethod yX3_copyFrom, Cond.selects RX3 yX3_copyFrom yX3_copyFrom, Cond.initialized RX3, Cond.code yX3_copyFrom cX3_copyFrom 3 none, Cond.fieldLink RX3 13 "LendingDisk$Row" "cells" "[I", Cond.methodLink RX3 19 yX3_at]
def wsX5_remove_r2 : List Cond := [Cond.instanceMethod yX3_at, Cond.selects RX3 yX3_at yX3_at, Cond.code yX3_at cX3_at 2 (some .int), Cond.methodLink RX5 65 yX0_removeFile, Cond.instanceMethod yX0_removeFile, Cond.selects RX0 yX0_removeFile yX0_removeFile, Cond.code yX0_removeFile cX0_removeFile 3 (some .int), Cond.methodLink RX0 58 yX0_isFile, Cond.instanceMethod yX0_isFile, Cond.selects RX0 yX0_isFile yX0_isFile, Cond.code yX0_isFile cX0_isFile 2 (some .boolean), Cond.methodLink RX0 54 yX3_holds, Cond.instanceMethod yX3_holds, Cond.selects RX3 yX3_holds yX3_holds, Cond.code yX3_holds cX3_holds 3 (some .boolean), Cond.methodLink RX0 62 yX0_isOpen, Cond.instanceMethod yX0_isOpen, Cond.selects RX0 yX0_isOpen yX0_isOpen, Cond.code yX0_isOpen cX0_isOpen 2 (some .boolean), Cond.methodLink RX0 72 yX3_at, Cond.methodLink RX0 75 yX0_freeFrom, Cond.instanceMethod yX0_freeFrom, Cond.selects RX0 yX0_freeFrom yX0_freeFrom, Cond.code yX0_freeFrom cX0_freeFrom 4 none]
def wsX5_remove_r3 : List Cond := [Cond.methodLink RX0 47 yX3_put, Cond.instanceMethod yX3_put, Cond.selects RX3 yX3_put yX3_put, Cond.code yX3_put cX3_put 3 none, Cond.methodLink RX5 55 yX5_recorded, Cond.instanceMethod yX5_recorded, Cond.selects RX5 yX5_recorded yX5_recorded, Cond.initialized RX5, Cond.code yX5_recorded cX5_recorded 2 (some .int), Cond.fieldLink RX5 29 "LendingDisk" "history" "LLendingDisk$History;", Cond.methodLink RX5 102 yX1_record, Cond.instanceMethod yX1_record, Cond.selects RX1 yX1_record yX1_record, Cond.initialized RX1, Cond.code yX1_record cX1_record 3 none, Cond.fieldLink RX1 21 "LendingDisk$History" "size" "I", Cond.fieldLink RX1 17 "LendingDisk$History" "oldest" "I", Cond.methodLink RX1 25 yX1_slotBehind, Cond.instanceMethod yX1_slotBehind, Cond.selects RX1 yX1_slotBehind yX1_slotBehind, Cond.code yX1_slotBehind cX1_slotBehind 3 (some (.object "LendingDisk$Disk")), Cond.fieldLink RX1 11 "LendingDisk$History" "slots" "[LLendingDisk$Disk;", Cond.methodLink RX1 29 yX0_copyFrom]
def wsX5_remove : List Cond := .code yX5_remove cX5_remove 2 (some .int) :: ((wsX5_remove_r1 ++ (wsX5_remove_r2 ++ wsX5_remove_r3)) ++ wsX50 ++ wsX00 ++ wsX30 ++ wsX10)
def wsX5_sync_r1 : List Cond := [Cond.fieldLink RX5 16 "LendingDisk" "spare" "LLendingDisk$Disk;", Cond.fieldLink RX5 10 "LendingDisk" "disk" "LLendingDisk$Disk;", Cond.methodLink RX5 47 yX0_copyFrom, Cond.instanceMethod yX0_copyFrom, Cond.selects RX0 yX0_copyFrom yX0_copyFrom, Cond.initialized RX0, Cond.code yX0_copyFrom cX0_copyFrom 2 none, Cond.fieldLink RX0 14 "LendingDisk$Disk" "stamps" "LLendingDisk$Row;", Cond.fieldLink RX0 20 "LendingDisk$Disk" "owners" "LLendingDisk$Row;", Cond.fieldLink RX0 23 "LendingDisk$Disk" "places" "LLendingDisk$Row;", Cond.fieldLink RX0 26 "LendingDisk$Disk" "modes" "LLendingDisk$Row;", Cond.fieldLink RX0 29 "LendingDisk$Disk" "lengths" "LLendingDisk$Row;", Cond.fieldLink RX0 32 "LendingDisk$Disk" "sizes" "LLendingDisk$Row;", Cond.fieldLink RX0 35 "LendingDisk$Disk" "safeSizes" "LLendingDisk$Row;", Cond.fieldLink RX0 38 "LendingDisk$Disk" "lends" "LLendingDisk$Row;", Cond.fieldLink RX0 41 "LendingDisk$Disk" "settings" "LLendingDisk$Row;", Cond.fieldLink RX0 44 "LendingDisk$Disk" "totals" "LLendingDisk$Row;", Cond.methodLink RX0 50 yX3_copyFrom, Cond.instanceMethod yX3_copyFrom, Cond.selects RX3 yX3_copyFrom yX3_copyFrom, Cond.initialized RX3, Cond.code yX3_copyFrom cX3_copyFrom 3 none, Cond.fieldLink RX3 13 "LendingDisk$Row" "cells" "[I", Cond.methodLink RX3 19 yX3_at]
def wsX5_sync_r2 : List Cond := [Cond.instanceMethod yX3_at, Cond.selects RX3 yX3_at yX3_at, Cond.code yX3_at cX3_at 2 (some .int), Cond.methodLink RX5 68 yX0_syncFile, Cond.instanceMethod yX0_syncFile, Cond.selects RX0 yX0_syncFile yX0_syncFile, Cond.code yX0_syncFile cX0_syncFile 3 (some .int), Cond.methodLink RX0 58 yX0_isFile, Cond.instanceMethod yX0_isFile, Cond.selects RX0 yX0_isFile yX0_isFile, Cond.code yX0_isFile cX0_isFile 2 (some .boolean), Cond.methodLink RX0 54 yX3_holds, Cond.instanceMethod yX3_holds, Cond.selects RX3 yX3_holds yX3_holds, Cond.code yX3_holds cX3_holds 3 (some .boolean), Cond.methodLink RX0 62 yX0_isOpen, Cond.instanceMethod yX0_isOpen, Cond.selects RX0 yX0_isOpen yX0_isOpen, Cond.code yX0_isOpen cX0_isOpen 2 (some .boolean), Cond.methodLink RX0 72 yX3_at, Cond.methodLink RX0 47 yX3_put, Cond.instanceMethod yX3_put, Cond.selects RX3 yX3_put yX3_put, Cond.code yX3_put cX3_put 3 none]
def wsX5_sync_r3 : List Cond := [Cond.methodLink RX5 55 yX5_recorded, Cond.instanceMethod yX5_recorded, Cond.selects RX5 yX5_recorded yX5_recorded, Cond.initialized RX5, Cond.code yX5_recorded cX5_recorded 2 (some .int), Cond.fieldLink RX5 29 "LendingDisk" "history" "LLendingDisk$History;", Cond.methodLink RX5 102 yX1_record, Cond.instanceMethod yX1_record, Cond.selects RX1 yX1_record yX1_record, Cond.initialized RX1, Cond.code yX1_record cX1_record 3 none, Cond.fieldLink RX1 21 "LendingDisk$History" "size" "I", Cond.fieldLink RX1 17 "LendingDisk$History" "oldest" "I", Cond.methodLink RX1 25 yX1_slotBehind, Cond.instanceMethod yX1_slotBehind, Cond.selects RX1 yX1_slotBehind yX1_slotBehind, Cond.code yX1_slotBehind cX1_slotBehind 3 (some (.object "LendingDisk$Disk")), Cond.fieldLink RX1 11 "LendingDisk$History" "slots" "[LLendingDisk$Disk;", Cond.methodLink RX1 29 yX0_copyFrom]
def wsX5_sync : List Cond := .code yX5_sync cX5_sync 2 (some .int) :: ((wsX5_sync_r1 ++ (wsX5_sync_r2 ++ wsX5_sync_r3)) ++ wsX50 ++ wsX00 ++ wsX30 ++ wsX10)
def wsX5_append_r1 : List Cond := [Cond.fieldLink RX5 16 "LendingDisk" "spare" "LLendingDisk$Disk;", Cond.fieldLink RX5 10 "LendingDisk" "disk" "LLendingDisk$Disk;", Cond.methodLink RX5 47 yX0_copyFrom, Cond.instanceMethod yX0_copyFrom, Cond.selects RX0 yX0_copyFrom yX0_copyFrom, Cond.initialized RX0, Cond.code yX0_copyFrom cX0_copyFrom 2 none, Cond.fieldLink RX0 14 "LendingDisk$Disk" "stamps" "LLendingDisk$Row;", Cond.fieldLink RX0 20 "LendingDisk$Disk" "owners" "LLendingDisk$Row;", Cond.fieldLink RX0 23 "LendingDisk$Disk" "places" "LLendingDisk$Row;", Cond.fieldLink RX0 26 "LendingDisk$Disk" "modes" "LLendingDisk$Row;", Cond.fieldLink RX0 29 "LendingDisk$Disk" "lengths" "LLendingDisk$Row;", Cond.fieldLink RX0 32 "LendingDisk$Disk" "sizes" "LLendingDisk$Row;", Cond.fieldLink RX0 35 "LendingDisk$Disk" "safeSizes" "LLendingDisk$Row;", Cond.fieldLink RX0 38 "LendingDisk$Disk" "lends" "LLendingDisk$Row;", Cond.fieldLink RX0 41 "LendingDisk$Disk" "settings" "LLendingDisk$Row;", Cond.fieldLink RX0 44 "LendingDisk$Disk" "totals" "LLendingDisk$Row;", Cond.methodLink RX0 50 yX3_copyFrom, Cond.instanceMethod yX3_copyFrom, Cond.selects RX3 yX3_copyFrom yX3_copyFrom, Cond.initialized RX3, Cond.code yX3_copyFrom cX3_copyFrom 3 none, Cond.fieldLink RX3 13 "LendingDisk$Row" "cells" "[I", Cond.methodLink RX3 19 yX3_at]
def wsX5_append_r2 : List Cond := [Cond.instanceMethod yX3_at, Cond.selects RX3 yX3_at yX3_at, Cond.code yX3_at cX3_at 2 (some .int), Cond.methodLink RX5 71 yX0_appendTo, Cond.instanceMethod yX0_appendTo, Cond.selects RX0 yX0_appendTo yX0_appendTo, Cond.code yX0_appendTo cX0_appendTo 5 (some .int), Cond.methodLink RX0 58 yX0_isFile, Cond.instanceMethod yX0_isFile, Cond.selects RX0 yX0_isFile yX0_isFile, Cond.code yX0_isFile cX0_isFile 2 (some .boolean), Cond.methodLink RX0 54 yX3_holds, Cond.instanceMethod yX3_holds, Cond.selects RX3 yX3_holds yX3_holds, Cond.code yX3_holds cX3_holds 3 (some .boolean), Cond.methodLink RX0 62 yX0_isOpen, Cond.instanceMethod yX0_isOpen, Cond.selects RX0 yX0_isOpen yX0_isOpen, Cond.code yX0_isOpen cX0_isOpen 2 (some .boolean), Cond.methodLink RX0 78 yX0_blocksWithoutData, Cond.instanceMethod yX0_blocksWithoutData, Cond.selects RX0 yX0_blocksWithoutData yX0_blocksWithoutData, Cond.code yX0_blocksWithoutData cX0_blocksWithoutData 1 (some .int), Cond.methodLink RX0 140 yX0_dataBlocks]
def wsX5_append_r3 : List Cond := [Cond.instanceMethod yX0_dataBlocks, Cond.selects RX0 yX0_dataBlocks yX0_dataBlocks, Cond.code yX0_dataBlocks cX0_dataBlocks 3 (some .int), Cond.methodLink RX0 72 yX3_at, Cond.methodLink RX0 82 yX0_lentOf, Cond.instanceMethod yX0_lentOf, Cond.selects RX0 yX0_lentOf yX0_lentOf, Cond.code yX0_lentOf cX0_lentOf 2 (some .int), Cond.methodLink RX0 85 yX0_takeBack, Cond.instanceMethod yX0_takeBack, Cond.selects RX0 yX0_takeBack yX0_takeBack, Cond.code yX0_takeBack cX0_takeBack 5 none, Cond.methodLink RX0 107 yX0_freeBlocks, Cond.instanceMethod yX0_freeBlocks, Cond.selects RX0 yX0_freeBlocks yX0_freeBlocks, Cond.code yX0_freeBlocks cX0_freeBlocks 3 (some .int), Cond.methodLink RX0 110 yX0_greatestLender, Cond.instanceMethod yX0_greatestLender, Cond.selects RX0 yX0_greatestLender yX0_greatestLender, Cond.code yX0_greatestLender cX0_greatestLender 5 (some .int), Cond.methodLink RX0 69 yX0_giveBack, Cond.instanceMethod yX0_giveBack, Cond.selects RX0 yX0_giveBack yX0_giveBack, Cond.code yX0_giveBack cX0_giveBack 3 (some .int)]
def wsX5_append_r4 : List Cond := [Cond.methodLink RX0 75 yX0_freeFrom, Cond.instanceMethod yX0_freeFrom, Cond.selects RX0 yX0_freeFrom yX0_freeFrom, Cond.code yX0_freeFrom cX0_freeFrom 4 none, Cond.methodLink RX0 47 yX3_put, Cond.instanceMethod yX3_put, Cond.selects RX3 yX3_put yX3_put, Cond.code yX3_put cX3_put 3 none, Cond.methodLink RX0 104 yX3_grow, Cond.instanceMethod yX3_grow, Cond.selects RX3 yX3_grow yX3_grow, Cond.code yX3_grow cX3_grow 3 none, Cond.methodLink RX0 88 yX0_lengthen, Cond.instanceMethod yX0_lengthen, Cond.selects RX0 yX0_lengthen yX0_lengthen, Cond.code yX0_lengthen cX0_lengthen 8 none, Cond.methodLink RX0 98 Lib.Math.min.name, Cond.static Lib.Math.min.name, Cond.initialized "java/lang/Math", Cond.code Lib.Math.min.name Lib.Math.min.code 2 (some .int), Cond.methodLink RX0 113 yX0_blockAt, Cond.instanceMethod yX0_blockAt, Cond.selects RX0 yX0_blockAt yX0_blockAt, Cond.code yX0_blockAt cX0_blockAt 4 (some .int)]
def wsX5_append_r5 : List Cond := [Cond.methodLink RX0 116 yX0_addFrom, Cond.instanceMethod yX0_addFrom, Cond.selects RX0 yX0_addFrom yX0_addFrom, Cond.code yX0_addFrom cX0_addFrom 5 (some .int), Cond.methodLink RX0 120 yX0_chosenRun, Cond.instanceMethod yX0_chosenRun, Cond.selects RX0 yX0_chosenRun yX0_chosenRun, Cond.code yX0_chosenRun cX0_chosenRun 6 (some .int), Cond.methodLink RX0 123 yX0_runFrom, Cond.instanceMethod yX0_runFrom, Cond.selects RX0 yX0_runFrom yX0_runFrom, Cond.code yX0_runFrom cX0_runFrom 3 (some .int), Cond.methodLink RX0 126 yX0_isBetter, Cond.instanceMethod yX0_isBetter, Cond.selects RX0 yX0_isBetter yX0_isBetter, Cond.code yX0_isBetter cX0_isBetter 4 (some .boolean), Cond.methodLink RX0 91 yX0_write, Cond.instanceMethod yX0_write, Cond.selects RX0 yX0_write yX0_write, Cond.code yX0_write cX0_write 6 none, Cond.methodLink RX0 130 yX0_isPart, Cond.instanceMethod yX0_isPart, Cond.selects RX0 yX0_isPart yX0_isPart, Cond.code yX0_isPart cX0_isPart 5 (some .boolean)]
def wsX5_append_r6 : List Cond := [Cond.methodLink RX0 95 yX0_extentsOf, Cond.instanceMethod yX0_extentsOf, Cond.selects RX0 yX0_extentsOf yX0_extentsOf, Cond.code yX0_extentsOf cX0_extentsOf 4 (some .int), Cond.methodLink RX0 134 yX0_beginsExtent, Cond.instanceMethod yX0_beginsExtent, Cond.selects RX0 yX0_beginsExtent yX0_beginsExtent, Cond.code yX0_beginsExtent cX0_beginsExtent 2 (some .boolean), Cond.methodLink RX5 55 yX5_recorded, Cond.instanceMethod yX5_recorded, Cond.selects RX5 yX5_recorded yX5_recorded, Cond.initialized RX5, Cond.code yX5_recorded cX5_recorded 2 (some .int), Cond.fieldLink RX5 29 "LendingDisk" "history" "LLendingDisk$History;", Cond.methodLink RX5 102 yX1_record, Cond.instanceMethod yX1_record, Cond.selects RX1 yX1_record yX1_record, Cond.initialized RX1, Cond.code yX1_record cX1_record 3 none, Cond.fieldLink RX1 21 "LendingDisk$History" "size" "I", Cond.fieldLink RX1 17 "LendingDisk$History" "oldest" "I", Cond.methodLink RX1 25 yX1_slotBehind, Cond.instanceMethod yX1_slotBehind, Cond.selects RX1 yX1_slotBehind yX1_slotBehind]
def wsX5_append_r7 : List Cond := [Cond.code yX1_slotBehind cX1_slotBehind 3 (some (.object "LendingDisk$Disk")), Cond.fieldLink RX1 11 "LendingDisk$History" "slots" "[LLendingDisk$Disk;", Cond.methodLink RX1 29 yX0_copyFrom]
def wsX5_append : List Cond := .code yX5_append cX5_append 4 (some .int) :: ((wsX5_append_r1 ++ (wsX5_append_r2 ++ (wsX5_append_r3 ++ (wsX5_append_r4 ++ (wsX5_append_r5 ++ (wsX5_append_r6 ++ wsX5_append_r7)))))) ++ wsX50 ++ wsX00 ++ wsX30 ++ wsX10)
def wsX5_cut_r1 : List Cond := [Cond.fieldLink RX5 16 "LendingDisk" "spare" "LLendingDisk$Disk;", Cond.fieldLink RX5 10 "LendingDisk" "disk" "LLendingDisk$Disk;", Cond.methodLink RX5 47 yX0_copyFrom, Cond.instanceMethod yX0_copyFrom, Cond.selects RX0 yX0_copyFrom yX0_copyFrom, Cond.initialized RX0, Cond.code yX0_copyFrom cX0_copyFrom 2 none, Cond.fieldLink RX0 14 "LendingDisk$Disk" "stamps" "LLendingDisk$Row;", Cond.fieldLink RX0 20 "LendingDisk$Disk" "owners" "LLendingDisk$Row;", Cond.fieldLink RX0 23 "LendingDisk$Disk" "places" "LLendingDisk$Row;", Cond.fieldLink RX0 26 "LendingDisk$Disk" "modes" "LLendingDisk$Row;", Cond.fieldLink RX0 29 "LendingDisk$Disk" "lengths" "LLendingDisk$Row;", Cond.fieldLink RX0 32 "LendingDisk$Disk" "sizes" "LLendingDisk$Row;", Cond.fieldLink RX0 35 "LendingDisk$Disk" "safeSizes" "LLendingDisk$Row;", Cond.fieldLink RX0 38 "LendingDisk$Disk" "lends" "LLendingDisk$Row;", Cond.fieldLink RX0 41 "LendingDisk$Disk" "settings" "LLendingDisk$Row;", Cond.fieldLink RX0 44 "LendingDisk$Disk" "totals" "LLendingDisk$Row;", Cond.methodLink RX0 50 yX3_copyFrom, Cond.instanceMethod yX3_copyFrom, Cond.selects RX3 yX3_copyFrom yX3_copyFrom, Cond.initialized RX3, Cond.code yX3_copyFrom cX3_copyFrom 3 none, Cond.fieldLink RX3 13 "LendingDisk$Row" "cells" "[I", Cond.methodLink RX3 19 yX3_at]
def wsX5_cut_r2 : List Cond := [Cond.instanceMethod yX3_at, Cond.selects RX3 yX3_at yX3_at, Cond.code yX3_at cX3_at 2 (some .int), Cond.methodLink RX5 75 yX0_cutFile, Cond.instanceMethod yX0_cutFile, Cond.selects RX0 yX0_cutFile yX0_cutFile, Cond.code yX0_cutFile cX0_cutFile 4 (some .int), Cond.methodLink RX0 98 Lib.Math.min.name, Cond.static Lib.Math.min.name, Cond.initialized "java/lang/Math", Cond.code Lib.Math.min.name Lib.Math.min.code 2 (some .int), Cond.methodLink RX0 58 yX0_isFile, Cond.instanceMethod yX0_isFile, Cond.selects RX0 yX0_isFile yX0_isFile, Cond.code yX0_isFile cX0_isFile 2 (some .boolean), Cond.methodLink RX0 54 yX3_holds, Cond.instanceMethod yX3_holds, Cond.selects RX3 yX3_holds yX3_holds, Cond.code yX3_holds cX3_holds 3 (some .boolean), Cond.methodLink RX0 62 yX0_isOpen, Cond.instanceMethod yX0_isOpen, Cond.selects RX0 yX0_isOpen yX0_isOpen, Cond.code yX0_isOpen cX0_isOpen 2 (some .boolean), Cond.methodLink RX0 72 yX3_at]
def wsX5_cut_r3 : List Cond := [Cond.methodLink RX0 69 yX0_giveBack, Cond.instanceMethod yX0_giveBack, Cond.selects RX0 yX0_giveBack yX0_giveBack, Cond.code yX0_giveBack cX0_giveBack 3 (some .int), Cond.methodLink RX0 82 yX0_lentOf, Cond.instanceMethod yX0_lentOf, Cond.selects RX0 yX0_lentOf yX0_lentOf, Cond.code yX0_lentOf cX0_lentOf 2 (some .int), Cond.methodLink RX0 75 yX0_freeFrom, Cond.instanceMethod yX0_freeFrom, Cond.selects RX0 yX0_freeFrom yX0_freeFrom, Cond.code yX0_freeFrom cX0_freeFrom 4 none, Cond.methodLink RX0 47 yX3_put, Cond.instanceMethod yX3_put, Cond.selects RX3 yX3_put yX3_put, Cond.code yX3_put cX3_put 3 none, Cond.methodLink RX0 104 yX3_grow, Cond.instanceMethod yX3_grow, Cond.selects RX3 yX3_grow yX3_grow, Cond.code yX3_grow cX3_grow 3 none, Cond.methodLink RX5 55 yX5_recorded, Cond.instanceMethod yX5_recorded, Cond.selects RX5 yX5_recorded yX5_recorded, Cond.initialized RX5]
def wsX5_cut_r4 : List Cond := [Cond.code yX5_recorded cX5_recorded 2 (some .int), Cond.fieldLink RX5 29 "LendingDisk" "history" "LLendingDisk$History;", Cond.methodLink RX5 102 yX1_record, Cond.instanceMethod yX1_record, Cond.selects RX1 yX1_record yX1_record, Cond.initialized RX1, Cond.code yX1_record cX1_record 3 none, Cond.fieldLink RX1 21 "LendingDisk$History" "size" "I", Cond.fieldLink RX1 17 "LendingDisk$History" "oldest" "I", Cond.methodLink RX1 25 yX1_slotBehind, Cond.instanceMethod yX1_slotBehind, Cond.selects RX1 yX1_slotBehind yX1_slotBehind, Cond.code yX1_slotBehind cX1_slotBehind 3 (some (.object "LendingDisk$Disk")), Cond.fieldLink RX1 11 "LendingDisk$History" "slots" "[LLendingDisk$Disk;", Cond.methodLink RX1 29 yX0_copyFrom]
def wsX5_cut : List Cond := .code yX5_cut cX5_cut 3 (some .int) :: ((wsX5_cut_r1 ++ (wsX5_cut_r2 ++ (wsX5_cut_r3 ++ wsX5_cut_r4))) ++ wsX50 ++ wsX00 ++ wsX30 ++ wsX10)
def wsX5_crash_r1 : List Cond := [Cond.fieldLink RX5 16 "LendingDisk" "spare" "LLendingDisk$Disk;", Cond.fieldLink RX5 10 "LendingDisk" "disk" "LLendingDisk$Disk;", Cond.methodLink RX5 47 yX0_copyFrom, Cond.instanceMethod yX0_copyFrom, Cond.selects RX0 yX0_copyFrom yX0_copyFrom, Cond.initialized RX0, Cond.code yX0_copyFrom cX0_copyFrom 2 none, Cond.fieldLink RX0 14 "LendingDisk$Disk" "stamps" "LLendingDisk$Row;", Cond.fieldLink RX0 20 "LendingDisk$Disk" "owners" "LLendingDisk$Row;", Cond.fieldLink RX0 23 "LendingDisk$Disk" "places" "LLendingDisk$Row;", Cond.fieldLink RX0 26 "LendingDisk$Disk" "modes" "LLendingDisk$Row;", Cond.fieldLink RX0 29 "LendingDisk$Disk" "lengths" "LLendingDisk$Row;", Cond.fieldLink RX0 32 "LendingDisk$Disk" "sizes" "LLendingDisk$Row;", Cond.fieldLink RX0 35 "LendingDisk$Disk" "safeSizes" "LLendingDisk$Row;", Cond.fieldLink RX0 38 "LendingDisk$Disk" "lends" "LLendingDisk$Row;", Cond.fieldLink RX0 41 "LendingDisk$Disk" "settings" "LLendingDisk$Row;", Cond.fieldLink RX0 44 "LendingDisk$Disk" "totals" "LLendingDisk$Row;", Cond.methodLink RX0 50 yX3_copyFrom, Cond.instanceMethod yX3_copyFrom, Cond.selects RX3 yX3_copyFrom yX3_copyFrom, Cond.initialized RX3, Cond.code yX3_copyFrom cX3_copyFrom 3 none, Cond.fieldLink RX3 13 "LendingDisk$Row" "cells" "[I", Cond.methodLink RX3 19 yX3_at]
def wsX5_crash_r2 : List Cond := [Cond.instanceMethod yX3_at, Cond.selects RX3 yX3_at yX3_at, Cond.code yX3_at cX3_at 2 (some .int), Cond.methodLink RX5 79 yX0_crashAll, Cond.instanceMethod yX0_crashAll, Cond.selects RX0 yX0_crashAll yX0_crashAll, Cond.code yX0_crashAll cX0_crashAll 3 (some .int), Cond.methodLink RX0 58 yX0_isFile, Cond.instanceMethod yX0_isFile, Cond.selects RX0 yX0_isFile yX0_isFile, Cond.code yX0_isFile cX0_isFile 2 (some .boolean), Cond.methodLink RX0 54 yX3_holds, Cond.instanceMethod yX3_holds, Cond.selects RX3 yX3_holds yX3_holds, Cond.code yX3_holds cX3_holds 3 (some .boolean), Cond.methodLink RX0 72 yX3_at, Cond.methodLink RX0 47 yX3_put, Cond.instanceMethod yX3_put, Cond.selects RX3 yX3_put yX3_put, Cond.code yX3_put cX3_put 3 none, Cond.methodLink RX0 104 yX3_grow, Cond.instanceMethod yX3_grow, Cond.selects RX3 yX3_grow yX3_grow, Cond.code yX3_grow cX3_grow 3 none]
def wsX5_crash_r3 : List Cond := [Cond.methodLink RX5 55 yX5_recorded, Cond.instanceMethod yX5_recorded, Cond.selects RX5 yX5_recorded yX5_recorded, Cond.initialized RX5, Cond.code yX5_recorded cX5_recorded 2 (some .int), Cond.fieldLink RX5 29 "LendingDisk" "history" "LLendingDisk$History;", Cond.methodLink RX5 102 yX1_record, Cond.instanceMethod yX1_record, Cond.selects RX1 yX1_record yX1_record, Cond.initialized RX1, Cond.code yX1_record cX1_record 3 none, Cond.fieldLink RX1 21 "LendingDisk$History" "size" "I", Cond.fieldLink RX1 17 "LendingDisk$History" "oldest" "I", Cond.methodLink RX1 25 yX1_slotBehind, Cond.instanceMethod yX1_slotBehind, Cond.selects RX1 yX1_slotBehind yX1_slotBehind, Cond.code yX1_slotBehind cX1_slotBehind 3 (some (.object "LendingDisk$Disk")), Cond.fieldLink RX1 11 "LendingDisk$History" "slots" "[LLendingDisk$Disk;", Cond.methodLink RX1 29 yX0_copyFrom]
def wsX5_crash : List Cond := .code yX5_crash cX5_crash 1 (some .int) :: ((wsX5_crash_r1 ++ (wsX5_crash_r2 ++ wsX5_crash_r3)) ++ wsX50 ++ wsX00 ++ wsX30 ++ wsX10)
def wsX5_mend_r1 : List Cond := [Cond.fieldLink RX5 16 "LendingDisk" "spare" "LLendingDisk$Disk;", Cond.fieldLink RX5 10 "LendingDisk" "disk" "LLendingDisk$Disk;", Cond.methodLink RX5 47 yX0_copyFrom, Cond.instanceMethod yX0_copyFrom, Cond.selects RX0 yX0_copyFrom yX0_copyFrom, Cond.initialized RX0, Cond.code yX0_copyFrom cX0_copyFrom 2 none, Cond.fieldLink RX0 14 "LendingDisk$Disk" "stamps" "LLendingDisk$Row;", Cond.fieldLink RX0 20 "LendingDisk$Disk" "owners" "LLendingDisk$Row;", Cond.fieldLink RX0 23 "LendingDisk$Disk" "places" "LLendingDisk$Row;", Cond.fieldLink RX0 26 "LendingDisk$Disk" "modes" "LLendingDisk$Row;", Cond.fieldLink RX0 29 "LendingDisk$Disk" "lengths" "LLendingDisk$Row;", Cond.fieldLink RX0 32 "LendingDisk$Disk" "sizes" "LLendingDisk$Row;", Cond.fieldLink RX0 35 "LendingDisk$Disk" "safeSizes" "LLendingDisk$Row;", Cond.fieldLink RX0 38 "LendingDisk$Disk" "lends" "LLendingDisk$Row;", Cond.fieldLink RX0 41 "LendingDisk$Disk" "settings" "LLendingDisk$Row;", Cond.fieldLink RX0 44 "LendingDisk$Disk" "totals" "LLendingDisk$Row;", Cond.methodLink RX0 50 yX3_copyFrom, Cond.instanceMethod yX3_copyFrom, Cond.selects RX3 yX3_copyFrom yX3_copyFrom, Cond.initialized RX3, Cond.code yX3_copyFrom cX3_copyFrom 3 none, Cond.fieldLink RX3 13 "LendingDisk$Row" "cells" "[I", Cond.methodLink RX3 19 yX3_at]
def wsX5_mend_r2 : List Cond := [Cond.instanceMethod yX3_at, Cond.selects RX3 yX3_at yX3_at, Cond.code yX3_at cX3_at 2 (some .int), Cond.methodLink RX5 82 yX0_mendAll, Cond.instanceMethod yX0_mendAll, Cond.selects RX0 yX0_mendAll yX0_mendAll, Cond.code yX0_mendAll cX0_mendAll 3 (some .int), Cond.methodLink RX0 54 yX3_holds, Cond.instanceMethod yX3_holds, Cond.selects RX3 yX3_holds yX3_holds, Cond.code yX3_holds cX3_holds 3 (some .boolean), Cond.methodLink RX0 69 yX0_giveBack, Cond.instanceMethod yX0_giveBack, Cond.selects RX0 yX0_giveBack yX0_giveBack, Cond.code yX0_giveBack cX0_giveBack 3 (some .int), Cond.methodLink RX0 82 yX0_lentOf, Cond.instanceMethod yX0_lentOf, Cond.selects RX0 yX0_lentOf yX0_lentOf, Cond.code yX0_lentOf cX0_lentOf 2 (some .int), Cond.methodLink RX0 72 yX3_at, Cond.methodLink RX0 75 yX0_freeFrom, Cond.instanceMethod yX0_freeFrom, Cond.selects RX0 yX0_freeFrom yX0_freeFrom, Cond.code yX0_freeFrom cX0_freeFrom 4 none]
def wsX5_mend_r3 : List Cond := [Cond.methodLink RX0 47 yX3_put, Cond.instanceMethod yX3_put, Cond.selects RX3 yX3_put yX3_put, Cond.code yX3_put cX3_put 3 none, Cond.methodLink RX0 104 yX3_grow, Cond.instanceMethod yX3_grow, Cond.selects RX3 yX3_grow yX3_grow, Cond.code yX3_grow cX3_grow 3 none, Cond.methodLink RX5 55 yX5_recorded, Cond.instanceMethod yX5_recorded, Cond.selects RX5 yX5_recorded yX5_recorded, Cond.initialized RX5, Cond.code yX5_recorded cX5_recorded 2 (some .int), Cond.fieldLink RX5 29 "LendingDisk" "history" "LLendingDisk$History;", Cond.methodLink RX5 102 yX1_record, Cond.instanceMethod yX1_record, Cond.selects RX1 yX1_record yX1_record, Cond.initialized RX1, Cond.code yX1_record cX1_record 3 none, Cond.fieldLink RX1 21 "LendingDisk$History" "size" "I", Cond.fieldLink RX1 17 "LendingDisk$History" "oldest" "I", Cond.methodLink RX1 25 yX1_slotBehind, Cond.instanceMethod yX1_slotBehind, Cond.selects RX1 yX1_slotBehind yX1_slotBehind]
def wsX5_mend_r4 : List Cond := [Cond.code yX1_slotBehind cX1_slotBehind 3 (some (.object "LendingDisk$Disk")), Cond.fieldLink RX1 11 "LendingDisk$History" "slots" "[LLendingDisk$Disk;", Cond.methodLink RX1 29 yX0_copyFrom]
def wsX5_mend : List Cond := .code yX5_mend cX5_mend 1 (some .int) :: ((wsX5_mend_r1 ++ (wsX5_mend_r2 ++ (wsX5_mend_r3 ++ wsX5_mend_r4))) ++ wsX50 ++ wsX00 ++ wsX30 ++ wsX10)
def wsX5_set_r1 : List Cond := [Cond.fieldLink RX5 16 "LendingDisk" "spare" "LLendingDisk$Disk;", Cond.fieldLink RX5 10 "LendingDisk" "disk" "LLendingDisk$Disk;", Cond.methodLink RX5 47 yX0_copyFrom, Cond.instanceMethod yX0_copyFrom, Cond.selects RX0 yX0_copyFrom yX0_copyFrom, Cond.initialized RX0, Cond.code yX0_copyFrom cX0_copyFrom 2 none, Cond.fieldLink RX0 14 "LendingDisk$Disk" "stamps" "LLendingDisk$Row;", Cond.fieldLink RX0 20 "LendingDisk$Disk" "owners" "LLendingDisk$Row;", Cond.fieldLink RX0 23 "LendingDisk$Disk" "places" "LLendingDisk$Row;", Cond.fieldLink RX0 26 "LendingDisk$Disk" "modes" "LLendingDisk$Row;", Cond.fieldLink RX0 29 "LendingDisk$Disk" "lengths" "LLendingDisk$Row;", Cond.fieldLink RX0 32 "LendingDisk$Disk" "sizes" "LLendingDisk$Row;", Cond.fieldLink RX0 35 "LendingDisk$Disk" "safeSizes" "LLendingDisk$Row;", Cond.fieldLink RX0 38 "LendingDisk$Disk" "lends" "LLendingDisk$Row;", Cond.fieldLink RX0 41 "LendingDisk$Disk" "settings" "LLendingDisk$Row;", Cond.fieldLink RX0 44 "LendingDisk$Disk" "totals" "LLendingDisk$Row;", Cond.methodLink RX0 50 yX3_copyFrom, Cond.instanceMethod yX3_copyFrom, Cond.selects RX3 yX3_copyFrom yX3_copyFrom, Cond.initialized RX3, Cond.code yX3_copyFrom cX3_copyFrom 3 none, Cond.fieldLink RX3 13 "LendingDisk$Row" "cells" "[I", Cond.methodLink RX3 19 yX3_at]
def wsX5_set_r2 : List Cond := [Cond.instanceMethod yX3_at, Cond.selects RX3 yX3_at yX3_at, Cond.code yX3_at cX3_at 2 (some .int), Cond.methodLink RX5 85 yX0_changeSetting, Cond.instanceMethod yX0_changeSetting, Cond.selects RX0 yX0_changeSetting yX0_changeSetting, Cond.code yX0_changeSetting cX0_changeSetting 5 (some .int), Cond.methodLink RX0 72 yX3_at, Cond.methodLink RX0 47 yX3_put, Cond.instanceMethod yX3_put, Cond.selects RX3 yX3_put yX3_put, Cond.code yX3_put cX3_put 3 none, Cond.methodLink RX5 55 yX5_recorded, Cond.instanceMethod yX5_recorded, Cond.selects RX5 yX5_recorded yX5_recorded, Cond.initialized RX5, Cond.code yX5_recorded cX5_recorded 2 (some .int), Cond.fieldLink RX5 29 "LendingDisk" "history" "LLendingDisk$History;", Cond.methodLink RX5 102 yX1_record, Cond.instanceMethod yX1_record, Cond.selects RX1 yX1_record yX1_record, Cond.initialized RX1, Cond.code yX1_record cX1_record 3 none, Cond.fieldLink RX1 21 "LendingDisk$History" "size" "I"]
def wsX5_set_r3 : List Cond := [Cond.fieldLink RX1 17 "LendingDisk$History" "oldest" "I", Cond.methodLink RX1 25 yX1_slotBehind, Cond.instanceMethod yX1_slotBehind, Cond.selects RX1 yX1_slotBehind yX1_slotBehind, Cond.code yX1_slotBehind cX1_slotBehind 3 (some (.object "LendingDisk$Disk")), Cond.fieldLink RX1 11 "LendingDisk$History" "slots" "[LLendingDisk$Disk;", Cond.methodLink RX1 29 yX0_copyFrom]
def wsX5_set : List Cond := .code yX5_set cX5_set 3 (some .int) :: ((wsX5_set_r1 ++ (wsX5_set_r2 ++ wsX5_set_r3)) ++ wsX50 ++ wsX00 ++ wsX30 ++ wsX10)
def wsX5_type : List Cond := .code yX5_type cX5_type 2 (some .int) :: ([.fieldLink RX5 36 "LendingDisk" "script" "LLendingDisk$Script;", .methodLink RX5 88 yX4_addCharacter, .instanceMethod yX4_addCharacter, .selects RX4 yX4_addCharacter yX4_addCharacter, .initialized RX4, .code yX4_addCharacter cX4_addCharacter 2 (some .boolean), .fieldLink RX4 20 "LendingDisk$Script" "length" "I", .fieldLink RX4 14 "LendingDisk$Script" "characters" "LLendingDisk$Row;", .methodLink RX4 28 yX3_put, .instanceMethod yX3_put, .selects RX3 yX3_put yX3_put, .initialized RX3, .code yX3_put cX3_put 3 none, .fieldLink RX3 13 "LendingDisk$Row" "cells" "[I", .methodLink RX5 92 yX4_length, .instanceMethod yX4_length, .selects RX4 yX4_length yX4_length, .code yX4_length cX4_length 1 (some .int)] ++ wsX50 ++ wsX40 ++ wsX30)
def wsX5_clearText : List Cond := .code yX5_clearText cX5_clearText 2 (some .int) :: ([.fieldLink RX5 36 "LendingDisk" "script" "LLendingDisk$Script;", .methodLink RX5 92 yX4_length, .instanceMethod yX4_length, .selects RX4 yX4_length yX4_length, .initialized RX4, .code yX4_length cX4_length 1 (some .int), .fieldLink RX4 20 "LendingDisk$Script" "length" "I", .methodLink RX5 95 yX4_empty, .instanceMethod yX4_empty, .selects RX4 yX4_empty yX4_empty, .code yX4_empty cX4_empty 1 none] ++ wsX50 ++ wsX40)
def wsX5_fault_r1 : List Cond := [Cond.fieldLink RX5 36 "LendingDisk" "script" "LLendingDisk$Script;", Cond.fieldLink RX5 43 "LendingDisk" "order" "LLendingDisk$Order;", Cond.methodLink RX5 98 yX4_firstFault, Cond.instanceMethod yX4_firstFault, Cond.selects RX4 yX4_firstFault yX4_firstFault, Cond.initialized RX4, Cond.code yX4_firstFault cX4_firstFault 3 (some .int), Cond.fieldLink RX4 20 "LendingDisk$Script" "length" "I", Cond.fieldLink RX4 14 "LendingDisk$Script" "characters" "LLendingDisk$Row;", Cond.methodLink RX4 31 yX2_begin, Cond.instanceMethod yX2_begin, Cond.selects RX2 yX2_begin yX2_begin, Cond.initialized RX2, Cond.code yX2_begin cX2_begin 1 none, Cond.fieldLink RX2 11 "LendingDisk$Order" "step" "I", Cond.methodLink RX4 24 yX3_at, Cond.instanceMethod yX3_at, Cond.selects RX3 yX3_at yX3_at, Cond.initialized RX3, Cond.code yX3_at cX3_at 2 (some .int), Cond.fieldLink RX3 13 "LendingDisk$Row" "cells" "[I", Cond.methodLink RX4 36 yX2_takes, Cond.instanceMethod yX2_takes, Cond.selects RX2 yX2_takes yX2_takes]
def wsX5_fault_r2 : List Cond := [Cond.code yX2_takes cX2_takes 3 (some .boolean), Cond.methodLink RX2 27 yX2_isWhole, Cond.instanceMethod yX2_isWhole, Cond.selects RX2 yX2_isWhole yX2_isWhole, Cond.code yX2_isWhole cX2_isWhole 1 (some .boolean), Cond.fieldLink RX2 15 "LendingDisk$Order" "letter" "I", Cond.methodLink RX2 31 yX2_takesLetter, Cond.instanceMethod yX2_takesLetter, Cond.selects RX2 yX2_takesLetter yX2_takesLetter, Cond.code yX2_takesLetter cX2_takesLetter 2 (some .boolean), Cond.methodLink RX2 35 yX2_takesFile, Cond.instanceMethod yX2_takesFile, Cond.selects RX2 yX2_takesFile yX2_takesFile, Cond.code yX2_takesFile cX2_takesFile 2 (some .boolean), Cond.fieldLink RX2 18 "LendingDisk$Order" "file" "I", Cond.methodLink RX2 38 yX2_takesMark, Cond.instanceMethod yX2_takesMark, Cond.selects RX2 yX2_takesMark yX2_takesMark, Cond.code yX2_takesMark cX2_takesMark 4 (some .boolean), Cond.methodLink RX2 42 yX2_takesFirst, Cond.instanceMethod yX2_takesFirst, Cond.selects RX2 yX2_takesFirst yX2_takesFirst, Cond.code yX2_takesFirst cX2_takesFirst 3 (some .boolean), Cond.fieldLink RX2 21 "LendingDisk$Order" "first" "I"]
def wsX5_fault_r3 : List Cond := [Cond.methodLink RX2 45 yX2_takesMoreOfFirst, Cond.instanceMethod yX2_takesMoreOfFirst, Cond.selects RX2 yX2_takesMoreOfFirst yX2_takesMoreOfFirst, Cond.code yX2_takesMoreOfFirst cX2_takesMoreOfFirst 3 (some .boolean), Cond.methodLink RX2 54 yX2_isMore, Cond.static yX2_isMore, Cond.code yX2_isMore cX2_isMore 4 (some .boolean), Cond.methodLink RX2 48 yX2_takesSecond, Cond.instanceMethod yX2_takesSecond, Cond.selects RX2 yX2_takesSecond yX2_takesSecond, Cond.code yX2_takesSecond cX2_takesSecond 2 (some .boolean), Cond.fieldLink RX2 24 "LendingDisk$Order" "second" "I", Cond.methodLink RX2 51 yX2_takesMoreOfSecond, Cond.instanceMethod yX2_takesMoreOfSecond, Cond.selects RX2 yX2_takesMoreOfSecond yX2_takesMoreOfSecond, Cond.code yX2_takesMoreOfSecond cX2_takesMoreOfSecond 3 (some .boolean), Cond.methodLink RX4 40 yX2_isWhole]
def wsX5_fault : List Cond := .code yX5_fault cX5_fault 1 (some .int) :: ((wsX5_fault_r1 ++ (wsX5_fault_r2 ++ wsX5_fault_r3)) ++ wsX50 ++ wsX40 ++ wsX20 ++ wsX30)
def wsX5_carryOut_r1 : List Cond := [Cond.fieldLink RX5 43 "LendingDisk" "order" "LLendingDisk$Order;", Cond.fieldLink RX5 10 "LendingDisk" "disk" "LLendingDisk$Disk;", Cond.methodLink RX5 210 yX2_fileNumber, Cond.instanceMethod yX2_fileNumber, Cond.selects RX2 yX2_fileNumber yX2_fileNumber, Cond.initialized RX2, Cond.code yX2_fileNumber cX2_fileNumber 1 (some .int), Cond.fieldLink RX2 18 "LendingDisk$Order" "file" "I", Cond.methodLink RX5 213 yX2_letter, Cond.instanceMethod yX2_letter, Cond.selects RX2 yX2_letter yX2_letter, Cond.code yX2_letter cX2_letter 1 (some .int), Cond.fieldLink RX2 15 "LendingDisk$Order" "letter" "I", Cond.methodLink RX5 51 yX0_createFile, Cond.instanceMethod yX0_createFile, Cond.selects RX0 yX0_createFile yX0_createFile, Cond.initialized RX0, Cond.code yX0_createFile cX0_createFile 2 (some .int), Cond.fieldLink RX0 26 "LendingDisk$Disk" "modes" "LLendingDisk$Row;", Cond.fieldLink RX0 29 "LendingDisk$Disk" "lengths" "LLendingDisk$Row;", Cond.fieldLink RX0 32 "LendingDisk$Disk" "sizes" "LLendingDisk$Row;", Cond.fieldLink RX0 35 "LendingDisk$Disk" "safeSizes" "LLendingDisk$Row;", Cond.fieldLink RX0 38 "LendingDisk$Disk" "lends" "LLendingDisk$Row;", Cond.methodLink RX0 54 yX3_holds]
def wsX5_carryOut_r2 : List Cond := [Cond.instanceMethod yX3_holds, Cond.selects RX3 yX3_holds yX3_holds, Cond.initialized RX3, Cond.code yX3_holds cX3_holds 3 (some .boolean), Cond.fieldLink RX3 13 "LendingDisk$Row" "cells" "[I", Cond.methodLink RX0 47 yX3_put, Cond.instanceMethod yX3_put, Cond.selects RX3 yX3_put yX3_put, Cond.code yX3_put cX3_put 3 none, Cond.methodLink RX5 59 yX0_openFile, Cond.instanceMethod yX0_openFile, Cond.selects RX0 yX0_openFile yX0_openFile, Cond.code yX0_openFile cX0_openFile 2 (some .int), Cond.methodLink RX0 58 yX0_isFile, Cond.instanceMethod yX0_isFile, Cond.selects RX0 yX0_isFile yX0_isFile, Cond.code yX0_isFile cX0_isFile 2 (some .boolean), Cond.methodLink RX0 62 yX0_isOpen, Cond.instanceMethod yX0_isOpen, Cond.selects RX0 yX0_isOpen yX0_isOpen, Cond.code yX0_isOpen cX0_isOpen 2 (some .boolean), Cond.methodLink RX0 65 yX0_filesThatAre, Cond.instanceMethod yX0_filesThatAre, Cond.selects RX0 yX0_filesThatAre yX0_filesThatAre]
def wsX5_carryOut_r3 : List Cond := [Cond.code yX0_filesThatAre cX0_filesThatAre 4 (some .int), Cond.methodLink RX5 62 yX0_closeFile, Cond.instanceMethod yX0_closeFile, Cond.selects RX0 yX0_closeFile yX0_closeFile, Cond.code yX0_closeFile cX0_closeFile 3 (some .int), Cond.methodLink RX0 69 yX0_giveBack, Cond.instanceMethod yX0_giveBack, Cond.selects RX0 yX0_giveBack yX0_giveBack, Cond.code yX0_giveBack cX0_giveBack 3 (some .int), Cond.fieldLink RX0 44 "LendingDisk$Disk" "totals" "LLendingDisk$Row;", Cond.methodLink RX0 82 yX0_lentOf, Cond.instanceMethod yX0_lentOf, Cond.selects RX0 yX0_lentOf yX0_lentOf, Cond.code yX0_lentOf cX0_lentOf 2 (some .int), Cond.methodLink RX0 72 yX3_at, Cond.instanceMethod yX3_at, Cond.selects RX3 yX3_at yX3_at, Cond.code yX3_at cX3_at 2 (some .int), Cond.methodLink RX0 75 yX0_freeFrom, Cond.instanceMethod yX0_freeFrom, Cond.selects RX0 yX0_freeFrom yX0_freeFrom, Cond.code yX0_freeFrom cX0_freeFrom 4 none, Cond.fieldLink RX0 20 "LendingDisk$Disk" "owners" "LLendingDisk$Row;", Cond.fieldLink RX0 23 "LendingDisk$Disk" "places" "LLendingDisk$Row;"]
def wsX5_carryOut_r4 : List Cond := [Cond.methodLink RX0 104 yX3_grow, Cond.instanceMethod yX3_grow, Cond.selects RX3 yX3_grow yX3_grow, Cond.code yX3_grow cX3_grow 3 none, Cond.methodLink RX5 65 yX0_removeFile, Cond.instanceMethod yX0_removeFile, Cond.selects RX0 yX0_removeFile yX0_removeFile, Cond.code yX0_removeFile cX0_removeFile 3 (some .int), Cond.methodLink RX5 68 yX0_syncFile, Cond.instanceMethod yX0_syncFile, Cond.selects RX0 yX0_syncFile yX0_syncFile, Cond.code yX0_syncFile cX0_syncFile 3 (some .int), Cond.methodLink RX5 216 yX2_firstNumber, Cond.instanceMethod yX2_firstNumber, Cond.selects RX2 yX2_firstNumber yX2_firstNumber, Cond.code yX2_firstNumber cX2_firstNumber 1 (some .int), Cond.fieldLink RX2 21 "LendingDisk$Order" "first" "I", Cond.methodLink RX5 219 yX2_secondNumber, Cond.instanceMethod yX2_secondNumber, Cond.selects RX2 yX2_secondNumber yX2_secondNumber, Cond.code yX2_secondNumber cX2_secondNumber 1 (some .int), Cond.fieldLink RX2 24 "LendingDisk$Order" "second" "I", Cond.methodLink RX5 71 yX0_appendTo, Cond.instanceMethod yX0_appendTo]
def wsX5_carryOut_r5 : List Cond := [Cond.selects RX0 yX0_appendTo yX0_appendTo, Cond.code yX0_appendTo cX0_appendTo 5 (some .int), Cond.methodLink RX0 78 yX0_blocksWithoutData, Cond.instanceMethod yX0_blocksWithoutData, Cond.selects RX0 yX0_blocksWithoutData yX0_blocksWithoutData, Cond.code yX0_blocksWithoutData cX0_blocksWithoutData 1 (some .int), Cond.methodLink RX0 140 yX0_dataBlocks, Cond.instanceMethod yX0_dataBlocks, Cond.selects RX0 yX0_dataBlocks yX0_dataBlocks, Cond.code yX0_dataBlocks cX0_dataBlocks 3 (some .int), Cond.methodLink RX0 85 yX0_takeBack, Cond.instanceMethod yX0_takeBack, Cond.selects RX0 yX0_takeBack yX0_takeBack, Cond.code yX0_takeBack cX0_takeBack 5 none, Cond.methodLink RX0 107 yX0_freeBlocks, Cond.instanceMethod yX0_freeBlocks, Cond.selects RX0 yX0_freeBlocks yX0_freeBlocks, Cond.code yX0_freeBlocks cX0_freeBlocks 3 (some .int), Cond.methodLink RX0 110 yX0_greatestLender, Cond.instanceMethod yX0_greatestLender, Cond.selects RX0 yX0_greatestLender yX0_greatestLender, Cond.code yX0_greatestLender cX0_greatestLender 5 (some .int), Cond.methodLink RX0 88 yX0_lengthen, Cond.instanceMethod yX0_lengthen]
def wsX5_carryOut_r6 : List Cond := [Cond.selects RX0 yX0_lengthen yX0_lengthen, Cond.code yX0_lengthen cX0_lengthen 8 none, Cond.fieldLink RX0 41 "LendingDisk$Disk" "settings" "LLendingDisk$Row;", Cond.methodLink RX0 98 Lib.Math.min.name, Cond.static Lib.Math.min.name, Cond.initialized "java/lang/Math", Cond.code Lib.Math.min.name Lib.Math.min.code 2 (some .int), Cond.methodLink RX0 113 yX0_blockAt, Cond.instanceMethod yX0_blockAt, Cond.selects RX0 yX0_blockAt yX0_blockAt, Cond.code yX0_blockAt cX0_blockAt 4 (some .int), Cond.methodLink RX0 116 yX0_addFrom, Cond.instanceMethod yX0_addFrom, Cond.selects RX0 yX0_addFrom yX0_addFrom, Cond.code yX0_addFrom cX0_addFrom 5 (some .int), Cond.methodLink RX0 120 yX0_chosenRun, Cond.instanceMethod yX0_chosenRun, Cond.selects RX0 yX0_chosenRun yX0_chosenRun, Cond.code yX0_chosenRun cX0_chosenRun 6 (some .int), Cond.methodLink RX0 123 yX0_runFrom, Cond.instanceMethod yX0_runFrom, Cond.selects RX0 yX0_runFrom yX0_runFrom, Cond.code yX0_runFrom cX0_runFrom 3 (some .int), Cond.methodLink RX0 126 yX0_isBetter]
def wsX5_carryOut_r7 : List Cond := [Cond.instanceMethod yX0_isBetter, Cond.selects RX0 yX0_isBetter yX0_isBetter, Cond.code yX0_isBetter cX0_isBetter 4 (some .boolean), Cond.methodLink RX0 91 yX0_write, Cond.instanceMethod yX0_write, Cond.selects RX0 yX0_write yX0_write, Cond.code yX0_write cX0_write 6 none, Cond.fieldLink RX0 14 "LendingDisk$Disk" "stamps" "LLendingDisk$Row;", Cond.methodLink RX0 130 yX0_isPart, Cond.instanceMethod yX0_isPart, Cond.selects RX0 yX0_isPart yX0_isPart, Cond.code yX0_isPart cX0_isPart 5 (some .boolean), Cond.methodLink RX0 95 yX0_extentsOf, Cond.instanceMethod yX0_extentsOf, Cond.selects RX0 yX0_extentsOf yX0_extentsOf, Cond.code yX0_extentsOf cX0_extentsOf 4 (some .int), Cond.methodLink RX0 134 yX0_beginsExtent, Cond.instanceMethod yX0_beginsExtent, Cond.selects RX0 yX0_beginsExtent yX0_beginsExtent, Cond.code yX0_beginsExtent cX0_beginsExtent 2 (some .boolean), Cond.methodLink RX5 75 yX0_cutFile, Cond.instanceMethod yX0_cutFile, Cond.selects RX0 yX0_cutFile yX0_cutFile, Cond.code yX0_cutFile cX0_cutFile 4 (some .int)]
def wsX5_carryOut_r8 : List Cond := [Cond.methodLink RX5 79 yX0_crashAll, Cond.instanceMethod yX0_crashAll, Cond.selects RX0 yX0_crashAll yX0_crashAll, Cond.code yX0_crashAll cX0_crashAll 3 (some .int), Cond.methodLink RX5 82 yX0_mendAll, Cond.instanceMethod yX0_mendAll, Cond.selects RX0 yX0_mendAll yX0_mendAll, Cond.code yX0_mendAll cX0_mendAll 3 (some .int)]
def wsX5_carryOut : List Cond := .code yX5_carryOut cX5_carryOut 2 (some .int) :: ((wsX5_carryOut_r1 ++ (wsX5_carryOut_r2 ++ (wsX5_carryOut_r3 ++ (wsX5_carryOut_r4 ++ (wsX5_carryOut_r5 ++ (wsX5_carryOut_r6 ++ (wsX5_carryOut_r7 ++ wsX5_carryOut_r8))))))) ++ wsX50 ++ wsX20 ++ wsX00 ++ wsX30)
def wsX5_perform_r1 : List Cond := [Cond.fieldLink RX5 36 "LendingDisk" "script" "LLendingDisk$Script;", Cond.fieldLink RX5 43 "LendingDisk" "order" "LLendingDisk$Order;", Cond.fieldLink RX5 29 "LendingDisk" "history" "LLendingDisk$History;", Cond.fieldLink RX5 10 "LendingDisk" "disk" "LLendingDisk$Disk;", Cond.methodLink RX5 98 yX4_firstFault, Cond.instanceMethod yX4_firstFault, Cond.selects RX4 yX4_firstFault yX4_firstFault, Cond.initialized RX4, Cond.code yX4_firstFault cX4_firstFault 3 (some .int), Cond.fieldLink RX4 20 "LendingDisk$Script" "length" "I", Cond.fieldLink RX4 14 "LendingDisk$Script" "characters" "LLendingDisk$Row;", Cond.methodLink RX4 31 yX2_begin, Cond.instanceMethod yX2_begin, Cond.selects RX2 yX2_begin yX2_begin, Cond.initialized RX2, Cond.code yX2_begin cX2_begin 1 none, Cond.fieldLink RX2 11 "LendingDisk$Order" "step" "I", Cond.methodLink RX4 24 yX3_at, Cond.instanceMethod yX3_at, Cond.selects RX3 yX3_at yX3_at, Cond.initialized RX3, Cond.code yX3_at cX3_at 2 (some .int), Cond.fieldLink RX3 13 "LendingDisk$Row" "cells" "[I", Cond.methodLink RX4 36 yX2_takes]
def wsX5_perform_r2 : List Cond := [Cond.instanceMethod yX2_takes, Cond.selects RX2 yX2_takes yX2_takes, Cond.code yX2_takes cX2_takes 3 (some .boolean), Cond.methodLink RX2 27 yX2_isWhole, Cond.instanceMethod yX2_isWhole, Cond.selects RX2 yX2_isWhole yX2_isWhole, Cond.code yX2_isWhole cX2_isWhole 1 (some .boolean), Cond.fieldLink RX2 15 "LendingDisk$Order" "letter" "I", Cond.methodLink RX2 31 yX2_takesLetter, Cond.instanceMethod yX2_takesLetter, Cond.selects RX2 yX2_takesLetter yX2_takesLetter, Cond.code yX2_takesLetter cX2_takesLetter 2 (some .boolean), Cond.methodLink RX2 35 yX2_takesFile, Cond.instanceMethod yX2_takesFile, Cond.selects RX2 yX2_takesFile yX2_takesFile, Cond.code yX2_takesFile cX2_takesFile 2 (some .boolean), Cond.fieldLink RX2 18 "LendingDisk$Order" "file" "I", Cond.methodLink RX2 38 yX2_takesMark, Cond.instanceMethod yX2_takesMark, Cond.selects RX2 yX2_takesMark yX2_takesMark, Cond.code yX2_takesMark cX2_takesMark 4 (some .boolean), Cond.methodLink RX2 42 yX2_takesFirst, Cond.instanceMethod yX2_takesFirst, Cond.selects RX2 yX2_takesFirst yX2_takesFirst]
def wsX5_perform_r3 : List Cond := [Cond.code yX2_takesFirst cX2_takesFirst 3 (some .boolean), Cond.fieldLink RX2 21 "LendingDisk$Order" "first" "I", Cond.methodLink RX2 45 yX2_takesMoreOfFirst, Cond.instanceMethod yX2_takesMoreOfFirst, Cond.selects RX2 yX2_takesMoreOfFirst yX2_takesMoreOfFirst, Cond.code yX2_takesMoreOfFirst cX2_takesMoreOfFirst 3 (some .boolean), Cond.methodLink RX2 54 yX2_isMore, Cond.static yX2_isMore, Cond.code yX2_isMore cX2_isMore 4 (some .boolean), Cond.methodLink RX2 48 yX2_takesSecond, Cond.instanceMethod yX2_takesSecond, Cond.selects RX2 yX2_takesSecond yX2_takesSecond, Cond.code yX2_takesSecond cX2_takesSecond 2 (some .boolean), Cond.fieldLink RX2 24 "LendingDisk$Order" "second" "I", Cond.methodLink RX2 51 yX2_takesMoreOfSecond, Cond.instanceMethod yX2_takesMoreOfSecond, Cond.selects RX2 yX2_takesMoreOfSecond yX2_takesMoreOfSecond, Cond.code yX2_takesMoreOfSecond cX2_takesMoreOfSecond 3 (some .boolean), Cond.methodLink RX4 40 yX2_isWhole, Cond.methodLink RX5 102 yX1_record, Cond.instanceMethod yX1_record, Cond.selects RX1 yX1_record yX1_record, Cond.initialized RX1, Cond.code yX1_record cX1_record 3 none]
def wsX5_perform_r4 : List Cond := [Cond.fieldLink RX1 21 "LendingDisk$History" "size" "I", Cond.fieldLink RX1 17 "LendingDisk$History" "oldest" "I", Cond.methodLink RX1 25 yX1_slotBehind, Cond.instanceMethod yX1_slotBehind, Cond.selects RX1 yX1_slotBehind yX1_slotBehind, Cond.code yX1_slotBehind cX1_slotBehind 3 (some (.object "LendingDisk$Disk")), Cond.fieldLink RX1 11 "LendingDisk$History" "slots" "[LLendingDisk$Disk;", Cond.methodLink RX1 29 yX0_copyFrom, Cond.instanceMethod yX0_copyFrom, Cond.selects RX0 yX0_copyFrom yX0_copyFrom, Cond.initialized RX0, Cond.code yX0_copyFrom cX0_copyFrom 2 none, Cond.fieldLink RX0 14 "LendingDisk$Disk" "stamps" "LLendingDisk$Row;", Cond.fieldLink RX0 20 "LendingDisk$Disk" "owners" "LLendingDisk$Row;", Cond.fieldLink RX0 23 "LendingDisk$Disk" "places" "LLendingDisk$Row;", Cond.fieldLink RX0 26 "LendingDisk$Disk" "modes" "LLendingDisk$Row;", Cond.fieldLink RX0 29 "LendingDisk$Disk" "lengths" "LLendingDisk$Row;", Cond.fieldLink RX0 32 "LendingDisk$Disk" "sizes" "LLendingDisk$Row;", Cond.fieldLink RX0 35 "LendingDisk$Disk" "safeSizes" "LLendingDisk$Row;", Cond.fieldLink RX0 38 "LendingDisk$Disk" "lends" "LLendingDisk$Row;", Cond.fieldLink RX0 41 "LendingDisk$Disk" "settings" "LLendingDisk$Row;", Cond.fieldLink RX0 44 "LendingDisk$Disk" "totals" "LLendingDisk$Row;", Cond.methodLink RX0 50 yX3_copyFrom, Cond.instanceMethod yX3_copyFrom]
def wsX5_perform_r5 : List Cond := [Cond.selects RX3 yX3_copyFrom yX3_copyFrom, Cond.code yX3_copyFrom cX3_copyFrom 3 none, Cond.methodLink RX3 19 yX3_at, Cond.methodLink RX5 105 yX2_begin, Cond.methodLink RX5 92 yX4_length, Cond.instanceMethod yX4_length, Cond.selects RX4 yX4_length yX4_length, Cond.code yX4_length cX4_length 1 (some .int), Cond.methodLink RX5 108 yX4_characterAt, Cond.instanceMethod yX4_characterAt, Cond.selects RX4 yX4_characterAt yX4_characterAt, Cond.code yX4_characterAt cX4_characterAt 2 (some .int), Cond.methodLink RX5 111 yX5_carryOut, Cond.instanceMethod yX5_carryOut, Cond.selects RX5 yX5_carryOut yX5_carryOut, Cond.initialized RX5, Cond.code yX5_carryOut cX5_carryOut 2 (some .int), Cond.methodLink RX5 210 yX2_fileNumber, Cond.instanceMethod yX2_fileNumber, Cond.selects RX2 yX2_fileNumber yX2_fileNumber, Cond.code yX2_fileNumber cX2_fileNumber 1 (some .int), Cond.methodLink RX5 213 yX2_letter, Cond.instanceMethod yX2_letter, Cond.selects RX2 yX2_letter yX2_letter]
def wsX5_perform_r6 : List Cond := [Cond.code yX2_letter cX2_letter 1 (some .int), Cond.methodLink RX5 51 yX0_createFile, Cond.instanceMethod yX0_createFile, Cond.selects RX0 yX0_createFile yX0_createFile, Cond.code yX0_createFile cX0_createFile 2 (some .int), Cond.methodLink RX0 54 yX3_holds, Cond.instanceMethod yX3_holds, Cond.selects RX3 yX3_holds yX3_holds, Cond.code yX3_holds cX3_holds 3 (some .boolean), Cond.methodLink RX0 47 yX3_put, Cond.instanceMethod yX3_put, Cond.selects RX3 yX3_put yX3_put, Cond.code yX3_put cX3_put 3 none, Cond.methodLink RX5 59 yX0_openFile, Cond.instanceMethod yX0_openFile, Cond.selects RX0 yX0_openFile yX0_openFile, Cond.code yX0_openFile cX0_openFile 2 (some .int), Cond.methodLink RX0 58 yX0_isFile, Cond.instanceMethod yX0_isFile, Cond.selects RX0 yX0_isFile yX0_isFile, Cond.code yX0_isFile cX0_isFile 2 (some .boolean), Cond.methodLink RX0 62 yX0_isOpen, Cond.instanceMethod yX0_isOpen, Cond.selects RX0 yX0_isOpen yX0_isOpen]
def wsX5_perform_r7 : List Cond := [Cond.code yX0_isOpen cX0_isOpen 2 (some .boolean), Cond.methodLink RX0 65 yX0_filesThatAre, Cond.instanceMethod yX0_filesThatAre, Cond.selects RX0 yX0_filesThatAre yX0_filesThatAre, Cond.code yX0_filesThatAre cX0_filesThatAre 4 (some .int), Cond.methodLink RX5 62 yX0_closeFile, Cond.instanceMethod yX0_closeFile, Cond.selects RX0 yX0_closeFile yX0_closeFile, Cond.code yX0_closeFile cX0_closeFile 3 (some .int), Cond.methodLink RX0 69 yX0_giveBack, Cond.instanceMethod yX0_giveBack, Cond.selects RX0 yX0_giveBack yX0_giveBack, Cond.code yX0_giveBack cX0_giveBack 3 (some .int), Cond.methodLink RX0 82 yX0_lentOf, Cond.instanceMethod yX0_lentOf, Cond.selects RX0 yX0_lentOf yX0_lentOf, Cond.code yX0_lentOf cX0_lentOf 2 (some .int), Cond.methodLink RX0 72 yX3_at, Cond.methodLink RX0 75 yX0_freeFrom, Cond.instanceMethod yX0_freeFrom, Cond.selects RX0 yX0_freeFrom yX0_freeFrom, Cond.code yX0_freeFrom cX0_freeFrom 4 none, Cond.methodLink RX0 104 yX3_grow, Cond.instanceMethod yX3_grow]
def wsX5_perform_r8 : List Cond := [Cond.selects RX3 yX3_grow yX3_grow, Cond.code yX3_grow cX3_grow 3 none, Cond.methodLink RX5 65 yX0_removeFile, Cond.instanceMethod yX0_removeFile, Cond.selects RX0 yX0_removeFile yX0_removeFile, Cond.code yX0_removeFile cX0_removeFile 3 (some .int), Cond.methodLink RX5 68 yX0_syncFile, Cond.instanceMethod yX0_syncFile, Cond.selects RX0 yX0_syncFile yX0_syncFile, Cond.code yX0_syncFile cX0_syncFile 3 (some .int), Cond.methodLink RX5 216 yX2_firstNumber, Cond.instanceMethod yX2_firstNumber, Cond.selects RX2 yX2_firstNumber yX2_firstNumber, Cond.code yX2_firstNumber cX2_firstNumber 1 (some .int), Cond.methodLink RX5 219 yX2_secondNumber, Cond.instanceMethod yX2_secondNumber, Cond.selects RX2 yX2_secondNumber yX2_secondNumber, Cond.code yX2_secondNumber cX2_secondNumber 1 (some .int), Cond.methodLink RX5 71 yX0_appendTo, Cond.instanceMethod yX0_appendTo, Cond.selects RX0 yX0_appendTo yX0_appendTo, Cond.code yX0_appendTo cX0_appendTo 5 (some .int), Cond.methodLink RX0 78 yX0_blocksWithoutData, Cond.instanceMethod yX0_blocksWithoutData]
def wsX5_perform_r9 : List Cond := [Cond.selects RX0 yX0_blocksWithoutData yX0_blocksWithoutData, Cond.code yX0_blocksWithoutData cX0_blocksWithoutData 1 (some .int), Cond.methodLink RX0 140 yX0_dataBlocks, Cond.instanceMethod yX0_dataBlocks, Cond.selects RX0 yX0_dataBlocks yX0_dataBlocks, Cond.code yX0_dataBlocks cX0_dataBlocks 3 (some .int), Cond.methodLink RX0 85 yX0_takeBack, Cond.instanceMethod yX0_takeBack, Cond.selects RX0 yX0_takeBack yX0_takeBack, Cond.code yX0_takeBack cX0_takeBack 5 none, Cond.methodLink RX0 107 yX0_freeBlocks, Cond.instanceMethod yX0_freeBlocks, Cond.selects RX0 yX0_freeBlocks yX0_freeBlocks, Cond.code yX0_freeBlocks cX0_freeBlocks 3 (some .int), Cond.methodLink RX0 110 yX0_greatestLender, Cond.instanceMethod yX0_greatestLender, Cond.selects RX0 yX0_greatestLender yX0_greatestLender, Cond.code yX0_greatestLender cX0_greatestLender 5 (some .int), Cond.methodLink RX0 88 yX0_lengthen, Cond.instanceMethod yX0_lengthen, Cond.selects RX0 yX0_lengthen yX0_lengthen, Cond.code yX0_lengthen cX0_lengthen 8 none, Cond.methodLink RX0 98 Lib.Math.min.name, Cond.static Lib.Math.min.name]
def wsX5_perform_r10 : List Cond := [Cond.initialized "java/lang/Math", Cond.code Lib.Math.min.name Lib.Math.min.code 2 (some .int), Cond.methodLink RX0 113 yX0_blockAt, Cond.instanceMethod yX0_blockAt, Cond.selects RX0 yX0_blockAt yX0_blockAt, Cond.code yX0_blockAt cX0_blockAt 4 (some .int), Cond.methodLink RX0 116 yX0_addFrom, Cond.instanceMethod yX0_addFrom, Cond.selects RX0 yX0_addFrom yX0_addFrom, Cond.code yX0_addFrom cX0_addFrom 5 (some .int), Cond.methodLink RX0 120 yX0_chosenRun, Cond.instanceMethod yX0_chosenRun, Cond.selects RX0 yX0_chosenRun yX0_chosenRun, Cond.code yX0_chosenRun cX0_chosenRun 6 (some .int), Cond.methodLink RX0 123 yX0_runFrom, Cond.instanceMethod yX0_runFrom, Cond.selects RX0 yX0_runFrom yX0_runFrom, Cond.code yX0_runFrom cX0_runFrom 3 (some .int), Cond.methodLink RX0 126 yX0_isBetter, Cond.instanceMethod yX0_isBetter, Cond.selects RX0 yX0_isBetter yX0_isBetter, Cond.code yX0_isBetter cX0_isBetter 4 (some .boolean), Cond.methodLink RX0 91 yX0_write, Cond.instanceMethod yX0_write]
def wsX5_perform_r11 : List Cond := [Cond.selects RX0 yX0_write yX0_write, Cond.code yX0_write cX0_write 6 none, Cond.methodLink RX0 130 yX0_isPart, Cond.instanceMethod yX0_isPart, Cond.selects RX0 yX0_isPart yX0_isPart, Cond.code yX0_isPart cX0_isPart 5 (some .boolean), Cond.methodLink RX0 95 yX0_extentsOf, Cond.instanceMethod yX0_extentsOf, Cond.selects RX0 yX0_extentsOf yX0_extentsOf, Cond.code yX0_extentsOf cX0_extentsOf 4 (some .int), Cond.methodLink RX0 134 yX0_beginsExtent, Cond.instanceMethod yX0_beginsExtent, Cond.selects RX0 yX0_beginsExtent yX0_beginsExtent, Cond.code yX0_beginsExtent cX0_beginsExtent 2 (some .boolean), Cond.methodLink RX5 75 yX0_cutFile, Cond.instanceMethod yX0_cutFile, Cond.selects RX0 yX0_cutFile yX0_cutFile, Cond.code yX0_cutFile cX0_cutFile 4 (some .int), Cond.methodLink RX5 79 yX0_crashAll, Cond.instanceMethod yX0_crashAll, Cond.selects RX0 yX0_crashAll yX0_crashAll, Cond.code yX0_crashAll cX0_crashAll 3 (some .int), Cond.methodLink RX5 82 yX0_mendAll, Cond.instanceMethod yX0_mendAll]
def wsX5_perform_r12 : List Cond := [Cond.selects RX0 yX0_mendAll yX0_mendAll, Cond.code yX0_mendAll cX0_mendAll 3 (some .int), Cond.methodLink RX5 114 yX2_takes]
def wsX5_perform : List Cond := .code yX5_perform cX5_perform 4 (some .int) :: ((wsX5_perform_r1 ++ (wsX5_perform_r2 ++ (wsX5_perform_r3 ++ (wsX5_perform_r4 ++ (wsX5_perform_r5 ++ (wsX5_perform_r6 ++ (wsX5_perform_r7 ++ (wsX5_perform_r8 ++ (wsX5_perform_r9 ++ (wsX5_perform_r10 ++ (wsX5_perform_r11 ++ wsX5_perform_r12))))))))))) ++ wsX50 ++ wsX40 ++ wsX20 ++ wsX30 ++ wsX10 ++ wsX00)
def wsX5_undo_r1 : List Cond := [Cond.fieldLink RX5 29 "LendingDisk" "history" "LLendingDisk$History;", Cond.fieldLink RX5 10 "LendingDisk" "disk" "LLendingDisk$Disk;", Cond.methodLink RX5 117 yX1_takeLatest, Cond.instanceMethod yX1_takeLatest, Cond.selects RX1 yX1_takeLatest yX1_takeLatest, Cond.initialized RX1, Cond.code yX1_takeLatest cX1_takeLatest 3 (some .boolean), Cond.fieldLink RX1 21 "LendingDisk$History" "size" "I", Cond.methodLink RX1 25 yX1_slotBehind, Cond.instanceMethod yX1_slotBehind, Cond.selects RX1 yX1_slotBehind yX1_slotBehind, Cond.code yX1_slotBehind cX1_slotBehind 3 (some (.object "LendingDisk$Disk")), Cond.fieldLink RX1 17 "LendingDisk$History" "oldest" "I", Cond.fieldLink RX1 11 "LendingDisk$History" "slots" "[LLendingDisk$Disk;", Cond.methodLink RX1 29 yX0_copyFrom, Cond.instanceMethod yX0_copyFrom, Cond.selects RX0 yX0_copyFrom yX0_copyFrom, Cond.initialized RX0, Cond.code yX0_copyFrom cX0_copyFrom 2 none, Cond.fieldLink RX0 14 "LendingDisk$Disk" "stamps" "LLendingDisk$Row;", Cond.fieldLink RX0 20 "LendingDisk$Disk" "owners" "LLendingDisk$Row;", Cond.fieldLink RX0 23 "LendingDisk$Disk" "places" "LLendingDisk$Row;", Cond.fieldLink RX0 26 "LendingDisk$Disk" "modes" "LLendingDisk$Row;", Cond.fieldLink RX0 29 "LendingDisk$Disk" "lengths" "LLendingDisk$Row;"]
def wsX5_undo_r2 : List Cond := [Cond.fieldLink RX0 32 "LendingDisk$Disk" "sizes" "LLendingDisk$Row;", Cond.fieldLink RX0 35 "LendingDisk$Disk" "safeSizes" "LLendingDisk$Row;", Cond.fieldLink RX0 38 "LendingDisk$Disk" "lends" "LLendingDisk$Row;", Cond.fieldLink RX0 41 "LendingDisk$Disk" "settings" "LLendingDisk$Row;", Cond.fieldLink RX0 44 "LendingDisk$Disk" "totals" "LLendingDisk$Row;", Cond.methodLink RX0 50 yX3_copyFrom, Cond.instanceMethod yX3_copyFrom, Cond.selects RX3 yX3_copyFrom yX3_copyFrom, Cond.initialized RX3, Cond.code yX3_copyFrom cX3_copyFrom 3 none, Cond.fieldLink RX3 13 "LendingDisk$Row" "cells" "[I", Cond.methodLink RX3 19 yX3_at, Cond.instanceMethod yX3_at, Cond.selects RX3 yX3_at yX3_at, Cond.code yX3_at cX3_at 2 (some .int), Cond.methodLink RX5 121 yX1_size, Cond.instanceMethod yX1_size, Cond.selects RX1 yX1_size yX1_size, Cond.code yX1_size cX1_size 1 (some .int)]
def wsX5_undo : List Cond := .code yX5_undo cX5_undo 1 (some .int) :: ((wsX5_undo_r1 ++ wsX5_undo_r2) ++ wsX50 ++ wsX10 ++ wsX00 ++ wsX30)
def wsX5_save_r1 : List Cond := [Cond.fieldLink RX5 19 "LendingDisk" "snapshot" "LLendingDisk$Disk;", Cond.fieldLink RX5 10 "LendingDisk" "disk" "LLendingDisk$Disk;", Cond.fieldLink RX5 22 "LendingDisk" "hasSnapshot" "Z", Cond.methodLink RX5 47 yX0_copyFrom, Cond.instanceMethod yX0_copyFrom, Cond.selects RX0 yX0_copyFrom yX0_copyFrom, Cond.initialized RX0, Cond.code yX0_copyFrom cX0_copyFrom 2 none, Cond.fieldLink RX0 14 "LendingDisk$Disk" "stamps" "LLendingDisk$Row;", Cond.fieldLink RX0 20 "LendingDisk$Disk" "owners" "LLendingDisk$Row;", Cond.fieldLink RX0 23 "LendingDisk$Disk" "places" "LLendingDisk$Row;", Cond.fieldLink RX0 26 "LendingDisk$Disk" "modes" "LLendingDisk$Row;", Cond.fieldLink RX0 29 "LendingDisk$Disk" "lengths" "LLendingDisk$Row;", Cond.fieldLink RX0 32 "LendingDisk$Disk" "sizes" "LLendingDisk$Row;", Cond.fieldLink RX0 35 "LendingDisk$Disk" "safeSizes" "LLendingDisk$Row;", Cond.fieldLink RX0 38 "LendingDisk$Disk" "lends" "LLendingDisk$Row;", Cond.fieldLink RX0 41 "LendingDisk$Disk" "settings" "LLendingDisk$Row;", Cond.fieldLink RX0 44 "LendingDisk$Disk" "totals" "LLendingDisk$Row;", Cond.methodLink RX0 50 yX3_copyFrom, Cond.instanceMethod yX3_copyFrom, Cond.selects RX3 yX3_copyFrom yX3_copyFrom, Cond.initialized RX3, Cond.code yX3_copyFrom cX3_copyFrom 3 none, Cond.fieldLink RX3 13 "LendingDisk$Row" "cells" "[I"]
def wsX5_save_r2 : List Cond := [Cond.methodLink RX3 19 yX3_at, Cond.instanceMethod yX3_at, Cond.selects RX3 yX3_at yX3_at, Cond.code yX3_at cX3_at 2 (some .int), Cond.methodLink RX5 124 yX0_freeBlocks, Cond.instanceMethod yX0_freeBlocks, Cond.selects RX0 yX0_freeBlocks yX0_freeBlocks, Cond.code yX0_freeBlocks cX0_freeBlocks 3 (some .int), Cond.methodLink RX0 54 yX3_holds, Cond.instanceMethod yX3_holds, Cond.selects RX3 yX3_holds yX3_holds, Cond.code yX3_holds cX3_holds 3 (some .boolean)]
def wsX5_save : List Cond := .code yX5_save cX5_save 1 (some .int) :: ((wsX5_save_r1 ++ wsX5_save_r2) ++ wsX50 ++ wsX00 ++ wsX30)
def wsX5_restore_r1 : List Cond := [Cond.fieldLink RX5 22 "LendingDisk" "hasSnapshot" "Z", Cond.fieldLink RX5 29 "LendingDisk" "history" "LLendingDisk$History;", Cond.fieldLink RX5 10 "LendingDisk" "disk" "LLendingDisk$Disk;", Cond.fieldLink RX5 19 "LendingDisk" "snapshot" "LLendingDisk$Disk;", Cond.methodLink RX5 102 yX1_record, Cond.instanceMethod yX1_record, Cond.selects RX1 yX1_record yX1_record, Cond.initialized RX1, Cond.code yX1_record cX1_record 3 none, Cond.fieldLink RX1 21 "LendingDisk$History" "size" "I", Cond.fieldLink RX1 17 "LendingDisk$History" "oldest" "I", Cond.methodLink RX1 25 yX1_slotBehind, Cond.instanceMethod yX1_slotBehind, Cond.selects RX1 yX1_slotBehind yX1_slotBehind, Cond.code yX1_slotBehind cX1_slotBehind 3 (some (.object "LendingDisk$Disk")), Cond.fieldLink RX1 11 "LendingDisk$History" "slots" "[LLendingDisk$Disk;", Cond.methodLink RX1 29 yX0_copyFrom, Cond.instanceMethod yX0_copyFrom, Cond.selects RX0 yX0_copyFrom yX0_copyFrom, Cond.initialized RX0, Cond.code yX0_copyFrom cX0_copyFrom 2 none, Cond.fieldLink RX0 14 "LendingDisk$Disk" "stamps" "LLendingDisk$Row;", Cond.fieldLink RX0 20 "LendingDisk$Disk" "owners" "LLendingDisk$Row;", Cond.fieldLink RX0 23 "LendingDisk$Disk" "places" "LLendingDisk$Row;"]
def wsX5_restore_r2 : List Cond := [Cond.fieldLink RX0 26 "LendingDisk$Disk" "modes" "LLendingDisk$Row;", Cond.fieldLink RX0 29 "LendingDisk$Disk" "lengths" "LLendingDisk$Row;", Cond.fieldLink RX0 32 "LendingDisk$Disk" "sizes" "LLendingDisk$Row;", Cond.fieldLink RX0 35 "LendingDisk$Disk" "safeSizes" "LLendingDisk$Row;", Cond.fieldLink RX0 38 "LendingDisk$Disk" "lends" "LLendingDisk$Row;", Cond.fieldLink RX0 41 "LendingDisk$Disk" "settings" "LLendingDisk$Row;", Cond.fieldLink RX0 44 "LendingDisk$Disk" "totals" "LLendingDisk$Row;", Cond.methodLink RX0 50 yX3_copyFrom, Cond.instanceMethod yX3_copyFrom, Cond.selects RX3 yX3_copyFrom yX3_copyFrom, Cond.initialized RX3, Cond.code yX3_copyFrom cX3_copyFrom 3 none, Cond.fieldLink RX3 13 "LendingDisk$Row" "cells" "[I", Cond.methodLink RX3 19 yX3_at, Cond.instanceMethod yX3_at, Cond.selects RX3 yX3_at yX3_at, Cond.code yX3_at cX3_at 2 (some .int), Cond.methodLink RX5 47 yX0_copyFrom, Cond.methodLink RX5 124 yX0_freeBlocks, Cond.instanceMethod yX0_freeBlocks, Cond.selects RX0 yX0_freeBlocks yX0_freeBlocks, Cond.code yX0_freeBlocks cX0_freeBlocks 3 (some .int), Cond.methodLink RX0 54 yX3_holds, Cond.instanceMethod yX3_holds]
def wsX5_restore_r3 : List Cond := [Cond.selects RX3 yX3_holds yX3_holds, Cond.code yX3_holds cX3_holds 3 (some .boolean)]
def wsX5_restore : List Cond := .code yX5_restore cX5_restore 1 (some .int) :: ((wsX5_restore_r1 ++ (wsX5_restore_r2 ++ wsX5_restore_r3)) ++ wsX50 ++ wsX10 ++ wsX00 ++ wsX30)
def wsX5_block_r1 : List Cond := [Cond.fieldLink RX5 10 "LendingDisk" "disk" "LLendingDisk$Disk;", Cond.methodLink RX5 127 yX0_ownerOf, Cond.instanceMethod yX0_ownerOf, Cond.selects RX0 yX0_ownerOf yX0_ownerOf, Cond.initialized RX0, Cond.code yX0_ownerOf cX0_ownerOf 2 (some .int), Cond.fieldLink RX0 20 "LendingDisk$Disk" "owners" "LLendingDisk$Row;", Cond.methodLink RX0 72 yX3_at, Cond.instanceMethod yX3_at, Cond.selects RX3 yX3_at yX3_at, Cond.initialized RX3, Cond.code yX3_at cX3_at 2 (some .int), Cond.fieldLink RX3 13 "LendingDisk$Row" "cells" "[I", Cond.methodLink RX5 130 yX0_useOf, Cond.instanceMethod yX0_useOf, Cond.selects RX0 yX0_useOf yX0_useOf, Cond.code yX0_useOf cX0_useOf 2 (some .int), Cond.fieldLink RX0 23 "LendingDisk$Disk" "places" "LLendingDisk$Row;", Cond.fieldLink RX0 32 "LendingDisk$Disk" "sizes" "LLendingDisk$Row;", Cond.methodLink RX0 54 yX3_holds, Cond.instanceMethod yX3_holds, Cond.selects RX3 yX3_holds yX3_holds, Cond.code yX3_holds cX3_holds 3 (some .boolean), Cond.methodLink RX5 133 yX0_placeOf]
def wsX5_block_r2 : List Cond := [Cond.instanceMethod yX0_placeOf, Cond.selects RX0 yX0_placeOf yX0_placeOf, Cond.code yX0_placeOf cX0_placeOf 2 (some .int), Cond.methodLink RX5 136 yX0_stampOf, Cond.instanceMethod yX0_stampOf, Cond.selects RX0 yX0_stampOf yX0_stampOf, Cond.code yX0_stampOf cX0_stampOf 2 (some .int), Cond.fieldLink RX0 14 "LendingDisk$Disk" "stamps" "LLendingDisk$Row;"]
def wsX5_block : List Cond := .code yX5_block cX5_block 3 (some .int) :: ((wsX5_block_r1 ++ wsX5_block_r2) ++ wsX50 ++ wsX00 ++ wsX30)
def wsX5_file_r1 : List Cond := [Cond.fieldLink RX5 10 "LendingDisk" "disk" "LLendingDisk$Disk;", Cond.methodLink RX5 139 yX0_isFile, Cond.instanceMethod yX0_isFile, Cond.selects RX0 yX0_isFile yX0_isFile, Cond.initialized RX0, Cond.code yX0_isFile cX0_isFile 2 (some .boolean), Cond.fieldLink RX0 26 "LendingDisk$Disk" "modes" "LLendingDisk$Row;", Cond.methodLink RX0 54 yX3_holds, Cond.instanceMethod yX3_holds, Cond.selects RX3 yX3_holds yX3_holds, Cond.initialized RX3, Cond.code yX3_holds cX3_holds 3 (some .boolean), Cond.fieldLink RX3 13 "LendingDisk$Row" "cells" "[I", Cond.methodLink RX5 142 yX0_sizeOf, Cond.instanceMethod yX0_sizeOf, Cond.selects RX0 yX0_sizeOf yX0_sizeOf, Cond.code yX0_sizeOf cX0_sizeOf 2 (some .int), Cond.fieldLink RX0 32 "LendingDisk$Disk" "sizes" "LLendingDisk$Row;", Cond.methodLink RX0 72 yX3_at, Cond.instanceMethod yX3_at, Cond.selects RX3 yX3_at yX3_at, Cond.code yX3_at cX3_at 2 (some .int), Cond.methodLink RX5 145 yX0_lentOf, Cond.instanceMethod yX0_lentOf]
def wsX5_file_r2 : List Cond := [Cond.selects RX0 yX0_lentOf yX0_lentOf, Cond.code yX0_lentOf cX0_lentOf 2 (some .int), Cond.fieldLink RX0 29 "LendingDisk$Disk" "lengths" "LLendingDisk$Row;", Cond.methodLink RX5 148 yX0_safeSizeOf, Cond.instanceMethod yX0_safeSizeOf, Cond.selects RX0 yX0_safeSizeOf yX0_safeSizeOf, Cond.code yX0_safeSizeOf cX0_safeSizeOf 2 (some .int), Cond.fieldLink RX0 35 "LendingDisk$Disk" "safeSizes" "LLendingDisk$Row;", Cond.methodLink RX5 151 yX0_isOpen, Cond.instanceMethod yX0_isOpen, Cond.selects RX0 yX0_isOpen yX0_isOpen, Cond.code yX0_isOpen cX0_isOpen 2 (some .boolean), Cond.methodLink RX5 154 yX0_extentsOf, Cond.instanceMethod yX0_extentsOf, Cond.selects RX0 yX0_extentsOf yX0_extentsOf, Cond.code yX0_extentsOf cX0_extentsOf 4 (some .int), Cond.fieldLink RX0 20 "LendingDisk$Disk" "owners" "LLendingDisk$Row;", Cond.methodLink RX0 134 yX0_beginsExtent, Cond.instanceMethod yX0_beginsExtent, Cond.selects RX0 yX0_beginsExtent yX0_beginsExtent, Cond.code yX0_beginsExtent cX0_beginsExtent 2 (some .boolean), Cond.fieldLink RX0 23 "LendingDisk$Disk" "places" "LLendingDisk$Row;", Cond.methodLink RX5 157 yX0_lendOf, Cond.instanceMethod yX0_lendOf]
def wsX5_file_r3 : List Cond := [Cond.selects RX0 yX0_lendOf yX0_lendOf, Cond.code yX0_lendOf cX0_lendOf 2 (some .int), Cond.fieldLink RX0 38 "LendingDisk$Disk" "lends" "LLendingDisk$Row;"]
def wsX5_file : List Cond := .code yX5_file cX5_file 3 (some .int) :: ((wsX5_file_r1 ++ (wsX5_file_r2 ++ wsX5_file_r3)) ++ wsX50 ++ wsX00 ++ wsX30)
def wsX5_extent_r1 : List Cond := [Cond.fieldLink RX5 10 "LendingDisk" "disk" "LLendingDisk$Disk;", Cond.methodLink RX5 139 yX0_isFile, Cond.instanceMethod yX0_isFile, Cond.selects RX0 yX0_isFile yX0_isFile, Cond.initialized RX0, Cond.code yX0_isFile cX0_isFile 2 (some .boolean), Cond.fieldLink RX0 26 "LendingDisk$Disk" "modes" "LLendingDisk$Row;", Cond.methodLink RX0 54 yX3_holds, Cond.instanceMethod yX3_holds, Cond.selects RX3 yX3_holds yX3_holds, Cond.initialized RX3, Cond.code yX3_holds cX3_holds 3 (some .boolean), Cond.fieldLink RX3 13 "LendingDisk$Row" "cells" "[I", Cond.methodLink RX5 160 yX0_placeOfExtent, Cond.instanceMethod yX0_placeOfExtent, Cond.selects RX0 yX0_placeOfExtent yX0_placeOfExtent, Cond.code yX0_placeOfExtent cX0_placeOfExtent 5 (some .int), Cond.fieldLink RX0 29 "LendingDisk$Disk" "lengths" "LLendingDisk$Row;", Cond.methodLink RX0 72 yX3_at, Cond.instanceMethod yX3_at, Cond.selects RX3 yX3_at yX3_at, Cond.code yX3_at cX3_at 2 (some .int), Cond.methodLink RX0 113 yX0_blockAt, Cond.instanceMethod yX0_blockAt]
def wsX5_extent_r2 : List Cond := [Cond.selects RX0 yX0_blockAt yX0_blockAt, Cond.code yX0_blockAt cX0_blockAt 4 (some .int), Cond.fieldLink RX0 20 "LendingDisk$Disk" "owners" "LLendingDisk$Row;", Cond.fieldLink RX0 23 "LendingDisk$Disk" "places" "LLendingDisk$Row;", Cond.methodLink RX0 134 yX0_beginsExtent, Cond.instanceMethod yX0_beginsExtent, Cond.selects RX0 yX0_beginsExtent yX0_beginsExtent, Cond.code yX0_beginsExtent cX0_beginsExtent 2 (some .boolean), Cond.methodLink RX5 163 yX0_blockAt, Cond.methodLink RX5 166 yX0_extentFrom, Cond.instanceMethod yX0_extentFrom, Cond.selects RX0 yX0_extentFrom yX0_extentFrom, Cond.code yX0_extentFrom cX0_extentFrom 4 (some .int)]
def wsX5_extent : List Cond := .code yX5_extent cX5_extent 5 (some .int) :: ((wsX5_extent_r1 ++ wsX5_extent_r2) ++ wsX50 ++ wsX00 ++ wsX30)
def wsX5_run : List Cond := .code yX5_run cX5_run 4 (some .int) :: ([.fieldLink RX5 10 "LendingDisk" "disk" "LLendingDisk$Disk;", .methodLink RX5 169 yX0_firstOfRun, .instanceMethod yX0_firstOfRun, .selects RX0 yX0_firstOfRun yX0_firstOfRun, .initialized RX0, .code yX0_firstOfRun cX0_firstOfRun 4 (some .int), .methodLink RX0 123 yX0_runFrom, .instanceMethod yX0_runFrom, .selects RX0 yX0_runFrom yX0_runFrom, .code yX0_runFrom cX0_runFrom 3 (some .int), .fieldLink RX0 20 "LendingDisk$Disk" "owners" "LLendingDisk$Row;", .methodLink RX0 54 yX3_holds, .instanceMethod yX3_holds, .selects RX3 yX3_holds yX3_holds, .initialized RX3, .code yX3_holds cX3_holds 3 (some .boolean), .fieldLink RX3 13 "LendingDisk$Row" "cells" "[I", .methodLink RX5 172 yX0_runFrom] ++ wsX50 ++ wsX00 ++ wsX30)
def wsX5_read_r1 : List Cond := [Cond.fieldLink RX5 10 "LendingDisk" "disk" "LLendingDisk$Disk;", Cond.methodLink RX5 175 Lib.Math.min.name, Cond.static Lib.Math.min.name, Cond.initialized "java/lang/Math", Cond.code Lib.Math.min.name Lib.Math.min.code 2 (some .int), Cond.methodLink RX5 139 yX0_isFile, Cond.instanceMethod yX0_isFile, Cond.selects RX0 yX0_isFile yX0_isFile, Cond.initialized RX0, Cond.code yX0_isFile cX0_isFile 2 (some .boolean), Cond.fieldLink RX0 26 "LendingDisk$Disk" "modes" "LLendingDisk$Row;", Cond.methodLink RX0 54 yX3_holds, Cond.instanceMethod yX3_holds, Cond.selects RX3 yX3_holds yX3_holds, Cond.initialized RX3, Cond.code yX3_holds cX3_holds 3 (some .boolean), Cond.fieldLink RX3 13 "LendingDisk$Row" "cells" "[I", Cond.methodLink RX5 142 yX0_sizeOf, Cond.instanceMethod yX0_sizeOf, Cond.selects RX0 yX0_sizeOf yX0_sizeOf, Cond.code yX0_sizeOf cX0_sizeOf 2 (some .int), Cond.fieldLink RX0 32 "LendingDisk$Disk" "sizes" "LLendingDisk$Row;", Cond.methodLink RX0 72 yX3_at, Cond.instanceMethod yX3_at]
def wsX5_read_r2 : List Cond := [Cond.selects RX3 yX3_at yX3_at, Cond.code yX3_at cX3_at 2 (some .int), Cond.methodLink RX5 180 yX0_sumOfStamps, Cond.instanceMethod yX0_sumOfStamps, Cond.selects RX0 yX0_sumOfStamps yX0_sumOfStamps, Cond.code yX0_sumOfStamps cX0_sumOfStamps 6 (some .int), Cond.fieldLink RX0 14 "LendingDisk$Disk" "stamps" "LLendingDisk$Row;", Cond.methodLink RX0 130 yX0_isPart, Cond.instanceMethod yX0_isPart, Cond.selects RX0 yX0_isPart yX0_isPart, Cond.code yX0_isPart cX0_isPart 5 (some .boolean), Cond.fieldLink RX0 20 "LendingDisk$Disk" "owners" "LLendingDisk$Row;", Cond.fieldLink RX0 23 "LendingDisk$Disk" "places" "LLendingDisk$Row;"]
def wsX5_read : List Cond := .code yX5_read cX5_read 6 (some .int) :: ((wsX5_read_r1 ++ wsX5_read_r2) ++ wsX50 ++ wsX00 ++ wsX30)
def wsX5_count_r1 : List Cond := [Cond.fieldLink RX5 10 "LendingDisk" "disk" "LLendingDisk$Disk;", Cond.fieldLink RX5 29 "LendingDisk" "history" "LLendingDisk$History;", Cond.fieldLink RX5 36 "LendingDisk" "script" "LLendingDisk$Script;", Cond.methodLink RX5 183 yX0_filesThatAre, Cond.instanceMethod yX0_filesThatAre, Cond.selects RX0 yX0_filesThatAre yX0_filesThatAre, Cond.initialized RX0, Cond.code yX0_filesThatAre cX0_filesThatAre 4 (some .int), Cond.fieldLink RX0 26 "LendingDisk$Disk" "modes" "LLendingDisk$Row;", Cond.methodLink RX0 54 yX3_holds, Cond.instanceMethod yX3_holds, Cond.selects RX3 yX3_holds yX3_holds, Cond.initialized RX3, Cond.code yX3_holds cX3_holds 3 (some .boolean), Cond.fieldLink RX3 13 "LendingDisk$Row" "cells" "[I", Cond.methodLink RX5 124 yX0_freeBlocks, Cond.instanceMethod yX0_freeBlocks, Cond.selects RX0 yX0_freeBlocks yX0_freeBlocks, Cond.code yX0_freeBlocks cX0_freeBlocks 3 (some .int), Cond.fieldLink RX0 20 "LendingDisk$Disk" "owners" "LLendingDisk$Row;", Cond.methodLink RX5 186 yX0_dataBlocks, Cond.instanceMethod yX0_dataBlocks, Cond.selects RX0 yX0_dataBlocks yX0_dataBlocks, Cond.code yX0_dataBlocks cX0_dataBlocks 3 (some .int)]
def wsX5_count_r2 : List Cond := [Cond.fieldLink RX0 32 "LendingDisk$Disk" "sizes" "LLendingDisk$Row;", Cond.methodLink RX0 72 yX3_at, Cond.instanceMethod yX3_at, Cond.selects RX3 yX3_at yX3_at, Cond.code yX3_at cX3_at 2 (some .int), Cond.methodLink RX5 189 yX0_lentToFilesThatAre, Cond.instanceMethod yX0_lentToFilesThatAre, Cond.selects RX0 yX0_lentToFilesThatAre yX0_lentToFilesThatAre, Cond.code yX0_lentToFilesThatAre cX0_lentToFilesThatAre 4 (some .int), Cond.methodLink RX0 82 yX0_lentOf, Cond.instanceMethod yX0_lentOf, Cond.selects RX0 yX0_lentOf yX0_lentOf, Cond.code yX0_lentOf cX0_lentOf 2 (some .int), Cond.fieldLink RX0 29 "LendingDisk$Disk" "lengths" "LLendingDisk$Row;", Cond.methodLink RX5 192 yX0_freeRuns, Cond.instanceMethod yX0_freeRuns, Cond.selects RX0 yX0_freeRuns yX0_freeRuns, Cond.code yX0_freeRuns cX0_freeRuns 3 (some .int), Cond.methodLink RX0 123 yX0_runFrom, Cond.instanceMethod yX0_runFrom, Cond.selects RX0 yX0_runFrom yX0_runFrom, Cond.code yX0_runFrom cX0_runFrom 3 (some .int), Cond.methodLink RX5 195 yX0_longestRun, Cond.instanceMethod yX0_longestRun]
def wsX5_count_r3 : List Cond := [Cond.selects RX0 yX0_longestRun yX0_longestRun, Cond.code yX0_longestRun cX0_longestRun 3 (some .int), Cond.methodLink RX0 137 Lib.Math.max.name, Cond.static Lib.Math.max.name, Cond.initialized "java/lang/Math", Cond.code Lib.Math.max.name Lib.Math.max.code 2 (some .int), Cond.methodLink RX5 198 yX0_allExtents, Cond.instanceMethod yX0_allExtents, Cond.selects RX0 yX0_allExtents yX0_allExtents, Cond.code yX0_allExtents cX0_allExtents 3 (some .int), Cond.methodLink RX0 95 yX0_extentsOf, Cond.instanceMethod yX0_extentsOf, Cond.selects RX0 yX0_extentsOf yX0_extentsOf, Cond.code yX0_extentsOf cX0_extentsOf 4 (some .int), Cond.methodLink RX0 134 yX0_beginsExtent, Cond.instanceMethod yX0_beginsExtent, Cond.selects RX0 yX0_beginsExtent yX0_beginsExtent, Cond.code yX0_beginsExtent cX0_beginsExtent 2 (some .boolean), Cond.fieldLink RX0 23 "LendingDisk$Disk" "places" "LLendingDisk$Row;", Cond.methodLink RX5 121 yX1_size, Cond.instanceMethod yX1_size, Cond.selects RX1 yX1_size yX1_size, Cond.initialized RX1, Cond.code yX1_size cX1_size 1 (some .int)]
def wsX5_count_r4 : List Cond := [Cond.fieldLink RX1 21 "LendingDisk$History" "size" "I", Cond.methodLink RX5 92 yX4_length, Cond.instanceMethod yX4_length, Cond.selects RX4 yX4_length yX4_length, Cond.initialized RX4, Cond.code yX4_length cX4_length 1 (some .int), Cond.fieldLink RX4 20 "LendingDisk$Script" "length" "I"]
def wsX5_count : List Cond := .code yX5_count cX5_count 2 (some .int) :: ((wsX5_count_r1 ++ (wsX5_count_r2 ++ (wsX5_count_r3 ++ wsX5_count_r4))) ++ wsX50 ++ wsX00 ++ wsX30 ++ wsX10 ++ wsX40)
def wsX5_total : List Cond := .code yX5_total cX5_total 2 (some .int) :: ([.fieldLink RX5 10 "LendingDisk" "disk" "LLendingDisk$Disk;", .methodLink RX5 201 yX0_totalOf, .instanceMethod yX0_totalOf, .selects RX0 yX0_totalOf yX0_totalOf, .initialized RX0, .code yX0_totalOf cX0_totalOf 2 (some .int), .fieldLink RX0 44 "LendingDisk$Disk" "totals" "LLendingDisk$Row;", .methodLink RX0 72 yX3_at, .instanceMethod yX3_at, .selects RX3 yX3_at yX3_at, .initialized RX3, .code yX3_at cX3_at 2 (some .int), .fieldLink RX3 13 "LendingDisk$Row" "cells" "[I"] ++ wsX50 ++ wsX00 ++ wsX30)
def wsX5_ifAppended_r1 : List Cond := [Cond.fieldLink RX5 10 "LendingDisk" "disk" "LLendingDisk$Disk;", Cond.fieldLink RX5 16 "LendingDisk" "spare" "LLendingDisk$Disk;", Cond.methodLink RX5 139 yX0_isFile, Cond.instanceMethod yX0_isFile, Cond.selects RX0 yX0_isFile yX0_isFile, Cond.initialized RX0, Cond.code yX0_isFile cX0_isFile 2 (some .boolean), Cond.fieldLink RX0 26 "LendingDisk$Disk" "modes" "LLendingDisk$Row;", Cond.methodLink RX0 54 yX3_holds, Cond.instanceMethod yX3_holds, Cond.selects RX3 yX3_holds yX3_holds, Cond.initialized RX3, Cond.code yX3_holds cX3_holds 3 (some .boolean), Cond.fieldLink RX3 13 "LendingDisk$Row" "cells" "[I", Cond.methodLink RX5 47 yX0_copyFrom, Cond.instanceMethod yX0_copyFrom, Cond.selects RX0 yX0_copyFrom yX0_copyFrom, Cond.code yX0_copyFrom cX0_copyFrom 2 none, Cond.fieldLink RX0 14 "LendingDisk$Disk" "stamps" "LLendingDisk$Row;", Cond.fieldLink RX0 20 "LendingDisk$Disk" "owners" "LLendingDisk$Row;", Cond.fieldLink RX0 23 "LendingDisk$Disk" "places" "LLendingDisk$Row;", Cond.fieldLink RX0 29 "LendingDisk$Disk" "lengths" "LLendingDisk$Row;", Cond.fieldLink RX0 32 "LendingDisk$Disk" "sizes" "LLendingDisk$Row;", Cond.fieldLink RX0 35 "LendingDisk$Disk" "safeSizes" "LLendingDisk$Row;"]
def wsX5_ifAppended_r2 : List Cond := [Cond.fieldLink RX0 38 "LendingDisk$Disk" "lends" "LLendingDisk$Row;", Cond.fieldLink RX0 41 "LendingDisk$Disk" "settings" "LLendingDisk$Row;", Cond.fieldLink RX0 44 "LendingDisk$Disk" "totals" "LLendingDisk$Row;", Cond.methodLink RX0 50 yX3_copyFrom, Cond.instanceMethod yX3_copyFrom, Cond.selects RX3 yX3_copyFrom yX3_copyFrom, Cond.code yX3_copyFrom cX3_copyFrom 3 none, Cond.methodLink RX3 19 yX3_at, Cond.instanceMethod yX3_at, Cond.selects RX3 yX3_at yX3_at, Cond.code yX3_at cX3_at 2 (some .int), Cond.methodLink RX5 71 yX0_appendTo, Cond.instanceMethod yX0_appendTo, Cond.selects RX0 yX0_appendTo yX0_appendTo, Cond.code yX0_appendTo cX0_appendTo 5 (some .int), Cond.methodLink RX0 58 yX0_isFile, Cond.methodLink RX0 62 yX0_isOpen, Cond.instanceMethod yX0_isOpen, Cond.selects RX0 yX0_isOpen yX0_isOpen, Cond.code yX0_isOpen cX0_isOpen 2 (some .boolean), Cond.methodLink RX0 78 yX0_blocksWithoutData, Cond.instanceMethod yX0_blocksWithoutData, Cond.selects RX0 yX0_blocksWithoutData yX0_blocksWithoutData, Cond.code yX0_blocksWithoutData cX0_blocksWithoutData 1 (some .int)]
def wsX5_ifAppended_r3 : List Cond := [Cond.methodLink RX0 140 yX0_dataBlocks, Cond.instanceMethod yX0_dataBlocks, Cond.selects RX0 yX0_dataBlocks yX0_dataBlocks, Cond.code yX0_dataBlocks cX0_dataBlocks 3 (some .int), Cond.methodLink RX0 72 yX3_at, Cond.methodLink RX0 82 yX0_lentOf, Cond.instanceMethod yX0_lentOf, Cond.selects RX0 yX0_lentOf yX0_lentOf, Cond.code yX0_lentOf cX0_lentOf 2 (some .int), Cond.methodLink RX0 85 yX0_takeBack, Cond.instanceMethod yX0_takeBack, Cond.selects RX0 yX0_takeBack yX0_takeBack, Cond.code yX0_takeBack cX0_takeBack 5 none, Cond.methodLink RX0 107 yX0_freeBlocks, Cond.instanceMethod yX0_freeBlocks, Cond.selects RX0 yX0_freeBlocks yX0_freeBlocks, Cond.code yX0_freeBlocks cX0_freeBlocks 3 (some .int), Cond.methodLink RX0 110 yX0_greatestLender, Cond.instanceMethod yX0_greatestLender, Cond.selects RX0 yX0_greatestLender yX0_greatestLender, Cond.code yX0_greatestLender cX0_greatestLender 5 (some .int), Cond.methodLink RX0 69 yX0_giveBack, Cond.instanceMethod yX0_giveBack, Cond.selects RX0 yX0_giveBack yX0_giveBack]
def wsX5_ifAppended_r4 : List Cond := [Cond.code yX0_giveBack cX0_giveBack 3 (some .int), Cond.methodLink RX0 75 yX0_freeFrom, Cond.instanceMethod yX0_freeFrom, Cond.selects RX0 yX0_freeFrom yX0_freeFrom, Cond.code yX0_freeFrom cX0_freeFrom 4 none, Cond.methodLink RX0 47 yX3_put, Cond.instanceMethod yX3_put, Cond.selects RX3 yX3_put yX3_put, Cond.code yX3_put cX3_put 3 none, Cond.methodLink RX0 104 yX3_grow, Cond.instanceMethod yX3_grow, Cond.selects RX3 yX3_grow yX3_grow, Cond.code yX3_grow cX3_grow 3 none, Cond.methodLink RX0 88 yX0_lengthen, Cond.instanceMethod yX0_lengthen, Cond.selects RX0 yX0_lengthen yX0_lengthen, Cond.code yX0_lengthen cX0_lengthen 8 none, Cond.methodLink RX0 98 Lib.Math.min.name, Cond.static Lib.Math.min.name, Cond.initialized "java/lang/Math", Cond.code Lib.Math.min.name Lib.Math.min.code 2 (some .int), Cond.methodLink RX0 113 yX0_blockAt, Cond.instanceMethod yX0_blockAt, Cond.selects RX0 yX0_blockAt yX0_blockAt]
def wsX5_ifAppended_r5 : List Cond := [Cond.code yX0_blockAt cX0_blockAt 4 (some .int), Cond.methodLink RX0 116 yX0_addFrom, Cond.instanceMethod yX0_addFrom, Cond.selects RX0 yX0_addFrom yX0_addFrom, Cond.code yX0_addFrom cX0_addFrom 5 (some .int), Cond.methodLink RX0 120 yX0_chosenRun, Cond.instanceMethod yX0_chosenRun, Cond.selects RX0 yX0_chosenRun yX0_chosenRun, Cond.code yX0_chosenRun cX0_chosenRun 6 (some .int), Cond.methodLink RX0 123 yX0_runFrom, Cond.instanceMethod yX0_runFrom, Cond.selects RX0 yX0_runFrom yX0_runFrom, Cond.code yX0_runFrom cX0_runFrom 3 (some .int), Cond.methodLink RX0 126 yX0_isBetter, Cond.instanceMethod yX0_isBetter, Cond.selects RX0 yX0_isBetter yX0_isBetter, Cond.code yX0_isBetter cX0_isBetter 4 (some .boolean), Cond.methodLink RX0 91 yX0_write, Cond.instanceMethod yX0_write, Cond.selects RX0 yX0_write yX0_write, Cond.code yX0_write cX0_write 6 none, Cond.methodLink RX0 130 yX0_isPart, Cond.instanceMethod yX0_isPart, Cond.selects RX0 yX0_isPart yX0_isPart]
def wsX5_ifAppended_r6 : List Cond := [Cond.code yX0_isPart cX0_isPart 5 (some .boolean), Cond.methodLink RX0 95 yX0_extentsOf, Cond.instanceMethod yX0_extentsOf, Cond.selects RX0 yX0_extentsOf yX0_extentsOf, Cond.code yX0_extentsOf cX0_extentsOf 4 (some .int), Cond.methodLink RX0 134 yX0_beginsExtent, Cond.instanceMethod yX0_beginsExtent, Cond.selects RX0 yX0_beginsExtent yX0_beginsExtent, Cond.code yX0_beginsExtent cX0_beginsExtent 2 (some .boolean), Cond.methodLink RX5 145 yX0_lentOf, Cond.methodLink RX5 124 yX0_freeBlocks]
def wsX5_ifAppended : List Cond := .code yX5_ifAppended cX5_ifAppended 5 (some .int) :: ((wsX5_ifAppended_r1 ++ (wsX5_ifAppended_r2 ++ (wsX5_ifAppended_r3 ++ (wsX5_ifAppended_r4 ++ (wsX5_ifAppended_r5 ++ wsX5_ifAppended_r6))))) ++ wsX50 ++ wsX00 ++ wsX30)
def wsX5_room_r1 : List Cond := [Cond.fieldLink RX5 10 "LendingDisk" "disk" "LLendingDisk$Disk;", Cond.methodLink RX5 139 yX0_isFile, Cond.instanceMethod yX0_isFile, Cond.selects RX0 yX0_isFile yX0_isFile, Cond.initialized RX0, Cond.code yX0_isFile cX0_isFile 2 (some .boolean), Cond.fieldLink RX0 26 "LendingDisk$Disk" "modes" "LLendingDisk$Row;", Cond.methodLink RX0 54 yX3_holds, Cond.instanceMethod yX3_holds, Cond.selects RX3 yX3_holds yX3_holds, Cond.initialized RX3, Cond.code yX3_holds cX3_holds 3 (some .boolean), Cond.fieldLink RX3 13 "LendingDisk$Row" "cells" "[I", Cond.methodLink RX5 151 yX0_isOpen, Cond.instanceMethod yX0_isOpen, Cond.selects RX0 yX0_isOpen yX0_isOpen, Cond.code yX0_isOpen cX0_isOpen 2 (some .boolean), Cond.methodLink RX5 204 yX0_blocksWithoutData, Cond.instanceMethod yX0_blocksWithoutData, Cond.selects RX0 yX0_blocksWithoutData yX0_blocksWithoutData, Cond.code yX0_blocksWithoutData cX0_blocksWithoutData 1 (some .int), Cond.methodLink RX0 140 yX0_dataBlocks, Cond.instanceMethod yX0_dataBlocks, Cond.selects RX0 yX0_dataBlocks yX0_dataBlocks]
def wsX5_room_r2 : List Cond := [Cond.code yX0_dataBlocks cX0_dataBlocks 3 (some .int), Cond.fieldLink RX0 32 "LendingDisk$Disk" "sizes" "LLendingDisk$Row;", Cond.methodLink RX0 72 yX3_at, Cond.instanceMethod yX3_at, Cond.selects RX3 yX3_at yX3_at, Cond.code yX3_at cX3_at 2 (some .int)]
def wsX5_room : List Cond := .code yX5_room cX5_room 2 (some .int) :: ((wsX5_room_r1 ++ wsX5_room_r2) ++ wsX50 ++ wsX00 ++ wsX30)
def wsX5_wholeness_r1 : List Cond := [Cond.fieldLink RX5 10 "LendingDisk" "disk" "LLendingDisk$Disk;", Cond.methodLink RX5 198 yX0_allExtents, Cond.instanceMethod yX0_allExtents, Cond.selects RX0 yX0_allExtents yX0_allExtents, Cond.initialized RX0, Cond.code yX0_allExtents cX0_allExtents 3 (some .int), Cond.methodLink RX0 95 yX0_extentsOf, Cond.instanceMethod yX0_extentsOf, Cond.selects RX0 yX0_extentsOf yX0_extentsOf, Cond.code yX0_extentsOf cX0_extentsOf 4 (some .int), Cond.fieldLink RX0 20 "LendingDisk$Disk" "owners" "LLendingDisk$Row;", Cond.methodLink RX0 54 yX3_holds, Cond.instanceMethod yX3_holds, Cond.selects RX3 yX3_holds yX3_holds, Cond.initialized RX3, Cond.code yX3_holds cX3_holds 3 (some .boolean), Cond.fieldLink RX3 13 "LendingDisk$Row" "cells" "[I", Cond.methodLink RX0 134 yX0_beginsExtent, Cond.instanceMethod yX0_beginsExtent, Cond.selects RX0 yX0_beginsExtent yX0_beginsExtent, Cond.code yX0_beginsExtent cX0_beginsExtent 2 (some .boolean), Cond.fieldLink RX0 23 "LendingDisk$Disk" "places" "LLendingDisk$Row;", Cond.methodLink RX0 72 yX3_at, Cond.instanceMethod yX3_at]
def wsX5_wholeness_r2 : List Cond := [Cond.selects RX3 yX3_at yX3_at, Cond.code yX3_at cX3_at 2 (some .int), Cond.methodLink RX5 207 yX0_filesWithBlocks, Cond.instanceMethod yX0_filesWithBlocks, Cond.selects RX0 yX0_filesWithBlocks yX0_filesWithBlocks, Cond.code yX0_filesWithBlocks cX0_filesWithBlocks 3 (some .int), Cond.fieldLink RX0 29 "LendingDisk$Disk" "lengths" "LLendingDisk$Row;"]
def wsX5_wholeness : List Cond := .code yX5_wholeness cX5_wholeness 2 (some .double) :: ((wsX5_wholeness_r1 ++ wsX5_wholeness_r2) ++ wsX50 ++ wsX00 ++ wsX30)
def wsX6_init : List Cond := .code yX6_init cX6_init 2 none :: ([.methodLink RX6 1 objectInit, .instanceMethod objectInit, .code objectInit ⟨#[0xb1]⟩ 1 none, .arrayClass .int, .fieldLink RX6 7 "LendingDiskModel" "s" "[I", .fieldLink RX6 13 "LendingDiskModel" "text" "[I"] ++ wsX60)
def wsX6_in : List Cond := .code yX6_in cX6_in 3 (some .boolean) :: ([])
def wsX6_flag : List Cond := .code yX6_flag cX6_flag 1 (some .int) :: ([])
def wsX6_copies : List Cond := .code yX6_copies cX6_copies 4 none :: ([.fieldLink RX6 7 "LendingDiskModel" "s" "[I"] ++ wsX60)
def wsX6_records : List Cond := .code yX6_records cX6_records 2 none :: ([.fieldLink RX6 16 "LendingDiskModel" "states" "I", .methodLink RX6 20 yX6_copies, .instanceMethod yX6_copies, .selects RX6 yX6_copies yX6_copies, .initialized RX6, .code yX6_copies cX6_copies 4 none, .fieldLink RX6 7 "LendingDiskModel" "s" "[I"] ++ wsX60)
def wsX6_at : List Cond := .code yX6_at cX6_at 2 (some .int) :: ([])
def wsX6_isThere : List Cond := .code yX6_isThere cX6_isThere 2 (some .boolean) :: ([.fieldLink RX6 7 "LendingDiskModel" "s" "[I", .methodLink RX6 24 yX6_in, .static yX6_in, .initialized RX6, .code yX6_in cX6_in 3 (some .boolean), .methodLink RX6 28 yX6_at, .static yX6_at, .code yX6_at cX6_at 2 (some .int)] ++ wsX60)
def wsX6_isOpen : List Cond := .code yX6_isOpen cX6_isOpen 2 (some .boolean) :: ([.fieldLink RX6 7 "LendingDiskModel" "s" "[I", .methodLink RX6 28 yX6_at, .static yX6_at, .initialized RX6, .code yX6_at cX6_at 2 (some .int)] ++ wsX60)
def wsX6_lent : List Cond := .code yX6_lent cX6_lent 4 (some .int) :: ([.fieldLink RX6 7 "LendingDiskModel" "s" "[I", .methodLink RX6 28 yX6_at, .static yX6_at, .initialized RX6, .code yX6_at cX6_at 2 (some .int)] ++ wsX60)
def wsX6_isFree : List Cond := .code yX6_isFree cX6_isFree 3 (some .boolean) :: ([.fieldLink RX6 7 "LendingDiskModel" "s" "[I"] ++ wsX60)
def wsX6_free : List Cond := .code yX6_free cX6_free 4 (some .int) :: ([.methodLink RX6 32 yX6_isFree, .instanceMethod yX6_isFree, .selects RX6 yX6_isFree yX6_isFree, .initialized RX6, .code yX6_isFree cX6_isFree 3 (some .boolean), .fieldLink RX6 7 "LendingDiskModel" "s" "[I", .methodLink RX6 36 yX6_flag, .static yX6_flag, .code yX6_flag cX6_flag 1 (some .int)] ++ wsX60)
def wsX6_blockOf : List Cond := .code yX6_blockOf cX6_blockOf 6 (some .int) :: ([.fieldLink RX6 7 "LendingDiskModel" "s" "[I"] ++ wsX60)
def wsX6_extents : List Cond := .code yX6_extents cX6_extents 7 (some .int) :: ([.fieldLink RX6 7 "LendingDiskModel" "s" "[I", .methodLink RX6 28 yX6_at, .static yX6_at, .initialized RX6, .code yX6_at cX6_at 2 (some .int), .methodLink RX6 40 yX6_blockOf, .instanceMethod yX6_blockOf, .selects RX6 yX6_blockOf yX6_blockOf, .code yX6_blockOf cX6_blockOf 6 (some .int), .methodLink RX6 36 yX6_flag, .static yX6_flag, .code yX6_flag cX6_flag 1 (some .int)] ++ wsX60)
def wsX6_frees : List Cond := .code yX6_frees cX6_frees 6 (some .int) :: ([.fieldLink RX6 7 "LendingDiskModel" "s" "[I", .methodLink RX6 28 yX6_at, .static yX6_at, .initialized RX6, .code yX6_at cX6_at 2 (some .int)] ++ wsX60)
def wsX6_givesBack : List Cond := .code yX6_givesBack cX6_givesBack 4 (some .int) :: ([.fieldLink RX6 7 "LendingDiskModel" "s" "[I", .methodLink RX6 28 yX6_at, .static yX6_at, .initialized RX6, .code yX6_at cX6_at 2 (some .int), .methodLink RX6 44 yX6_frees, .instanceMethod yX6_frees, .selects RX6 yX6_frees yX6_frees, .code yX6_frees cX6_frees 6 (some .int)] ++ wsX60)
def wsX6_sumOfLent : List Cond := .code yX6_sumOfLent cX6_sumOfLent 4 (some .int) :: ([.methodLink RX6 47 yX6_lent, .instanceMethod yX6_lent, .selects RX6 yX6_lent yX6_lent, .initialized RX6, .code yX6_lent cX6_lent 4 (some .int), .fieldLink RX6 7 "LendingDiskModel" "s" "[I", .methodLink RX6 28 yX6_at, .static yX6_at, .code yX6_at cX6_at 2 (some .int)] ++ wsX60)
def wsX6_giver : List Cond := .code yX6_giver cX6_giver 7 (some .int) :: ([.methodLink RX6 47 yX6_lent, .instanceMethod yX6_lent, .selects RX6 yX6_lent yX6_lent, .initialized RX6, .code yX6_lent cX6_lent 4 (some .int), .fieldLink RX6 7 "LendingDiskModel" "s" "[I", .methodLink RX6 28 yX6_at, .static yX6_at, .code yX6_at cX6_at 2 (some .int)] ++ wsX60)
def wsX6_runLength : List Cond := .code yX6_runLength cX6_runLength 4 (some .int) :: ([.methodLink RX6 32 yX6_isFree, .instanceMethod yX6_isFree, .selects RX6 yX6_isFree yX6_isFree, .initialized RX6, .code yX6_isFree cX6_isFree 3 (some .boolean), .fieldLink RX6 7 "LendingDiskModel" "s" "[I"] ++ wsX60)
def wsX6_isRunStart : List Cond := .code yX6_isRunStart cX6_isRunStart 3 (some .boolean) :: ([.methodLink RX6 32 yX6_isFree, .instanceMethod yX6_isFree, .selects RX6 yX6_isFree yX6_isFree, .initialized RX6, .code yX6_isFree cX6_isFree 3 (some .boolean), .fieldLink RX6 7 "LendingDiskModel" "s" "[I"] ++ wsX60)
def wsX6_chooses : List Cond := .code yX6_chooses cX6_chooses 8 (some .int) :: ([.fieldLink RX6 7 "LendingDiskModel" "s" "[I", .methodLink RX6 50 yX6_isRunStart, .instanceMethod yX6_isRunStart, .selects RX6 yX6_isRunStart yX6_isRunStart, .initialized RX6, .code yX6_isRunStart cX6_isRunStart 3 (some .boolean), .methodLink RX6 32 yX6_isFree, .instanceMethod yX6_isFree, .selects RX6 yX6_isFree yX6_isFree, .code yX6_isFree cX6_isFree 3 (some .boolean), .methodLink RX6 53 yX6_runLength, .instanceMethod yX6_runLength, .selects RX6 yX6_runLength yX6_runLength, .code yX6_runLength cX6_runLength 4 (some .int)] ++ wsX60)
def wsX6_adds : List Cond := .code yX6_adds cX6_adds 6 (some .int) :: ([.fieldLink RX6 7 "LendingDiskModel" "s" "[I", .methodLink RX6 32 yX6_isFree, .instanceMethod yX6_isFree, .selects RX6 yX6_isFree yX6_isFree, .initialized RX6, .code yX6_isFree cX6_isFree 3 (some .boolean), .methodLink RX6 28 yX6_at, .static yX6_at, .code yX6_at cX6_at 2 (some .int)] ++ wsX60)
def wsX6_grows_r1 : List Cond := [Cond.fieldLink RX6 7 "LendingDiskModel" "s" "[I", Cond.methodLink RX6 28 yX6_at, Cond.static yX6_at, Cond.initialized RX6, Cond.code yX6_at cX6_at 2 (some .int), Cond.methodLink RX6 56 yX6_free, Cond.instanceMethod yX6_free, Cond.selects RX6 yX6_free yX6_free, Cond.code yX6_free cX6_free 4 (some .int), Cond.methodLink RX6 32 yX6_isFree, Cond.instanceMethod yX6_isFree, Cond.selects RX6 yX6_isFree yX6_isFree, Cond.code yX6_isFree cX6_isFree 3 (some .boolean), Cond.methodLink RX6 36 yX6_flag, Cond.static yX6_flag, Cond.code yX6_flag cX6_flag 1 (some .int), Cond.methodLink RX6 60 yX6_giver, Cond.instanceMethod yX6_giver, Cond.selects RX6 yX6_giver yX6_giver, Cond.code yX6_giver cX6_giver 7 (some .int), Cond.methodLink RX6 47 yX6_lent, Cond.instanceMethod yX6_lent, Cond.selects RX6 yX6_lent yX6_lent, Cond.code yX6_lent cX6_lent 4 (some .int)]
def wsX6_grows_r2 : List Cond := [Cond.methodLink RX6 63 yX6_givesBack, Cond.instanceMethod yX6_givesBack, Cond.selects RX6 yX6_givesBack yX6_givesBack, Cond.code yX6_givesBack cX6_givesBack 4 (some .int), Cond.methodLink RX6 44 yX6_frees, Cond.instanceMethod yX6_frees, Cond.selects RX6 yX6_frees yX6_frees, Cond.code yX6_frees cX6_frees 6 (some .int), Cond.methodLink RX6 40 yX6_blockOf, Cond.instanceMethod yX6_blockOf, Cond.selects RX6 yX6_blockOf yX6_blockOf, Cond.code yX6_blockOf cX6_blockOf 6 (some .int), Cond.methodLink RX6 66 yX6_adds, Cond.instanceMethod yX6_adds, Cond.selects RX6 yX6_adds yX6_adds, Cond.code yX6_adds cX6_adds 6 (some .int), Cond.methodLink RX6 70 yX6_chooses, Cond.instanceMethod yX6_chooses, Cond.selects RX6 yX6_chooses yX6_chooses, Cond.code yX6_chooses cX6_chooses 8 (some .int), Cond.methodLink RX6 50 yX6_isRunStart, Cond.instanceMethod yX6_isRunStart, Cond.selects RX6 yX6_isRunStart yX6_isRunStart, Cond.code yX6_isRunStart cX6_isRunStart 3 (some .boolean)]
def wsX6_grows_r3 : List Cond := [Cond.methodLink RX6 53 yX6_runLength, Cond.instanceMethod yX6_runLength, Cond.selects RX6 yX6_runLength yX6_runLength, Cond.code yX6_runLength cX6_runLength 4 (some .int)]
def wsX6_grows : List Cond := .code yX6_grows cX6_grows 8 none :: ((wsX6_grows_r1 ++ (wsX6_grows_r2 ++ wsX6_grows_r3)) ++ wsX60)
def wsX6_canAppend : List Cond := .code yX6_canAppend cX6_canAppend 3 (some .boolean) :: ([.methodLink RX6 73 yX6_sumOfLent, .instanceMethod yX6_sumOfLent, .selects RX6 yX6_sumOfLent yX6_sumOfLent, .initialized RX6, .code yX6_sumOfLent cX6_sumOfLent 4 (some .int), .methodLink RX6 47 yX6_lent, .instanceMethod yX6_lent, .selects RX6 yX6_lent yX6_lent, .code yX6_lent cX6_lent 4 (some .int), .fieldLink RX6 7 "LendingDiskModel" "s" "[I", .methodLink RX6 28 yX6_at, .static yX6_at, .code yX6_at cX6_at 2 (some .int), .methodLink RX6 56 yX6_free, .instanceMethod yX6_free, .selects RX6 yX6_free yX6_free, .code yX6_free cX6_free 4 (some .int), .methodLink RX6 32 yX6_isFree, .instanceMethod yX6_isFree, .selects RX6 yX6_isFree yX6_isFree, .code yX6_isFree cX6_isFree 3 (some .boolean), .methodLink RX6 36 yX6_flag, .static yX6_flag, .code yX6_flag cX6_flag 1 (some .int)] ++ wsX60)
def wsX6_appends_r1 : List Cond := [Cond.fieldLink RX6 7 "LendingDiskModel" "s" "[I", Cond.methodLink RX6 28 yX6_at, Cond.static yX6_at, Cond.initialized RX6, Cond.code yX6_at cX6_at 2 (some .int), Cond.methodLink RX6 47 yX6_lent, Cond.instanceMethod yX6_lent, Cond.selects RX6 yX6_lent yX6_lent, Cond.code yX6_lent cX6_lent 4 (some .int), Cond.methodLink RX6 76 yX6_grows, Cond.instanceMethod yX6_grows, Cond.selects RX6 yX6_grows yX6_grows, Cond.code yX6_grows cX6_grows 8 none, Cond.methodLink RX6 56 yX6_free, Cond.instanceMethod yX6_free, Cond.selects RX6 yX6_free yX6_free, Cond.code yX6_free cX6_free 4 (some .int), Cond.methodLink RX6 32 yX6_isFree, Cond.instanceMethod yX6_isFree, Cond.selects RX6 yX6_isFree yX6_isFree, Cond.code yX6_isFree cX6_isFree 3 (some .boolean), Cond.methodLink RX6 36 yX6_flag, Cond.static yX6_flag, Cond.code yX6_flag cX6_flag 1 (some .int)]
def wsX6_appends_r2 : List Cond := [Cond.methodLink RX6 60 yX6_giver, Cond.instanceMethod yX6_giver, Cond.selects RX6 yX6_giver yX6_giver, Cond.code yX6_giver cX6_giver 7 (some .int), Cond.methodLink RX6 63 yX6_givesBack, Cond.instanceMethod yX6_givesBack, Cond.selects RX6 yX6_givesBack yX6_givesBack, Cond.code yX6_givesBack cX6_givesBack 4 (some .int), Cond.methodLink RX6 44 yX6_frees, Cond.instanceMethod yX6_frees, Cond.selects RX6 yX6_frees yX6_frees, Cond.code yX6_frees cX6_frees 6 (some .int), Cond.methodLink RX6 40 yX6_blockOf, Cond.instanceMethod yX6_blockOf, Cond.selects RX6 yX6_blockOf yX6_blockOf, Cond.code yX6_blockOf cX6_blockOf 6 (some .int), Cond.methodLink RX6 66 yX6_adds, Cond.instanceMethod yX6_adds, Cond.selects RX6 yX6_adds yX6_adds, Cond.code yX6_adds cX6_adds 6 (some .int), Cond.methodLink RX6 70 yX6_chooses, Cond.instanceMethod yX6_chooses, Cond.selects RX6 yX6_chooses yX6_chooses, Cond.code yX6_chooses cX6_chooses 8 (some .int)]
def wsX6_appends_r3 : List Cond := [Cond.methodLink RX6 50 yX6_isRunStart, Cond.instanceMethod yX6_isRunStart, Cond.selects RX6 yX6_isRunStart yX6_isRunStart, Cond.code yX6_isRunStart cX6_isRunStart 3 (some .boolean), Cond.methodLink RX6 53 yX6_runLength, Cond.instanceMethod yX6_runLength, Cond.selects RX6 yX6_runLength yX6_runLength, Cond.code yX6_runLength cX6_runLength 4 (some .int), Cond.methodLink RX6 80 yX6_extents, Cond.instanceMethod yX6_extents, Cond.selects RX6 yX6_extents yX6_extents, Cond.code yX6_extents cX6_extents 7 (some .int)]
def wsX6_appends : List Cond := .code yX6_appends cX6_appends 7 (some .int) :: ((wsX6_appends_r1 ++ (wsX6_appends_r2 ++ wsX6_appends_r3)) ++ wsX60)
def wsX6_openError : List Cond := .code yX6_openError cX6_openError 2 (some .int) :: ([.methodLink RX6 83 yX6_isThere, .instanceMethod yX6_isThere, .selects RX6 yX6_isThere yX6_isThere, .initialized RX6, .code yX6_isThere cX6_isThere 2 (some .boolean), .fieldLink RX6 7 "LendingDiskModel" "s" "[I", .methodLink RX6 24 yX6_in, .static yX6_in, .code yX6_in cX6_in 3 (some .boolean), .methodLink RX6 28 yX6_at, .static yX6_at, .code yX6_at cX6_at 2 (some .int), .methodLink RX6 87 yX6_isOpen, .instanceMethod yX6_isOpen, .selects RX6 yX6_isOpen yX6_isOpen, .code yX6_isOpen cX6_isOpen 2 (some .boolean)] ++ wsX60)
def wsX6_closeError : List Cond := .code yX6_closeError cX6_closeError 2 (some .int) :: ([.methodLink RX6 83 yX6_isThere, .instanceMethod yX6_isThere, .selects RX6 yX6_isThere yX6_isThere, .initialized RX6, .code yX6_isThere cX6_isThere 2 (some .boolean), .fieldLink RX6 7 "LendingDiskModel" "s" "[I", .methodLink RX6 24 yX6_in, .static yX6_in, .code yX6_in cX6_in 3 (some .boolean), .methodLink RX6 28 yX6_at, .static yX6_at, .code yX6_at cX6_at 2 (some .int), .methodLink RX6 87 yX6_isOpen, .instanceMethod yX6_isOpen, .selects RX6 yX6_isOpen yX6_isOpen, .code yX6_isOpen cX6_isOpen 2 (some .boolean)] ++ wsX60)
def wsX6_appendError_r1 : List Cond := [Cond.methodLink RX6 83 yX6_isThere, Cond.instanceMethod yX6_isThere, Cond.selects RX6 yX6_isThere yX6_isThere, Cond.initialized RX6, Cond.code yX6_isThere cX6_isThere 2 (some .boolean), Cond.fieldLink RX6 7 "LendingDiskModel" "s" "[I", Cond.methodLink RX6 24 yX6_in, Cond.static yX6_in, Cond.code yX6_in cX6_in 3 (some .boolean), Cond.methodLink RX6 28 yX6_at, Cond.static yX6_at, Cond.code yX6_at cX6_at 2 (some .int), Cond.methodLink RX6 87 yX6_isOpen, Cond.instanceMethod yX6_isOpen, Cond.selects RX6 yX6_isOpen yX6_isOpen, Cond.code yX6_isOpen cX6_isOpen 2 (some .boolean), Cond.methodLink RX6 90 yX6_canAppend, Cond.instanceMethod yX6_canAppend, Cond.selects RX6 yX6_canAppend yX6_canAppend, Cond.code yX6_canAppend cX6_canAppend 3 (some .boolean), Cond.methodLink RX6 73 yX6_sumOfLent, Cond.instanceMethod yX6_sumOfLent, Cond.selects RX6 yX6_sumOfLent yX6_sumOfLent, Cond.code yX6_sumOfLent cX6_sumOfLent 4 (some .int)]
def wsX6_appendError_r2 : List Cond := [Cond.methodLink RX6 47 yX6_lent, Cond.instanceMethod yX6_lent, Cond.selects RX6 yX6_lent yX6_lent, Cond.code yX6_lent cX6_lent 4 (some .int), Cond.methodLink RX6 56 yX6_free, Cond.instanceMethod yX6_free, Cond.selects RX6 yX6_free yX6_free, Cond.code yX6_free cX6_free 4 (some .int), Cond.methodLink RX6 32 yX6_isFree, Cond.instanceMethod yX6_isFree, Cond.selects RX6 yX6_isFree yX6_isFree, Cond.code yX6_isFree cX6_isFree 3 (some .boolean), Cond.methodLink RX6 36 yX6_flag, Cond.static yX6_flag, Cond.code yX6_flag cX6_flag 1 (some .int)]
def wsX6_appendError : List Cond := .code yX6_appendError cX6_appendError 4 (some .int) :: ((wsX6_appendError_r1 ++ wsX6_appendError_r2) ++ wsX60)
def wsX6_cutError : List Cond := .code yX6_cutError cX6_cutError 3 (some .int) :: ([.fieldLink RX6 7 "LendingDiskModel" "s" "[I", .methodLink RX6 83 yX6_isThere, .instanceMethod yX6_isThere, .selects RX6 yX6_isThere yX6_isThere, .initialized RX6, .code yX6_isThere cX6_isThere 2 (some .boolean), .methodLink RX6 24 yX6_in, .static yX6_in, .code yX6_in cX6_in 3 (some .boolean), .methodLink RX6 28 yX6_at, .static yX6_at, .code yX6_at cX6_at 2 (some .int), .methodLink RX6 87 yX6_isOpen, .instanceMethod yX6_isOpen, .selects RX6 yX6_isOpen yX6_isOpen, .code yX6_isOpen cX6_isOpen 2 (some .boolean)] ++ wsX60)
def wsX6_many : List Cond := .code yX6_many cX6_many 3 (some .int) :: ([.fieldLink RX6 7 "LendingDiskModel" "s" "[I", .methodLink RX6 28 yX6_at, .static yX6_at, .initialized RX6, .code yX6_at cX6_at 2 (some .int)] ++ wsX60)
def wsX6_createError : List Cond := .code yX6_createError cX6_createError 1 (some .int) :: ([.methodLink RX6 93 yX6_many, .instanceMethod yX6_many, .selects RX6 yX6_many yX6_many, .initialized RX6, .code yX6_many cX6_many 3 (some .int), .fieldLink RX6 7 "LendingDiskModel" "s" "[I", .methodLink RX6 28 yX6_at, .static yX6_at, .code yX6_at cX6_at 2 (some .int)] ++ wsX60)
def wsX6_opened : List Cond := .code yX6_opened cX6_opened 3 (some .int) :: ([.methodLink RX6 83 yX6_isThere, .instanceMethod yX6_isThere, .selects RX6 yX6_isThere yX6_isThere, .initialized RX6, .code yX6_isThere cX6_isThere 2 (some .boolean), .fieldLink RX6 7 "LendingDiskModel" "s" "[I", .methodLink RX6 24 yX6_in, .static yX6_in, .code yX6_in cX6_in 3 (some .boolean), .methodLink RX6 28 yX6_at, .static yX6_at, .code yX6_at cX6_at 2 (some .int), .methodLink RX6 87 yX6_isOpen, .instanceMethod yX6_isOpen, .selects RX6 yX6_isOpen yX6_isOpen, .code yX6_isOpen cX6_isOpen 2 (some .boolean), .methodLink RX6 36 yX6_flag, .static yX6_flag, .code yX6_flag cX6_flag 1 (some .int)] ++ wsX60)
def wsX6_creates : List Cond := .code yX6_creates cX6_creates 3 (some .int) :: ([.fieldLink RX6 7 "LendingDiskModel" "s" "[I", .methodLink RX6 83 yX6_isThere, .instanceMethod yX6_isThere, .selects RX6 yX6_isThere yX6_isThere, .initialized RX6, .code yX6_isThere cX6_isThere 2 (some .boolean), .methodLink RX6 24 yX6_in, .static yX6_in, .code yX6_in cX6_in 3 (some .boolean), .methodLink RX6 28 yX6_at, .static yX6_at, .code yX6_at cX6_at 2 (some .int)] ++ wsX60)
def wsX6_opens : List Cond := .code yX6_opens cX6_opens 2 (some .int) :: ([.fieldLink RX6 7 "LendingDiskModel" "s" "[I", .methodLink RX6 28 yX6_at, .static yX6_at, .initialized RX6, .code yX6_at cX6_at 2 (some .int), .methodLink RX6 97 yX6_opened, .instanceMethod yX6_opened, .selects RX6 yX6_opened yX6_opened, .code yX6_opened cX6_opened 3 (some .int), .methodLink RX6 83 yX6_isThere, .instanceMethod yX6_isThere, .selects RX6 yX6_isThere yX6_isThere, .code yX6_isThere cX6_isThere 2 (some .boolean), .methodLink RX6 24 yX6_in, .static yX6_in, .code yX6_in cX6_in 3 (some .boolean), .methodLink RX6 87 yX6_isOpen, .instanceMethod yX6_isOpen, .selects RX6 yX6_isOpen yX6_isOpen, .code yX6_isOpen cX6_isOpen 2 (some .boolean), .methodLink RX6 36 yX6_flag, .static yX6_flag, .code yX6_flag cX6_flag 1 (some .int)] ++ wsX60)
def wsX6_closes : List Cond := .code yX6_closes cX6_closes 3 (some .int) :: ([.fieldLink RX6 7 "LendingDiskModel" "s" "[I", .methodLink RX6 63 yX6_givesBack, .instanceMethod yX6_givesBack, .selects RX6 yX6_givesBack yX6_givesBack, .initialized RX6, .code yX6_givesBack cX6_givesBack 4 (some .int), .methodLink RX6 28 yX6_at, .static yX6_at, .code yX6_at cX6_at 2 (some .int), .methodLink RX6 44 yX6_frees, .instanceMethod yX6_frees, .selects RX6 yX6_frees yX6_frees, .code yX6_frees cX6_frees 6 (some .int)] ++ wsX60)
def wsX6_removes : List Cond := .code yX6_removes cX6_removes 3 (some .int) :: ([.fieldLink RX6 7 "LendingDiskModel" "s" "[I", .methodLink RX6 44 yX6_frees, .instanceMethod yX6_frees, .selects RX6 yX6_frees yX6_frees, .initialized RX6, .code yX6_frees cX6_frees 6 (some .int), .methodLink RX6 28 yX6_at, .static yX6_at, .code yX6_at cX6_at 2 (some .int)] ++ wsX60)
def wsX6_syncs : List Cond := .code yX6_syncs cX6_syncs 4 (some .int) :: ([.fieldLink RX6 7 "LendingDiskModel" "s" "[I", .methodLink RX6 28 yX6_at, .static yX6_at, .initialized RX6, .code yX6_at cX6_at 2 (some .int)] ++ wsX60)
def wsX6_cuts : List Cond := .code yX6_cuts cX6_cuts 5 (some .int) :: ([.fieldLink RX6 7 "LendingDiskModel" "s" "[I", .methodLink RX6 28 yX6_at, .static yX6_at, .initialized RX6, .code yX6_at cX6_at 2 (some .int), .methodLink RX6 63 yX6_givesBack, .instanceMethod yX6_givesBack, .selects RX6 yX6_givesBack yX6_givesBack, .code yX6_givesBack cX6_givesBack 4 (some .int), .methodLink RX6 44 yX6_frees, .instanceMethod yX6_frees, .selects RX6 yX6_frees yX6_frees, .code yX6_frees cX6_frees 6 (some .int)] ++ wsX60)
def wsX6_crashes : List Cond := .code yX6_crashes cX6_crashes 4 (some .int) :: ([.fieldLink RX6 7 "LendingDiskModel" "s" "[I", .methodLink RX6 28 yX6_at, .static yX6_at, .initialized RX6, .code yX6_at cX6_at 2 (some .int), .methodLink RX6 83 yX6_isThere, .instanceMethod yX6_isThere, .selects RX6 yX6_isThere yX6_isThere, .code yX6_isThere cX6_isThere 2 (some .boolean), .methodLink RX6 24 yX6_in, .static yX6_in, .code yX6_in cX6_in 3 (some .boolean)] ++ wsX60)
def wsX6_mends : List Cond := .code yX6_mends cX6_mends 3 (some .int) :: ([.methodLink RX6 83 yX6_isThere, .instanceMethod yX6_isThere, .selects RX6 yX6_isThere yX6_isThere, .initialized RX6, .code yX6_isThere cX6_isThere 2 (some .boolean), .fieldLink RX6 7 "LendingDiskModel" "s" "[I", .methodLink RX6 24 yX6_in, .static yX6_in, .code yX6_in cX6_in 3 (some .boolean), .methodLink RX6 28 yX6_at, .static yX6_at, .code yX6_at cX6_at 2 (some .int), .methodLink RX6 87 yX6_isOpen, .instanceMethod yX6_isOpen, .selects RX6 yX6_isOpen yX6_isOpen, .code yX6_isOpen cX6_isOpen 2 (some .boolean), .methodLink RX6 63 yX6_givesBack, .instanceMethod yX6_givesBack, .selects RX6 yX6_givesBack yX6_givesBack, .code yX6_givesBack cX6_givesBack 4 (some .int), .methodLink RX6 44 yX6_frees, .instanceMethod yX6_frees, .selects RX6 yX6_frees yX6_frees, .code yX6_frees cX6_frees 6 (some .int)] ++ wsX60)
def wsX6_create_r1 : List Cond := [Cond.methodLink RX6 100 yX6_createError, Cond.instanceMethod yX6_createError, Cond.selects RX6 yX6_createError yX6_createError, Cond.initialized RX6, Cond.code yX6_createError cX6_createError 1 (some .int), Cond.methodLink RX6 93 yX6_many, Cond.instanceMethod yX6_many, Cond.selects RX6 yX6_many yX6_many, Cond.code yX6_many cX6_many 3 (some .int), Cond.fieldLink RX6 7 "LendingDiskModel" "s" "[I", Cond.methodLink RX6 28 yX6_at, Cond.static yX6_at, Cond.code yX6_at cX6_at 2 (some .int), Cond.methodLink RX6 103 yX6_records, Cond.instanceMethod yX6_records, Cond.selects RX6 yX6_records yX6_records, Cond.code yX6_records cX6_records 2 none, Cond.fieldLink RX6 16 "LendingDiskModel" "states" "I", Cond.methodLink RX6 20 yX6_copies, Cond.instanceMethod yX6_copies, Cond.selects RX6 yX6_copies yX6_copies, Cond.code yX6_copies cX6_copies 4 none, Cond.methodLink RX6 106 yX6_creates, Cond.instanceMethod yX6_creates]
def wsX6_create_r2 : List Cond := [Cond.selects RX6 yX6_creates yX6_creates, Cond.code yX6_creates cX6_creates 3 (some .int), Cond.methodLink RX6 83 yX6_isThere, Cond.instanceMethod yX6_isThere, Cond.selects RX6 yX6_isThere yX6_isThere, Cond.code yX6_isThere cX6_isThere 2 (some .boolean), Cond.methodLink RX6 24 yX6_in, Cond.static yX6_in, Cond.code yX6_in cX6_in 3 (some .boolean)]
def wsX6_create : List Cond := .code yX6_create cX6_create 2 (some .int) :: ((wsX6_create_r1 ++ wsX6_create_r2) ++ wsX60)
def wsX6_open_r1 : List Cond := [Cond.methodLink RX6 109 yX6_openError, Cond.instanceMethod yX6_openError, Cond.selects RX6 yX6_openError yX6_openError, Cond.initialized RX6, Cond.code yX6_openError cX6_openError 2 (some .int), Cond.methodLink RX6 83 yX6_isThere, Cond.instanceMethod yX6_isThere, Cond.selects RX6 yX6_isThere yX6_isThere, Cond.code yX6_isThere cX6_isThere 2 (some .boolean), Cond.fieldLink RX6 7 "LendingDiskModel" "s" "[I", Cond.methodLink RX6 24 yX6_in, Cond.static yX6_in, Cond.code yX6_in cX6_in 3 (some .boolean), Cond.methodLink RX6 28 yX6_at, Cond.static yX6_at, Cond.code yX6_at cX6_at 2 (some .int), Cond.methodLink RX6 87 yX6_isOpen, Cond.instanceMethod yX6_isOpen, Cond.selects RX6 yX6_isOpen yX6_isOpen, Cond.code yX6_isOpen cX6_isOpen 2 (some .boolean), Cond.methodLink RX6 103 yX6_records, Cond.instanceMethod yX6_records, Cond.selects RX6 yX6_records yX6_records, Cond.code yX6_records cX6_records 2 none]
def wsX6_open_r2 : List Cond := [Cond.fieldLink RX6 16 "LendingDiskModel" "states" "I", Cond.methodLink RX6 20 yX6_copies, Cond.instanceMethod yX6_copies, Cond.selects RX6 yX6_copies yX6_copies, Cond.code yX6_copies cX6_copies 4 none, Cond.methodLink RX6 112 yX6_opens, Cond.instanceMethod yX6_opens, Cond.selects RX6 yX6_opens yX6_opens, Cond.code yX6_opens cX6_opens 2 (some .int), Cond.methodLink RX6 97 yX6_opened, Cond.instanceMethod yX6_opened, Cond.selects RX6 yX6_opened yX6_opened, Cond.code yX6_opened cX6_opened 3 (some .int), Cond.methodLink RX6 36 yX6_flag, Cond.static yX6_flag, Cond.code yX6_flag cX6_flag 1 (some .int)]
def wsX6_open : List Cond := .code yX6_open cX6_open 3 (some .int) :: ((wsX6_open_r1 ++ wsX6_open_r2) ++ wsX60)
def wsX6_close_r1 : List Cond := [Cond.methodLink RX6 115 yX6_closeError, Cond.instanceMethod yX6_closeError, Cond.selects RX6 yX6_closeError yX6_closeError, Cond.initialized RX6, Cond.code yX6_closeError cX6_closeError 2 (some .int), Cond.methodLink RX6 83 yX6_isThere, Cond.instanceMethod yX6_isThere, Cond.selects RX6 yX6_isThere yX6_isThere, Cond.code yX6_isThere cX6_isThere 2 (some .boolean), Cond.fieldLink RX6 7 "LendingDiskModel" "s" "[I", Cond.methodLink RX6 24 yX6_in, Cond.static yX6_in, Cond.code yX6_in cX6_in 3 (some .boolean), Cond.methodLink RX6 28 yX6_at, Cond.static yX6_at, Cond.code yX6_at cX6_at 2 (some .int), Cond.methodLink RX6 87 yX6_isOpen, Cond.instanceMethod yX6_isOpen, Cond.selects RX6 yX6_isOpen yX6_isOpen, Cond.code yX6_isOpen cX6_isOpen 2 (some .boolean), Cond.methodLink RX6 103 yX6_records, Cond.instanceMethod yX6_records, Cond.selects RX6 yX6_records yX6_records, Cond.code yX6_records cX6_records 2 none]
def wsX6_close_r2 : List Cond := [Cond.fieldLink RX6 16 "LendingDiskModel" "states" "I", Cond.methodLink RX6 20 yX6_copies, Cond.instanceMethod yX6_copies, Cond.selects RX6 yX6_copies yX6_copies, Cond.code yX6_copies cX6_copies 4 none, Cond.methodLink RX6 118 yX6_closes, Cond.instanceMethod yX6_closes, Cond.selects RX6 yX6_closes yX6_closes, Cond.code yX6_closes cX6_closes 3 (some .int), Cond.methodLink RX6 63 yX6_givesBack, Cond.instanceMethod yX6_givesBack, Cond.selects RX6 yX6_givesBack yX6_givesBack, Cond.code yX6_givesBack cX6_givesBack 4 (some .int), Cond.methodLink RX6 44 yX6_frees, Cond.instanceMethod yX6_frees, Cond.selects RX6 yX6_frees yX6_frees, Cond.code yX6_frees cX6_frees 6 (some .int)]
def wsX6_close : List Cond := .code yX6_close cX6_close 3 (some .int) :: ((wsX6_close_r1 ++ wsX6_close_r2) ++ wsX60)
def wsX6_remove_r1 : List Cond := [Cond.methodLink RX6 109 yX6_openError, Cond.instanceMethod yX6_openError, Cond.selects RX6 yX6_openError yX6_openError, Cond.initialized RX6, Cond.code yX6_openError cX6_openError 2 (some .int), Cond.methodLink RX6 83 yX6_isThere, Cond.instanceMethod yX6_isThere, Cond.selects RX6 yX6_isThere yX6_isThere, Cond.code yX6_isThere cX6_isThere 2 (some .boolean), Cond.fieldLink RX6 7 "LendingDiskModel" "s" "[I", Cond.methodLink RX6 24 yX6_in, Cond.static yX6_in, Cond.code yX6_in cX6_in 3 (some .boolean), Cond.methodLink RX6 28 yX6_at, Cond.static yX6_at, Cond.code yX6_at cX6_at 2 (some .int), Cond.methodLink RX6 87 yX6_isOpen, Cond.instanceMethod yX6_isOpen, Cond.selects RX6 yX6_isOpen yX6_isOpen, Cond.code yX6_isOpen cX6_isOpen 2 (some .boolean), Cond.methodLink RX6 103 yX6_records, Cond.instanceMethod yX6_records, Cond.selects RX6 yX6_records yX6_records, Cond.code yX6_records cX6_records 2 none]
def wsX6_remove_r2 : List Cond := [Cond.fieldLink RX6 16 "LendingDiskModel" "states" "I", Cond.methodLink RX6 20 yX6_copies, Cond.instanceMethod yX6_copies, Cond.selects RX6 yX6_copies yX6_copies, Cond.code yX6_copies cX6_copies 4 none, Cond.methodLink RX6 121 yX6_removes, Cond.instanceMethod yX6_removes, Cond.selects RX6 yX6_removes yX6_removes, Cond.code yX6_removes cX6_removes 3 (some .int), Cond.methodLink RX6 44 yX6_frees, Cond.instanceMethod yX6_frees, Cond.selects RX6 yX6_frees yX6_frees, Cond.code yX6_frees cX6_frees 6 (some .int)]
def wsX6_remove : List Cond := .code yX6_remove cX6_remove 3 (some .int) :: ((wsX6_remove_r1 ++ wsX6_remove_r2) ++ wsX60)
def wsX6_sync_r1 : List Cond := [Cond.methodLink RX6 115 yX6_closeError, Cond.instanceMethod yX6_closeError, Cond.selects RX6 yX6_closeError yX6_closeError, Cond.initialized RX6, Cond.code yX6_closeError cX6_closeError 2 (some .int), Cond.methodLink RX6 83 yX6_isThere, Cond.instanceMethod yX6_isThere, Cond.selects RX6 yX6_isThere yX6_isThere, Cond.code yX6_isThere cX6_isThere 2 (some .boolean), Cond.fieldLink RX6 7 "LendingDiskModel" "s" "[I", Cond.methodLink RX6 24 yX6_in, Cond.static yX6_in, Cond.code yX6_in cX6_in 3 (some .boolean), Cond.methodLink RX6 28 yX6_at, Cond.static yX6_at, Cond.code yX6_at cX6_at 2 (some .int), Cond.methodLink RX6 87 yX6_isOpen, Cond.instanceMethod yX6_isOpen, Cond.selects RX6 yX6_isOpen yX6_isOpen, Cond.code yX6_isOpen cX6_isOpen 2 (some .boolean), Cond.methodLink RX6 103 yX6_records, Cond.instanceMethod yX6_records, Cond.selects RX6 yX6_records yX6_records, Cond.code yX6_records cX6_records 2 none]
def wsX6_sync_r2 : List Cond := [Cond.fieldLink RX6 16 "LendingDiskModel" "states" "I", Cond.methodLink RX6 20 yX6_copies, Cond.instanceMethod yX6_copies, Cond.selects RX6 yX6_copies yX6_copies, Cond.code yX6_copies cX6_copies 4 none, Cond.methodLink RX6 124 yX6_syncs, Cond.instanceMethod yX6_syncs, Cond.selects RX6 yX6_syncs yX6_syncs, Cond.code yX6_syncs cX6_syncs 4 (some .int)]
def wsX6_sync : List Cond := .code yX6_sync cX6_sync 3 (some .int) :: ((wsX6_sync_r1 ++ wsX6_sync_r2) ++ wsX60)
def wsX6_append_r1 : List Cond := [Cond.methodLink RX6 127 yX6_appendError, Cond.instanceMethod yX6_appendError, Cond.selects RX6 yX6_appendError yX6_appendError, Cond.initialized RX6, Cond.code yX6_appendError cX6_appendError 4 (some .int), Cond.methodLink RX6 83 yX6_isThere, Cond.instanceMethod yX6_isThere, Cond.selects RX6 yX6_isThere yX6_isThere, Cond.code yX6_isThere cX6_isThere 2 (some .boolean), Cond.fieldLink RX6 7 "LendingDiskModel" "s" "[I", Cond.methodLink RX6 24 yX6_in, Cond.static yX6_in, Cond.code yX6_in cX6_in 3 (some .boolean), Cond.methodLink RX6 28 yX6_at, Cond.static yX6_at, Cond.code yX6_at cX6_at 2 (some .int), Cond.methodLink RX6 87 yX6_isOpen, Cond.instanceMethod yX6_isOpen, Cond.selects RX6 yX6_isOpen yX6_isOpen, Cond.code yX6_isOpen cX6_isOpen 2 (some .boolean), Cond.methodLink RX6 90 yX6_canAppend, Cond.instanceMethod yX6_canAppend, Cond.selects RX6 yX6_canAppend yX6_canAppend, Cond.code yX6_canAppend cX6_canAppend 3 (some .boolean)]
def wsX6_append_r2 : List Cond := [Cond.methodLink RX6 73 yX6_sumOfLent, Cond.instanceMethod yX6_sumOfLent, Cond.selects RX6 yX6_sumOfLent yX6_sumOfLent, Cond.code yX6_sumOfLent cX6_sumOfLent 4 (some .int), Cond.methodLink RX6 47 yX6_lent, Cond.instanceMethod yX6_lent, Cond.selects RX6 yX6_lent yX6_lent, Cond.code yX6_lent cX6_lent 4 (some .int), Cond.methodLink RX6 56 yX6_free, Cond.instanceMethod yX6_free, Cond.selects RX6 yX6_free yX6_free, Cond.code yX6_free cX6_free 4 (some .int), Cond.methodLink RX6 32 yX6_isFree, Cond.instanceMethod yX6_isFree, Cond.selects RX6 yX6_isFree yX6_isFree, Cond.code yX6_isFree cX6_isFree 3 (some .boolean), Cond.methodLink RX6 36 yX6_flag, Cond.static yX6_flag, Cond.code yX6_flag cX6_flag 1 (some .int), Cond.methodLink RX6 103 yX6_records, Cond.instanceMethod yX6_records, Cond.selects RX6 yX6_records yX6_records, Cond.code yX6_records cX6_records 2 none, Cond.fieldLink RX6 16 "LendingDiskModel" "states" "I"]
def wsX6_append_r3 : List Cond := [Cond.methodLink RX6 20 yX6_copies, Cond.instanceMethod yX6_copies, Cond.selects RX6 yX6_copies yX6_copies, Cond.code yX6_copies cX6_copies 4 none, Cond.methodLink RX6 130 yX6_appends, Cond.instanceMethod yX6_appends, Cond.selects RX6 yX6_appends yX6_appends, Cond.code yX6_appends cX6_appends 7 (some .int), Cond.methodLink RX6 76 yX6_grows, Cond.instanceMethod yX6_grows, Cond.selects RX6 yX6_grows yX6_grows, Cond.code yX6_grows cX6_grows 8 none, Cond.methodLink RX6 60 yX6_giver, Cond.instanceMethod yX6_giver, Cond.selects RX6 yX6_giver yX6_giver, Cond.code yX6_giver cX6_giver 7 (some .int), Cond.methodLink RX6 63 yX6_givesBack, Cond.instanceMethod yX6_givesBack, Cond.selects RX6 yX6_givesBack yX6_givesBack, Cond.code yX6_givesBack cX6_givesBack 4 (some .int), Cond.methodLink RX6 44 yX6_frees, Cond.instanceMethod yX6_frees, Cond.selects RX6 yX6_frees yX6_frees, Cond.code yX6_frees cX6_frees 6 (some .int)]
def wsX6_append_r4 : List Cond := [Cond.methodLink RX6 40 yX6_blockOf, Cond.instanceMethod yX6_blockOf, Cond.selects RX6 yX6_blockOf yX6_blockOf, Cond.code yX6_blockOf cX6_blockOf 6 (some .int), Cond.methodLink RX6 66 yX6_adds, Cond.instanceMethod yX6_adds, Cond.selects RX6 yX6_adds yX6_adds, Cond.code yX6_adds cX6_adds 6 (some .int), Cond.methodLink RX6 70 yX6_chooses, Cond.instanceMethod yX6_chooses, Cond.selects RX6 yX6_chooses yX6_chooses, Cond.code yX6_chooses cX6_chooses 8 (some .int), Cond.methodLink RX6 50 yX6_isRunStart, Cond.instanceMethod yX6_isRunStart, Cond.selects RX6 yX6_isRunStart yX6_isRunStart, Cond.code yX6_isRunStart cX6_isRunStart 3 (some .boolean), Cond.methodLink RX6 53 yX6_runLength, Cond.instanceMethod yX6_runLength, Cond.selects RX6 yX6_runLength yX6_runLength, Cond.code yX6_runLength cX6_runLength 4 (some .int), Cond.methodLink RX6 80 yX6_extents, Cond.instanceMethod yX6_extents, Cond.selects RX6 yX6_extents yX6_extents, Cond.code yX6_extents cX6_extents 7 (some .int)]
def wsX6_append : List Cond := .code yX6_append cX6_append 5 (some .int) :: ((wsX6_append_r1 ++ (wsX6_append_r2 ++ (wsX6_append_r3 ++ wsX6_append_r4))) ++ wsX60)
def wsX6_cut_r1 : List Cond := [Cond.methodLink RX6 133 yX6_cutError, Cond.instanceMethod yX6_cutError, Cond.selects RX6 yX6_cutError yX6_cutError, Cond.initialized RX6, Cond.code yX6_cutError cX6_cutError 3 (some .int), Cond.fieldLink RX6 7 "LendingDiskModel" "s" "[I", Cond.methodLink RX6 83 yX6_isThere, Cond.instanceMethod yX6_isThere, Cond.selects RX6 yX6_isThere yX6_isThere, Cond.code yX6_isThere cX6_isThere 2 (some .boolean), Cond.methodLink RX6 24 yX6_in, Cond.static yX6_in, Cond.code yX6_in cX6_in 3 (some .boolean), Cond.methodLink RX6 28 yX6_at, Cond.static yX6_at, Cond.code yX6_at cX6_at 2 (some .int), Cond.methodLink RX6 87 yX6_isOpen, Cond.instanceMethod yX6_isOpen, Cond.selects RX6 yX6_isOpen yX6_isOpen, Cond.code yX6_isOpen cX6_isOpen 2 (some .boolean), Cond.methodLink RX6 103 yX6_records, Cond.instanceMethod yX6_records, Cond.selects RX6 yX6_records yX6_records, Cond.code yX6_records cX6_records 2 none]
def wsX6_cut_r2 : List Cond := [Cond.fieldLink RX6 16 "LendingDiskModel" "states" "I", Cond.methodLink RX6 20 yX6_copies, Cond.instanceMethod yX6_copies, Cond.selects RX6 yX6_copies yX6_copies, Cond.code yX6_copies cX6_copies 4 none, Cond.methodLink RX6 136 yX6_cuts, Cond.instanceMethod yX6_cuts, Cond.selects RX6 yX6_cuts yX6_cuts, Cond.code yX6_cuts cX6_cuts 5 (some .int), Cond.methodLink RX6 63 yX6_givesBack, Cond.instanceMethod yX6_givesBack, Cond.selects RX6 yX6_givesBack yX6_givesBack, Cond.code yX6_givesBack cX6_givesBack 4 (some .int), Cond.methodLink RX6 44 yX6_frees, Cond.instanceMethod yX6_frees, Cond.selects RX6 yX6_frees yX6_frees, Cond.code yX6_frees cX6_frees 6 (some .int)]
def wsX6_cut : List Cond := .code yX6_cut cX6_cut 4 (some .int) :: ((wsX6_cut_r1 ++ wsX6_cut_r2) ++ wsX60)
def wsX6_crash_r1 : List Cond := [Cond.methodLink RX6 103 yX6_records, Cond.instanceMethod yX6_records, Cond.selects RX6 yX6_records yX6_records, Cond.initialized RX6, Cond.code yX6_records cX6_records 2 none, Cond.fieldLink RX6 16 "LendingDiskModel" "states" "I", Cond.methodLink RX6 20 yX6_copies, Cond.instanceMethod yX6_copies, Cond.selects RX6 yX6_copies yX6_copies, Cond.code yX6_copies cX6_copies 4 none, Cond.fieldLink RX6 7 "LendingDiskModel" "s" "[I", Cond.methodLink RX6 139 yX6_crashes, Cond.instanceMethod yX6_crashes, Cond.selects RX6 yX6_crashes yX6_crashes, Cond.code yX6_crashes cX6_crashes 4 (some .int), Cond.methodLink RX6 28 yX6_at, Cond.static yX6_at, Cond.code yX6_at cX6_at 2 (some .int), Cond.methodLink RX6 83 yX6_isThere, Cond.instanceMethod yX6_isThere, Cond.selects RX6 yX6_isThere yX6_isThere, Cond.code yX6_isThere cX6_isThere 2 (some .boolean), Cond.methodLink RX6 24 yX6_in, Cond.static yX6_in]
def wsX6_crash_r2 : List Cond := [Cond.code yX6_in cX6_in 3 (some .boolean)]
def wsX6_crash : List Cond := .code yX6_crash cX6_crash 1 (some .int) :: ((wsX6_crash_r1 ++ wsX6_crash_r2) ++ wsX60)
def wsX6_mend_r1 : List Cond := [Cond.methodLink RX6 103 yX6_records, Cond.instanceMethod yX6_records, Cond.selects RX6 yX6_records yX6_records, Cond.initialized RX6, Cond.code yX6_records cX6_records 2 none, Cond.fieldLink RX6 16 "LendingDiskModel" "states" "I", Cond.methodLink RX6 20 yX6_copies, Cond.instanceMethod yX6_copies, Cond.selects RX6 yX6_copies yX6_copies, Cond.code yX6_copies cX6_copies 4 none, Cond.fieldLink RX6 7 "LendingDiskModel" "s" "[I", Cond.methodLink RX6 142 yX6_mends, Cond.instanceMethod yX6_mends, Cond.selects RX6 yX6_mends yX6_mends, Cond.code yX6_mends cX6_mends 3 (some .int), Cond.methodLink RX6 83 yX6_isThere, Cond.instanceMethod yX6_isThere, Cond.selects RX6 yX6_isThere yX6_isThere, Cond.code yX6_isThere cX6_isThere 2 (some .boolean), Cond.methodLink RX6 24 yX6_in, Cond.static yX6_in, Cond.code yX6_in cX6_in 3 (some .boolean), Cond.methodLink RX6 28 yX6_at, Cond.static yX6_at]
def wsX6_mend_r2 : List Cond := [Cond.code yX6_at cX6_at 2 (some .int), Cond.methodLink RX6 87 yX6_isOpen, Cond.instanceMethod yX6_isOpen, Cond.selects RX6 yX6_isOpen yX6_isOpen, Cond.code yX6_isOpen cX6_isOpen 2 (some .boolean), Cond.methodLink RX6 63 yX6_givesBack, Cond.instanceMethod yX6_givesBack, Cond.selects RX6 yX6_givesBack yX6_givesBack, Cond.code yX6_givesBack cX6_givesBack 4 (some .int), Cond.methodLink RX6 44 yX6_frees, Cond.instanceMethod yX6_frees, Cond.selects RX6 yX6_frees yX6_frees, Cond.code yX6_frees cX6_frees 6 (some .int)]
def wsX6_mend : List Cond := .code yX6_mend cX6_mend 1 (some .int) :: ((wsX6_mend_r1 ++ wsX6_mend_r2) ++ wsX60)
def wsX6_set : List Cond := .code yX6_set cX6_set 4 (some .int) :: ([.fieldLink RX6 7 "LendingDiskModel" "s" "[I", .methodLink RX6 24 yX6_in, .static yX6_in, .initialized RX6, .code yX6_in cX6_in 3 (some .boolean), .methodLink RX6 103 yX6_records, .instanceMethod yX6_records, .selects RX6 yX6_records yX6_records, .code yX6_records cX6_records 2 none, .fieldLink RX6 16 "LendingDiskModel" "states" "I", .methodLink RX6 20 yX6_copies, .instanceMethod yX6_copies, .selects RX6 yX6_copies yX6_copies, .code yX6_copies cX6_copies 4 none] ++ wsX60)
def wsX6_type : List Cond := .code yX6_type cX6_type 2 (some .int) :: ([.fieldLink RX6 145 "LendingDiskModel" "typed" "I", .fieldLink RX6 13 "LendingDiskModel" "text" "[I", .methodLink RX6 24 yX6_in, .static yX6_in, .initialized RX6, .code yX6_in cX6_in 3 (some .boolean)] ++ wsX60)
def wsX6_clearText : List Cond := .code yX6_clearText cX6_clearText 2 (some .int) :: ([.fieldLink RX6 145 "LendingDiskModel" "typed" "I"] ++ wsX60)
def wsX6_isHere : List Cond := .code yX6_isHere cX6_isHere 3 (some .boolean) :: ([.fieldLink RX6 148 "LendingDiskModel" "spot" "I", .fieldLink RX6 145 "LendingDiskModel" "typed" "I", .fieldLink RX6 13 "LendingDiskModel" "text" "[I", .methodLink RX6 24 yX6_in, .static yX6_in, .initialized RX6, .code yX6_in cX6_in 3 (some .boolean)] ++ wsX60)
def wsX6_takes : List Cond := .code yX6_takes cX6_takes 3 (some .boolean) :: ([.fieldLink RX6 148 "LendingDiskModel" "spot" "I", .methodLink RX6 151 yX6_isHere, .instanceMethod yX6_isHere, .selects RX6 yX6_isHere yX6_isHere, .initialized RX6, .code yX6_isHere cX6_isHere 3 (some .boolean), .fieldLink RX6 145 "LendingDiskModel" "typed" "I", .fieldLink RX6 13 "LendingDiskModel" "text" "[I", .methodLink RX6 24 yX6_in, .static yX6_in, .code yX6_in cX6_in 3 (some .boolean), .methodLink RX6 36 yX6_flag, .static yX6_flag, .code yX6_flag cX6_flag 1 (some .int)] ++ wsX60)
def wsX6_readsFile : List Cond := .code yX6_readsFile cX6_readsFile 1 (some .boolean) :: ([.fieldLink RX6 13 "LendingDiskModel" "text" "[I", .fieldLink RX6 148 "LendingDiskModel" "spot" "I", .fieldLink RX6 154 "LendingDiskModel" "one" "I", .methodLink RX6 151 yX6_isHere, .instanceMethod yX6_isHere, .selects RX6 yX6_isHere yX6_isHere, .initialized RX6, .code yX6_isHere cX6_isHere 3 (some .boolean), .fieldLink RX6 145 "LendingDiskModel" "typed" "I", .methodLink RX6 24 yX6_in, .static yX6_in, .code yX6_in cX6_in 3 (some .boolean), .methodLink RX6 36 yX6_flag, .static yX6_flag, .code yX6_flag cX6_flag 1 (some .int)] ++ wsX60)
def wsX6_number : List Cond := .code yX6_number cX6_number 5 (some .int) :: ([.fieldLink RX6 13 "LendingDiskModel" "text" "[I", .fieldLink RX6 148 "LendingDiskModel" "spot" "I", .methodLink RX6 151 yX6_isHere, .instanceMethod yX6_isHere, .selects RX6 yX6_isHere yX6_isHere, .initialized RX6, .code yX6_isHere cX6_isHere 3 (some .boolean), .fieldLink RX6 145 "LendingDiskModel" "typed" "I", .methodLink RX6 24 yX6_in, .static yX6_in, .code yX6_in cX6_in 3 (some .boolean)] ++ wsX60)
def wsX6_readsAppend_r1 : List Cond := [Cond.fieldLink RX6 167 "LendingDiskModel" "two" "I", Cond.fieldLink RX6 170 "LendingDiskModel" "three" "I", Cond.methodLink RX6 157 yX6_readsFile, Cond.instanceMethod yX6_readsFile, Cond.selects RX6 yX6_readsFile yX6_readsFile, Cond.initialized RX6, Cond.code yX6_readsFile cX6_readsFile 1 (some .boolean), Cond.fieldLink RX6 13 "LendingDiskModel" "text" "[I", Cond.fieldLink RX6 148 "LendingDiskModel" "spot" "I", Cond.fieldLink RX6 154 "LendingDiskModel" "one" "I", Cond.methodLink RX6 151 yX6_isHere, Cond.instanceMethod yX6_isHere, Cond.selects RX6 yX6_isHere yX6_isHere, Cond.code yX6_isHere cX6_isHere 3 (some .boolean), Cond.fieldLink RX6 145 "LendingDiskModel" "typed" "I", Cond.methodLink RX6 24 yX6_in, Cond.static yX6_in, Cond.code yX6_in cX6_in 3 (some .boolean), Cond.methodLink RX6 36 yX6_flag, Cond.static yX6_flag, Cond.code yX6_flag cX6_flag 1 (some .int), Cond.methodLink RX6 161 yX6_takes, Cond.instanceMethod yX6_takes, Cond.selects RX6 yX6_takes yX6_takes]
def wsX6_readsAppend_r2 : List Cond := [Cond.code yX6_takes cX6_takes 3 (some .boolean), Cond.methodLink RX6 164 yX6_number, Cond.instanceMethod yX6_number, Cond.selects RX6 yX6_number yX6_number, Cond.code yX6_number cX6_number 5 (some .int)]
def wsX6_readsAppend : List Cond := .code yX6_readsAppend cX6_readsAppend 1 (some .boolean) :: ((wsX6_readsAppend_r1 ++ wsX6_readsAppend_r2) ++ wsX60)
def wsX6_readsCut_r1 : List Cond := [Cond.fieldLink RX6 167 "LendingDiskModel" "two" "I", Cond.methodLink RX6 157 yX6_readsFile, Cond.instanceMethod yX6_readsFile, Cond.selects RX6 yX6_readsFile yX6_readsFile, Cond.initialized RX6, Cond.code yX6_readsFile cX6_readsFile 1 (some .boolean), Cond.fieldLink RX6 13 "LendingDiskModel" "text" "[I", Cond.fieldLink RX6 148 "LendingDiskModel" "spot" "I", Cond.fieldLink RX6 154 "LendingDiskModel" "one" "I", Cond.methodLink RX6 151 yX6_isHere, Cond.instanceMethod yX6_isHere, Cond.selects RX6 yX6_isHere yX6_isHere, Cond.code yX6_isHere cX6_isHere 3 (some .boolean), Cond.fieldLink RX6 145 "LendingDiskModel" "typed" "I", Cond.methodLink RX6 24 yX6_in, Cond.static yX6_in, Cond.code yX6_in cX6_in 3 (some .boolean), Cond.methodLink RX6 36 yX6_flag, Cond.static yX6_flag, Cond.code yX6_flag cX6_flag 1 (some .int), Cond.methodLink RX6 161 yX6_takes, Cond.instanceMethod yX6_takes, Cond.selects RX6 yX6_takes yX6_takes, Cond.code yX6_takes cX6_takes 3 (some .boolean)]
def wsX6_readsCut_r2 : List Cond := [Cond.methodLink RX6 164 yX6_number, Cond.instanceMethod yX6_number, Cond.selects RX6 yX6_number yX6_number, Cond.code yX6_number cX6_number 5 (some .int)]
def wsX6_readsCut : List Cond := .code yX6_readsCut cX6_readsCut 1 (some .boolean) :: ((wsX6_readsCut_r1 ++ wsX6_readsCut_r2) ++ wsX60)
def wsX6_readsOrder_r1 : List Cond := [Cond.fieldLink RX6 148 "LendingDiskModel" "spot" "I", Cond.fieldLink RX6 145 "LendingDiskModel" "typed" "I", Cond.fieldLink RX6 13 "LendingDiskModel" "text" "[I", Cond.fieldLink RX6 173 "LendingDiskModel" "letter" "I", Cond.methodLink RX6 157 yX6_readsFile, Cond.instanceMethod yX6_readsFile, Cond.selects RX6 yX6_readsFile yX6_readsFile, Cond.initialized RX6, Cond.code yX6_readsFile cX6_readsFile 1 (some .boolean), Cond.fieldLink RX6 154 "LendingDiskModel" "one" "I", Cond.methodLink RX6 151 yX6_isHere, Cond.instanceMethod yX6_isHere, Cond.selects RX6 yX6_isHere yX6_isHere, Cond.code yX6_isHere cX6_isHere 3 (some .boolean), Cond.methodLink RX6 24 yX6_in, Cond.static yX6_in, Cond.code yX6_in cX6_in 3 (some .boolean), Cond.methodLink RX6 36 yX6_flag, Cond.static yX6_flag, Cond.code yX6_flag cX6_flag 1 (some .int), Cond.methodLink RX6 176 yX6_readsAppend, Cond.instanceMethod yX6_readsAppend, Cond.selects RX6 yX6_readsAppend yX6_readsAppend, Cond.code yX6_readsAppend cX6_readsAppend 1 (some .boolean)]
def wsX6_readsOrder_r2 : List Cond := [Cond.fieldLink RX6 167 "LendingDiskModel" "two" "I", Cond.fieldLink RX6 170 "LendingDiskModel" "three" "I", Cond.methodLink RX6 161 yX6_takes, Cond.instanceMethod yX6_takes, Cond.selects RX6 yX6_takes yX6_takes, Cond.code yX6_takes cX6_takes 3 (some .boolean), Cond.methodLink RX6 164 yX6_number, Cond.instanceMethod yX6_number, Cond.selects RX6 yX6_number yX6_number, Cond.code yX6_number cX6_number 5 (some .int), Cond.methodLink RX6 179 yX6_readsCut, Cond.instanceMethod yX6_readsCut, Cond.selects RX6 yX6_readsCut yX6_readsCut, Cond.code yX6_readsCut cX6_readsCut 1 (some .boolean)]
def wsX6_readsOrder : List Cond := .code yX6_readsOrder cX6_readsOrder 1 (some .boolean) :: ((wsX6_readsOrder_r1 ++ wsX6_readsOrder_r2) ++ wsX60)
def wsX6_fault_r1 : List Cond := [Cond.fieldLink RX6 148 "LendingDiskModel" "spot" "I", Cond.fieldLink RX6 145 "LendingDiskModel" "typed" "I", Cond.methodLink RX6 182 yX6_readsOrder, Cond.instanceMethod yX6_readsOrder, Cond.selects RX6 yX6_readsOrder yX6_readsOrder, Cond.initialized RX6, Cond.code yX6_readsOrder cX6_readsOrder 1 (some .boolean), Cond.fieldLink RX6 13 "LendingDiskModel" "text" "[I", Cond.fieldLink RX6 173 "LendingDiskModel" "letter" "I", Cond.methodLink RX6 157 yX6_readsFile, Cond.instanceMethod yX6_readsFile, Cond.selects RX6 yX6_readsFile yX6_readsFile, Cond.code yX6_readsFile cX6_readsFile 1 (some .boolean), Cond.fieldLink RX6 154 "LendingDiskModel" "one" "I", Cond.methodLink RX6 151 yX6_isHere, Cond.instanceMethod yX6_isHere, Cond.selects RX6 yX6_isHere yX6_isHere, Cond.code yX6_isHere cX6_isHere 3 (some .boolean), Cond.methodLink RX6 24 yX6_in, Cond.static yX6_in, Cond.code yX6_in cX6_in 3 (some .boolean), Cond.methodLink RX6 36 yX6_flag, Cond.static yX6_flag, Cond.code yX6_flag cX6_flag 1 (some .int)]
def wsX6_fault_r2 : List Cond := [Cond.methodLink RX6 176 yX6_readsAppend, Cond.instanceMethod yX6_readsAppend, Cond.selects RX6 yX6_readsAppend yX6_readsAppend, Cond.code yX6_readsAppend cX6_readsAppend 1 (some .boolean), Cond.fieldLink RX6 167 "LendingDiskModel" "two" "I", Cond.fieldLink RX6 170 "LendingDiskModel" "three" "I", Cond.methodLink RX6 161 yX6_takes, Cond.instanceMethod yX6_takes, Cond.selects RX6 yX6_takes yX6_takes, Cond.code yX6_takes cX6_takes 3 (some .boolean), Cond.methodLink RX6 164 yX6_number, Cond.instanceMethod yX6_number, Cond.selects RX6 yX6_number yX6_number, Cond.code yX6_number cX6_number 5 (some .int), Cond.methodLink RX6 179 yX6_readsCut, Cond.instanceMethod yX6_readsCut, Cond.selects RX6 yX6_readsCut yX6_readsCut, Cond.code yX6_readsCut cX6_readsCut 1 (some .boolean)]
def wsX6_fault : List Cond := .code yX6_fault cX6_fault 2 (some .int) :: ((wsX6_fault_r1 ++ wsX6_fault_r2) ++ wsX60)
def wsX6_orderError_r1 : List Cond := [Cond.fieldLink RX6 173 "LendingDiskModel" "letter" "I", Cond.fieldLink RX6 154 "LendingDiskModel" "one" "I", Cond.fieldLink RX6 167 "LendingDiskModel" "two" "I", Cond.fieldLink RX6 170 "LendingDiskModel" "three" "I", Cond.methodLink RX6 100 yX6_createError, Cond.instanceMethod yX6_createError, Cond.selects RX6 yX6_createError yX6_createError, Cond.initialized RX6, Cond.code yX6_createError cX6_createError 1 (some .int), Cond.methodLink RX6 93 yX6_many, Cond.instanceMethod yX6_many, Cond.selects RX6 yX6_many yX6_many, Cond.code yX6_many cX6_many 3 (some .int), Cond.fieldLink RX6 7 "LendingDiskModel" "s" "[I", Cond.methodLink RX6 28 yX6_at, Cond.static yX6_at, Cond.code yX6_at cX6_at 2 (some .int), Cond.methodLink RX6 109 yX6_openError, Cond.instanceMethod yX6_openError, Cond.selects RX6 yX6_openError yX6_openError, Cond.code yX6_openError cX6_openError 2 (some .int), Cond.methodLink RX6 83 yX6_isThere, Cond.instanceMethod yX6_isThere, Cond.selects RX6 yX6_isThere yX6_isThere]
def wsX6_orderError_r2 : List Cond := [Cond.code yX6_isThere cX6_isThere 2 (some .boolean), Cond.methodLink RX6 24 yX6_in, Cond.static yX6_in, Cond.code yX6_in cX6_in 3 (some .boolean), Cond.methodLink RX6 87 yX6_isOpen, Cond.instanceMethod yX6_isOpen, Cond.selects RX6 yX6_isOpen yX6_isOpen, Cond.code yX6_isOpen cX6_isOpen 2 (some .boolean), Cond.methodLink RX6 115 yX6_closeError, Cond.instanceMethod yX6_closeError, Cond.selects RX6 yX6_closeError yX6_closeError, Cond.code yX6_closeError cX6_closeError 2 (some .int), Cond.methodLink RX6 127 yX6_appendError, Cond.instanceMethod yX6_appendError, Cond.selects RX6 yX6_appendError yX6_appendError, Cond.code yX6_appendError cX6_appendError 4 (some .int), Cond.methodLink RX6 90 yX6_canAppend, Cond.instanceMethod yX6_canAppend, Cond.selects RX6 yX6_canAppend yX6_canAppend, Cond.code yX6_canAppend cX6_canAppend 3 (some .boolean), Cond.methodLink RX6 73 yX6_sumOfLent, Cond.instanceMethod yX6_sumOfLent, Cond.selects RX6 yX6_sumOfLent yX6_sumOfLent, Cond.code yX6_sumOfLent cX6_sumOfLent 4 (some .int)]
def wsX6_orderError_r3 : List Cond := [Cond.methodLink RX6 47 yX6_lent, Cond.instanceMethod yX6_lent, Cond.selects RX6 yX6_lent yX6_lent, Cond.code yX6_lent cX6_lent 4 (some .int), Cond.methodLink RX6 56 yX6_free, Cond.instanceMethod yX6_free, Cond.selects RX6 yX6_free yX6_free, Cond.code yX6_free cX6_free 4 (some .int), Cond.methodLink RX6 32 yX6_isFree, Cond.instanceMethod yX6_isFree, Cond.selects RX6 yX6_isFree yX6_isFree, Cond.code yX6_isFree cX6_isFree 3 (some .boolean), Cond.methodLink RX6 36 yX6_flag, Cond.static yX6_flag, Cond.code yX6_flag cX6_flag 1 (some .int), Cond.methodLink RX6 133 yX6_cutError, Cond.instanceMethod yX6_cutError, Cond.selects RX6 yX6_cutError yX6_cutError, Cond.code yX6_cutError cX6_cutError 3 (some .int)]
def wsX6_orderError : List Cond := .code yX6_orderError cX6_orderError 1 (some .int) :: ((wsX6_orderError_r1 ++ (wsX6_orderError_r2 ++ wsX6_orderError_r3)) ++ wsX60)
def wsX6_does_r1 : List Cond := [Cond.fieldLink RX6 173 "LendingDiskModel" "letter" "I", Cond.fieldLink RX6 154 "LendingDiskModel" "one" "I", Cond.fieldLink RX6 167 "LendingDiskModel" "two" "I", Cond.fieldLink RX6 170 "LendingDiskModel" "three" "I", Cond.methodLink RX6 106 yX6_creates, Cond.instanceMethod yX6_creates, Cond.selects RX6 yX6_creates yX6_creates, Cond.initialized RX6, Cond.code yX6_creates cX6_creates 3 (some .int), Cond.fieldLink RX6 7 "LendingDiskModel" "s" "[I", Cond.methodLink RX6 83 yX6_isThere, Cond.instanceMethod yX6_isThere, Cond.selects RX6 yX6_isThere yX6_isThere, Cond.code yX6_isThere cX6_isThere 2 (some .boolean), Cond.methodLink RX6 24 yX6_in, Cond.static yX6_in, Cond.code yX6_in cX6_in 3 (some .boolean), Cond.methodLink RX6 28 yX6_at, Cond.static yX6_at, Cond.code yX6_at cX6_at 2 (some .int), Cond.methodLink RX6 112 yX6_opens, Cond.instanceMethod yX6_opens, Cond.selects RX6 yX6_opens yX6_opens, Cond.code yX6_opens cX6_opens 2 (some .int)]
def wsX6_does_r2 : List Cond := [Cond.methodLink RX6 97 yX6_opened, Cond.instanceMethod yX6_opened, Cond.selects RX6 yX6_opened yX6_opened, Cond.code yX6_opened cX6_opened 3 (some .int), Cond.methodLink RX6 87 yX6_isOpen, Cond.instanceMethod yX6_isOpen, Cond.selects RX6 yX6_isOpen yX6_isOpen, Cond.code yX6_isOpen cX6_isOpen 2 (some .boolean), Cond.methodLink RX6 36 yX6_flag, Cond.static yX6_flag, Cond.code yX6_flag cX6_flag 1 (some .int), Cond.methodLink RX6 118 yX6_closes, Cond.instanceMethod yX6_closes, Cond.selects RX6 yX6_closes yX6_closes, Cond.code yX6_closes cX6_closes 3 (some .int), Cond.methodLink RX6 63 yX6_givesBack, Cond.instanceMethod yX6_givesBack, Cond.selects RX6 yX6_givesBack yX6_givesBack, Cond.code yX6_givesBack cX6_givesBack 4 (some .int), Cond.methodLink RX6 44 yX6_frees, Cond.instanceMethod yX6_frees, Cond.selects RX6 yX6_frees yX6_frees, Cond.code yX6_frees cX6_frees 6 (some .int), Cond.methodLink RX6 121 yX6_removes]
def wsX6_does_r3 : List Cond := [Cond.instanceMethod yX6_removes, Cond.selects RX6 yX6_removes yX6_removes, Cond.code yX6_removes cX6_removes 3 (some .int), Cond.methodLink RX6 124 yX6_syncs, Cond.instanceMethod yX6_syncs, Cond.selects RX6 yX6_syncs yX6_syncs, Cond.code yX6_syncs cX6_syncs 4 (some .int), Cond.methodLink RX6 130 yX6_appends, Cond.instanceMethod yX6_appends, Cond.selects RX6 yX6_appends yX6_appends, Cond.code yX6_appends cX6_appends 7 (some .int), Cond.methodLink RX6 47 yX6_lent, Cond.instanceMethod yX6_lent, Cond.selects RX6 yX6_lent yX6_lent, Cond.code yX6_lent cX6_lent 4 (some .int), Cond.methodLink RX6 76 yX6_grows, Cond.instanceMethod yX6_grows, Cond.selects RX6 yX6_grows yX6_grows, Cond.code yX6_grows cX6_grows 8 none, Cond.methodLink RX6 56 yX6_free, Cond.instanceMethod yX6_free, Cond.selects RX6 yX6_free yX6_free, Cond.code yX6_free cX6_free 4 (some .int), Cond.methodLink RX6 32 yX6_isFree]
def wsX6_does_r4 : List Cond := [Cond.instanceMethod yX6_isFree, Cond.selects RX6 yX6_isFree yX6_isFree, Cond.code yX6_isFree cX6_isFree 3 (some .boolean), Cond.methodLink RX6 60 yX6_giver, Cond.instanceMethod yX6_giver, Cond.selects RX6 yX6_giver yX6_giver, Cond.code yX6_giver cX6_giver 7 (some .int), Cond.methodLink RX6 40 yX6_blockOf, Cond.instanceMethod yX6_blockOf, Cond.selects RX6 yX6_blockOf yX6_blockOf, Cond.code yX6_blockOf cX6_blockOf 6 (some .int), Cond.methodLink RX6 66 yX6_adds, Cond.instanceMethod yX6_adds, Cond.selects RX6 yX6_adds yX6_adds, Cond.code yX6_adds cX6_adds 6 (some .int), Cond.methodLink RX6 70 yX6_chooses, Cond.instanceMethod yX6_chooses, Cond.selects RX6 yX6_chooses yX6_chooses, Cond.code yX6_chooses cX6_chooses 8 (some .int), Cond.methodLink RX6 50 yX6_isRunStart, Cond.instanceMethod yX6_isRunStart, Cond.selects RX6 yX6_isRunStart yX6_isRunStart, Cond.code yX6_isRunStart cX6_isRunStart 3 (some .boolean), Cond.methodLink RX6 53 yX6_runLength]
def wsX6_does_r5 : List Cond := [Cond.instanceMethod yX6_runLength, Cond.selects RX6 yX6_runLength yX6_runLength, Cond.code yX6_runLength cX6_runLength 4 (some .int), Cond.methodLink RX6 80 yX6_extents, Cond.instanceMethod yX6_extents, Cond.selects RX6 yX6_extents yX6_extents, Cond.code yX6_extents cX6_extents 7 (some .int), Cond.methodLink RX6 136 yX6_cuts, Cond.instanceMethod yX6_cuts, Cond.selects RX6 yX6_cuts yX6_cuts, Cond.code yX6_cuts cX6_cuts 5 (some .int), Cond.methodLink RX6 139 yX6_crashes, Cond.instanceMethod yX6_crashes, Cond.selects RX6 yX6_crashes yX6_crashes, Cond.code yX6_crashes cX6_crashes 4 (some .int), Cond.methodLink RX6 142 yX6_mends, Cond.instanceMethod yX6_mends, Cond.selects RX6 yX6_mends yX6_mends, Cond.code yX6_mends cX6_mends 3 (some .int)]
def wsX6_does : List Cond := .code yX6_does cX6_does 1 (some .int) :: ((wsX6_does_r1 ++ (wsX6_does_r2 ++ (wsX6_does_r3 ++ (wsX6_does_r4 ++ wsX6_does_r5)))) ++ wsX60)
def wsX6_perform_r1 : List Cond := [Cond.fieldLink RX6 148 "LendingDiskModel" "spot" "I", Cond.methodLink RX6 185 yX6_fault, Cond.instanceMethod yX6_fault, Cond.selects RX6 yX6_fault yX6_fault, Cond.initialized RX6, Cond.code yX6_fault cX6_fault 2 (some .int), Cond.fieldLink RX6 145 "LendingDiskModel" "typed" "I", Cond.methodLink RX6 182 yX6_readsOrder, Cond.instanceMethod yX6_readsOrder, Cond.selects RX6 yX6_readsOrder yX6_readsOrder, Cond.code yX6_readsOrder cX6_readsOrder 1 (some .boolean), Cond.fieldLink RX6 13 "LendingDiskModel" "text" "[I", Cond.fieldLink RX6 173 "LendingDiskModel" "letter" "I", Cond.methodLink RX6 157 yX6_readsFile, Cond.instanceMethod yX6_readsFile, Cond.selects RX6 yX6_readsFile yX6_readsFile, Cond.code yX6_readsFile cX6_readsFile 1 (some .boolean), Cond.fieldLink RX6 154 "LendingDiskModel" "one" "I", Cond.methodLink RX6 151 yX6_isHere, Cond.instanceMethod yX6_isHere, Cond.selects RX6 yX6_isHere yX6_isHere, Cond.code yX6_isHere cX6_isHere 3 (some .boolean), Cond.methodLink RX6 24 yX6_in, Cond.static yX6_in]
def wsX6_perform_r2 : List Cond := [Cond.code yX6_in cX6_in 3 (some .boolean), Cond.methodLink RX6 36 yX6_flag, Cond.static yX6_flag, Cond.code yX6_flag cX6_flag 1 (some .int), Cond.methodLink RX6 176 yX6_readsAppend, Cond.instanceMethod yX6_readsAppend, Cond.selects RX6 yX6_readsAppend yX6_readsAppend, Cond.code yX6_readsAppend cX6_readsAppend 1 (some .boolean), Cond.fieldLink RX6 167 "LendingDiskModel" "two" "I", Cond.fieldLink RX6 170 "LendingDiskModel" "three" "I", Cond.methodLink RX6 161 yX6_takes, Cond.instanceMethod yX6_takes, Cond.selects RX6 yX6_takes yX6_takes, Cond.code yX6_takes cX6_takes 3 (some .boolean), Cond.methodLink RX6 164 yX6_number, Cond.instanceMethod yX6_number, Cond.selects RX6 yX6_number yX6_number, Cond.code yX6_number cX6_number 5 (some .int), Cond.methodLink RX6 179 yX6_readsCut, Cond.instanceMethod yX6_readsCut, Cond.selects RX6 yX6_readsCut yX6_readsCut, Cond.code yX6_readsCut cX6_readsCut 1 (some .boolean), Cond.methodLink RX6 103 yX6_records, Cond.instanceMethod yX6_records]
def wsX6_perform_r3 : List Cond := [Cond.selects RX6 yX6_records yX6_records, Cond.code yX6_records cX6_records 2 none, Cond.fieldLink RX6 16 "LendingDiskModel" "states" "I", Cond.methodLink RX6 20 yX6_copies, Cond.instanceMethod yX6_copies, Cond.selects RX6 yX6_copies yX6_copies, Cond.code yX6_copies cX6_copies 4 none, Cond.fieldLink RX6 7 "LendingDiskModel" "s" "[I", Cond.methodLink RX6 188 yX6_orderError, Cond.instanceMethod yX6_orderError, Cond.selects RX6 yX6_orderError yX6_orderError, Cond.code yX6_orderError cX6_orderError 1 (some .int), Cond.methodLink RX6 100 yX6_createError, Cond.instanceMethod yX6_createError, Cond.selects RX6 yX6_createError yX6_createError, Cond.code yX6_createError cX6_createError 1 (some .int), Cond.methodLink RX6 93 yX6_many, Cond.instanceMethod yX6_many, Cond.selects RX6 yX6_many yX6_many, Cond.code yX6_many cX6_many 3 (some .int), Cond.methodLink RX6 28 yX6_at, Cond.static yX6_at, Cond.code yX6_at cX6_at 2 (some .int), Cond.methodLink RX6 109 yX6_openError]
def wsX6_perform_r4 : List Cond := [Cond.instanceMethod yX6_openError, Cond.selects RX6 yX6_openError yX6_openError, Cond.code yX6_openError cX6_openError 2 (some .int), Cond.methodLink RX6 83 yX6_isThere, Cond.instanceMethod yX6_isThere, Cond.selects RX6 yX6_isThere yX6_isThere, Cond.code yX6_isThere cX6_isThere 2 (some .boolean), Cond.methodLink RX6 87 yX6_isOpen, Cond.instanceMethod yX6_isOpen, Cond.selects RX6 yX6_isOpen yX6_isOpen, Cond.code yX6_isOpen cX6_isOpen 2 (some .boolean), Cond.methodLink RX6 115 yX6_closeError, Cond.instanceMethod yX6_closeError, Cond.selects RX6 yX6_closeError yX6_closeError, Cond.code yX6_closeError cX6_closeError 2 (some .int), Cond.methodLink RX6 127 yX6_appendError, Cond.instanceMethod yX6_appendError, Cond.selects RX6 yX6_appendError yX6_appendError, Cond.code yX6_appendError cX6_appendError 4 (some .int), Cond.methodLink RX6 90 yX6_canAppend, Cond.instanceMethod yX6_canAppend, Cond.selects RX6 yX6_canAppend yX6_canAppend, Cond.code yX6_canAppend cX6_canAppend 3 (some .boolean), Cond.methodLink RX6 73 yX6_sumOfLent]
def wsX6_perform_r5 : List Cond := [Cond.instanceMethod yX6_sumOfLent, Cond.selects RX6 yX6_sumOfLent yX6_sumOfLent, Cond.code yX6_sumOfLent cX6_sumOfLent 4 (some .int), Cond.methodLink RX6 47 yX6_lent, Cond.instanceMethod yX6_lent, Cond.selects RX6 yX6_lent yX6_lent, Cond.code yX6_lent cX6_lent 4 (some .int), Cond.methodLink RX6 56 yX6_free, Cond.instanceMethod yX6_free, Cond.selects RX6 yX6_free yX6_free, Cond.code yX6_free cX6_free 4 (some .int), Cond.methodLink RX6 32 yX6_isFree, Cond.instanceMethod yX6_isFree, Cond.selects RX6 yX6_isFree yX6_isFree, Cond.code yX6_isFree cX6_isFree 3 (some .boolean), Cond.methodLink RX6 133 yX6_cutError, Cond.instanceMethod yX6_cutError, Cond.selects RX6 yX6_cutError yX6_cutError, Cond.code yX6_cutError cX6_cutError 3 (some .int), Cond.methodLink RX6 191 yX6_does, Cond.instanceMethod yX6_does, Cond.selects RX6 yX6_does yX6_does, Cond.code yX6_does cX6_does 1 (some .int), Cond.methodLink RX6 106 yX6_creates]
def wsX6_perform_r6 : List Cond := [Cond.instanceMethod yX6_creates, Cond.selects RX6 yX6_creates yX6_creates, Cond.code yX6_creates cX6_creates 3 (some .int), Cond.methodLink RX6 112 yX6_opens, Cond.instanceMethod yX6_opens, Cond.selects RX6 yX6_opens yX6_opens, Cond.code yX6_opens cX6_opens 2 (some .int), Cond.methodLink RX6 97 yX6_opened, Cond.instanceMethod yX6_opened, Cond.selects RX6 yX6_opened yX6_opened, Cond.code yX6_opened cX6_opened 3 (some .int), Cond.methodLink RX6 118 yX6_closes, Cond.instanceMethod yX6_closes, Cond.selects RX6 yX6_closes yX6_closes, Cond.code yX6_closes cX6_closes 3 (some .int), Cond.methodLink RX6 63 yX6_givesBack, Cond.instanceMethod yX6_givesBack, Cond.selects RX6 yX6_givesBack yX6_givesBack, Cond.code yX6_givesBack cX6_givesBack 4 (some .int), Cond.methodLink RX6 44 yX6_frees, Cond.instanceMethod yX6_frees, Cond.selects RX6 yX6_frees yX6_frees, Cond.code yX6_frees cX6_frees 6 (some .int), Cond.methodLink RX6 121 yX6_removes]
def wsX6_perform_r7 : List Cond := [Cond.instanceMethod yX6_removes, Cond.selects RX6 yX6_removes yX6_removes, Cond.code yX6_removes cX6_removes 3 (some .int), Cond.methodLink RX6 124 yX6_syncs, Cond.instanceMethod yX6_syncs, Cond.selects RX6 yX6_syncs yX6_syncs, Cond.code yX6_syncs cX6_syncs 4 (some .int), Cond.methodLink RX6 130 yX6_appends, Cond.instanceMethod yX6_appends, Cond.selects RX6 yX6_appends yX6_appends, Cond.code yX6_appends cX6_appends 7 (some .int), Cond.methodLink RX6 76 yX6_grows, Cond.instanceMethod yX6_grows, Cond.selects RX6 yX6_grows yX6_grows, Cond.code yX6_grows cX6_grows 8 none, Cond.methodLink RX6 60 yX6_giver, Cond.instanceMethod yX6_giver, Cond.selects RX6 yX6_giver yX6_giver, Cond.code yX6_giver cX6_giver 7 (some .int), Cond.methodLink RX6 40 yX6_blockOf, Cond.instanceMethod yX6_blockOf, Cond.selects RX6 yX6_blockOf yX6_blockOf, Cond.code yX6_blockOf cX6_blockOf 6 (some .int), Cond.methodLink RX6 66 yX6_adds]
def wsX6_perform_r8 : List Cond := [Cond.instanceMethod yX6_adds, Cond.selects RX6 yX6_adds yX6_adds, Cond.code yX6_adds cX6_adds 6 (some .int), Cond.methodLink RX6 70 yX6_chooses, Cond.instanceMethod yX6_chooses, Cond.selects RX6 yX6_chooses yX6_chooses, Cond.code yX6_chooses cX6_chooses 8 (some .int), Cond.methodLink RX6 50 yX6_isRunStart, Cond.instanceMethod yX6_isRunStart, Cond.selects RX6 yX6_isRunStart yX6_isRunStart, Cond.code yX6_isRunStart cX6_isRunStart 3 (some .boolean), Cond.methodLink RX6 53 yX6_runLength, Cond.instanceMethod yX6_runLength, Cond.selects RX6 yX6_runLength yX6_runLength, Cond.code yX6_runLength cX6_runLength 4 (some .int), Cond.methodLink RX6 80 yX6_extents, Cond.instanceMethod yX6_extents, Cond.selects RX6 yX6_extents yX6_extents, Cond.code yX6_extents cX6_extents 7 (some .int), Cond.methodLink RX6 136 yX6_cuts, Cond.instanceMethod yX6_cuts, Cond.selects RX6 yX6_cuts yX6_cuts, Cond.code yX6_cuts cX6_cuts 5 (some .int), Cond.methodLink RX6 139 yX6_crashes]
def wsX6_perform_r9 : List Cond := [Cond.instanceMethod yX6_crashes, Cond.selects RX6 yX6_crashes yX6_crashes, Cond.code yX6_crashes cX6_crashes 4 (some .int), Cond.methodLink RX6 142 yX6_mends, Cond.instanceMethod yX6_mends, Cond.selects RX6 yX6_mends yX6_mends, Cond.code yX6_mends cX6_mends 3 (some .int)]
def wsX6_perform : List Cond := .code yX6_perform cX6_perform 6 (some .int) :: ((wsX6_perform_r1 ++ (wsX6_perform_r2 ++ (wsX6_perform_r3 ++ (wsX6_perform_r4 ++ (wsX6_perform_r5 ++ (wsX6_perform_r6 ++ (wsX6_perform_r7 ++ (wsX6_perform_r8 ++ wsX6_perform_r9)))))))) ++ wsX60)
def wsX6_undo : List Cond := .code yX6_undo cX6_undo 1 (some .int) :: ([.fieldLink RX6 16 "LendingDiskModel" "states" "I", .methodLink RX6 20 yX6_copies, .instanceMethod yX6_copies, .selects RX6 yX6_copies yX6_copies, .initialized RX6, .code yX6_copies cX6_copies 4 none, .fieldLink RX6 7 "LendingDiskModel" "s" "[I"] ++ wsX60)
def wsX6_save : List Cond := .code yX6_save cX6_save 1 (some .int) :: ([.fieldLink RX6 194 "LendingDiskModel" "isSaved" "Z", .methodLink RX6 20 yX6_copies, .instanceMethod yX6_copies, .selects RX6 yX6_copies yX6_copies, .initialized RX6, .code yX6_copies cX6_copies 4 none, .fieldLink RX6 7 "LendingDiskModel" "s" "[I", .methodLink RX6 56 yX6_free, .instanceMethod yX6_free, .selects RX6 yX6_free yX6_free, .code yX6_free cX6_free 4 (some .int), .methodLink RX6 32 yX6_isFree, .instanceMethod yX6_isFree, .selects RX6 yX6_isFree yX6_isFree, .code yX6_isFree cX6_isFree 3 (some .boolean), .methodLink RX6 36 yX6_flag, .static yX6_flag, .code yX6_flag cX6_flag 1 (some .int)] ++ wsX60)
def wsX6_restore : List Cond := .code yX6_restore cX6_restore 1 (some .int) :: ([.fieldLink RX6 194 "LendingDiskModel" "isSaved" "Z", .methodLink RX6 103 yX6_records, .instanceMethod yX6_records, .selects RX6 yX6_records yX6_records, .initialized RX6, .code yX6_records cX6_records 2 none, .fieldLink RX6 16 "LendingDiskModel" "states" "I", .methodLink RX6 20 yX6_copies, .instanceMethod yX6_copies, .selects RX6 yX6_copies yX6_copies, .code yX6_copies cX6_copies 4 none, .fieldLink RX6 7 "LendingDiskModel" "s" "[I", .methodLink RX6 56 yX6_free, .instanceMethod yX6_free, .selects RX6 yX6_free yX6_free, .code yX6_free cX6_free 4 (some .int), .methodLink RX6 32 yX6_isFree, .instanceMethod yX6_isFree, .selects RX6 yX6_isFree yX6_isFree, .code yX6_isFree cX6_isFree 3 (some .boolean), .methodLink RX6 36 yX6_flag, .static yX6_flag, .code yX6_flag cX6_flag 1 (some .int)] ++ wsX60)
def wsX6_hasData : List Cond := .code yX6_hasData cX6_hasData 2 (some .boolean) :: ([.fieldLink RX6 7 "LendingDiskModel" "s" "[I", .methodLink RX6 32 yX6_isFree, .instanceMethod yX6_isFree, .selects RX6 yX6_isFree yX6_isFree, .initialized RX6, .code yX6_isFree cX6_isFree 3 (some .boolean), .methodLink RX6 28 yX6_at, .static yX6_at, .code yX6_at cX6_at 2 (some .int)] ++ wsX60)
def wsX6_block : List Cond := .code yX6_block cX6_block 3 (some .int) :: ([.fieldLink RX6 7 "LendingDiskModel" "s" "[I", .methodLink RX6 24 yX6_in, .static yX6_in, .initialized RX6, .code yX6_in cX6_in 3 (some .boolean), .methodLink RX6 32 yX6_isFree, .instanceMethod yX6_isFree, .selects RX6 yX6_isFree yX6_isFree, .code yX6_isFree cX6_isFree 3 (some .boolean), .methodLink RX6 198 yX6_hasData, .instanceMethod yX6_hasData, .selects RX6 yX6_hasData yX6_hasData, .code yX6_hasData cX6_hasData 2 (some .boolean), .methodLink RX6 28 yX6_at, .static yX6_at, .code yX6_at cX6_at 2 (some .int)] ++ wsX60)
def wsX6_file_r1 : List Cond := [Cond.fieldLink RX6 7 "LendingDiskModel" "s" "[I", Cond.methodLink RX6 83 yX6_isThere, Cond.instanceMethod yX6_isThere, Cond.selects RX6 yX6_isThere yX6_isThere, Cond.initialized RX6, Cond.code yX6_isThere cX6_isThere 2 (some .boolean), Cond.methodLink RX6 24 yX6_in, Cond.static yX6_in, Cond.code yX6_in cX6_in 3 (some .boolean), Cond.methodLink RX6 28 yX6_at, Cond.static yX6_at, Cond.code yX6_at cX6_at 2 (some .int), Cond.methodLink RX6 47 yX6_lent, Cond.instanceMethod yX6_lent, Cond.selects RX6 yX6_lent yX6_lent, Cond.code yX6_lent cX6_lent 4 (some .int), Cond.methodLink RX6 80 yX6_extents, Cond.instanceMethod yX6_extents, Cond.selects RX6 yX6_extents yX6_extents, Cond.code yX6_extents cX6_extents 7 (some .int), Cond.methodLink RX6 40 yX6_blockOf, Cond.instanceMethod yX6_blockOf, Cond.selects RX6 yX6_blockOf yX6_blockOf, Cond.code yX6_blockOf cX6_blockOf 6 (some .int)]
def wsX6_file_r2 : List Cond := [Cond.methodLink RX6 36 yX6_flag, Cond.static yX6_flag, Cond.code yX6_flag cX6_flag 1 (some .int)]
def wsX6_file : List Cond := .code yX6_file cX6_file 3 (some .int) :: ((wsX6_file_r1 ++ wsX6_file_r2) ++ wsX60)
def wsX6_extent : List Cond := .code yX6_extent cX6_extent 11 (some .int) :: ([.fieldLink RX6 7 "LendingDiskModel" "s" "[I", .methodLink RX6 83 yX6_isThere, .instanceMethod yX6_isThere, .selects RX6 yX6_isThere yX6_isThere, .initialized RX6, .code yX6_isThere cX6_isThere 2 (some .boolean), .methodLink RX6 24 yX6_in, .static yX6_in, .code yX6_in cX6_in 3 (some .boolean), .methodLink RX6 28 yX6_at, .static yX6_at, .code yX6_at cX6_at 2 (some .int), .methodLink RX6 40 yX6_blockOf, .instanceMethod yX6_blockOf, .selects RX6 yX6_blockOf yX6_blockOf, .code yX6_blockOf cX6_blockOf 6 (some .int), .methodLink RX6 36 yX6_flag, .static yX6_flag, .code yX6_flag cX6_flag 1 (some .int)] ++ wsX60)
def wsX6_run : List Cond := .code yX6_run cX6_run 5 (some .int) :: ([.methodLink RX6 24 yX6_in, .static yX6_in, .initialized RX6, .code yX6_in cX6_in 3 (some .boolean), .methodLink RX6 50 yX6_isRunStart, .instanceMethod yX6_isRunStart, .selects RX6 yX6_isRunStart yX6_isRunStart, .code yX6_isRunStart cX6_isRunStart 3 (some .boolean), .methodLink RX6 32 yX6_isFree, .instanceMethod yX6_isFree, .selects RX6 yX6_isFree yX6_isFree, .code yX6_isFree cX6_isFree 3 (some .boolean), .fieldLink RX6 7 "LendingDiskModel" "s" "[I", .methodLink RX6 53 yX6_runLength, .instanceMethod yX6_runLength, .selects RX6 yX6_runLength yX6_runLength, .code yX6_runLength cX6_runLength 4 (some .int)] ++ wsX60)
def wsX6_read : List Cond := .code yX6_read cX6_read 9 (some .int) :: ([.fieldLink RX6 7 "LendingDiskModel" "s" "[I", .methodLink RX6 83 yX6_isThere, .instanceMethod yX6_isThere, .selects RX6 yX6_isThere yX6_isThere, .initialized RX6, .code yX6_isThere cX6_isThere 2 (some .boolean), .methodLink RX6 24 yX6_in, .static yX6_in, .code yX6_in cX6_in 3 (some .boolean), .methodLink RX6 28 yX6_at, .static yX6_at, .code yX6_at cX6_at 2 (some .int), .methodLink RX6 40 yX6_blockOf, .instanceMethod yX6_blockOf, .selects RX6 yX6_blockOf yX6_blockOf, .code yX6_blockOf cX6_blockOf 6 (some .int)] ++ wsX60)
def wsX6_allExtents : List Cond := .code yX6_allExtents cX6_allExtents 3 (some .int) :: ([.methodLink RX6 83 yX6_isThere, .instanceMethod yX6_isThere, .selects RX6 yX6_isThere yX6_isThere, .initialized RX6, .code yX6_isThere cX6_isThere 2 (some .boolean), .fieldLink RX6 7 "LendingDiskModel" "s" "[I", .methodLink RX6 24 yX6_in, .static yX6_in, .code yX6_in cX6_in 3 (some .boolean), .methodLink RX6 28 yX6_at, .static yX6_at, .code yX6_at cX6_at 2 (some .int), .methodLink RX6 80 yX6_extents, .instanceMethod yX6_extents, .selects RX6 yX6_extents yX6_extents, .code yX6_extents cX6_extents 7 (some .int), .methodLink RX6 40 yX6_blockOf, .instanceMethod yX6_blockOf, .selects RX6 yX6_blockOf yX6_blockOf, .code yX6_blockOf cX6_blockOf 6 (some .int), .methodLink RX6 36 yX6_flag, .static yX6_flag, .code yX6_flag cX6_flag 1 (some .int)] ++ wsX60)
def wsX6_lentOfClosed : List Cond := .code yX6_lentOfClosed cX6_lentOfClosed 3 (some .int) :: ([.methodLink RX6 83 yX6_isThere, .instanceMethod yX6_isThere, .selects RX6 yX6_isThere yX6_isThere, .initialized RX6, .code yX6_isThere cX6_isThere 2 (some .boolean), .fieldLink RX6 7 "LendingDiskModel" "s" "[I", .methodLink RX6 24 yX6_in, .static yX6_in, .code yX6_in cX6_in 3 (some .boolean), .methodLink RX6 28 yX6_at, .static yX6_at, .code yX6_at cX6_at 2 (some .int), .methodLink RX6 87 yX6_isOpen, .instanceMethod yX6_isOpen, .selects RX6 yX6_isOpen yX6_isOpen, .code yX6_isOpen cX6_isOpen 2 (some .boolean), .methodLink RX6 47 yX6_lent, .instanceMethod yX6_lent, .selects RX6 yX6_lent yX6_lent, .code yX6_lent cX6_lent 4 (some .int)] ++ wsX60)
def wsX6_runs : List Cond := .code yX6_runs cX6_runs 5 (some .int) :: ([.methodLink RX6 50 yX6_isRunStart, .instanceMethod yX6_isRunStart, .selects RX6 yX6_isRunStart yX6_isRunStart, .initialized RX6, .code yX6_isRunStart cX6_isRunStart 3 (some .boolean), .methodLink RX6 32 yX6_isFree, .instanceMethod yX6_isFree, .selects RX6 yX6_isFree yX6_isFree, .code yX6_isFree cX6_isFree 3 (some .boolean), .fieldLink RX6 7 "LendingDiskModel" "s" "[I", .methodLink RX6 53 yX6_runLength, .instanceMethod yX6_runLength, .selects RX6 yX6_runLength yX6_runLength, .code yX6_runLength cX6_runLength 4 (some .int)] ++ wsX60)
def wsX6_count_r1 : List Cond := [Cond.fieldLink RX6 16 "LendingDiskModel" "states" "I", Cond.fieldLink RX6 145 "LendingDiskModel" "typed" "I", Cond.methodLink RX6 93 yX6_many, Cond.instanceMethod yX6_many, Cond.selects RX6 yX6_many yX6_many, Cond.initialized RX6, Cond.code yX6_many cX6_many 3 (some .int), Cond.fieldLink RX6 7 "LendingDiskModel" "s" "[I", Cond.methodLink RX6 28 yX6_at, Cond.static yX6_at, Cond.code yX6_at cX6_at 2 (some .int), Cond.methodLink RX6 97 yX6_opened, Cond.instanceMethod yX6_opened, Cond.selects RX6 yX6_opened yX6_opened, Cond.code yX6_opened cX6_opened 3 (some .int), Cond.methodLink RX6 83 yX6_isThere, Cond.instanceMethod yX6_isThere, Cond.selects RX6 yX6_isThere yX6_isThere, Cond.code yX6_isThere cX6_isThere 2 (some .boolean), Cond.methodLink RX6 24 yX6_in, Cond.static yX6_in, Cond.code yX6_in cX6_in 3 (some .boolean), Cond.methodLink RX6 87 yX6_isOpen, Cond.instanceMethod yX6_isOpen]
def wsX6_count_r2 : List Cond := [Cond.selects RX6 yX6_isOpen yX6_isOpen, Cond.code yX6_isOpen cX6_isOpen 2 (some .boolean), Cond.methodLink RX6 36 yX6_flag, Cond.static yX6_flag, Cond.code yX6_flag cX6_flag 1 (some .int), Cond.methodLink RX6 56 yX6_free, Cond.instanceMethod yX6_free, Cond.selects RX6 yX6_free yX6_free, Cond.code yX6_free cX6_free 4 (some .int), Cond.methodLink RX6 32 yX6_isFree, Cond.instanceMethod yX6_isFree, Cond.selects RX6 yX6_isFree yX6_isFree, Cond.code yX6_isFree cX6_isFree 3 (some .boolean), Cond.methodLink RX6 73 yX6_sumOfLent, Cond.instanceMethod yX6_sumOfLent, Cond.selects RX6 yX6_sumOfLent yX6_sumOfLent, Cond.code yX6_sumOfLent cX6_sumOfLent 4 (some .int), Cond.methodLink RX6 47 yX6_lent, Cond.instanceMethod yX6_lent, Cond.selects RX6 yX6_lent yX6_lent, Cond.code yX6_lent cX6_lent 4 (some .int), Cond.methodLink RX6 201 yX6_lentOfClosed, Cond.instanceMethod yX6_lentOfClosed, Cond.selects RX6 yX6_lentOfClosed yX6_lentOfClosed]
def wsX6_count_r3 : List Cond := [Cond.code yX6_lentOfClosed cX6_lentOfClosed 3 (some .int), Cond.methodLink RX6 204 yX6_runs, Cond.instanceMethod yX6_runs, Cond.selects RX6 yX6_runs yX6_runs, Cond.code yX6_runs cX6_runs 5 (some .int), Cond.methodLink RX6 50 yX6_isRunStart, Cond.instanceMethod yX6_isRunStart, Cond.selects RX6 yX6_isRunStart yX6_isRunStart, Cond.code yX6_isRunStart cX6_isRunStart 3 (some .boolean), Cond.methodLink RX6 53 yX6_runLength, Cond.instanceMethod yX6_runLength, Cond.selects RX6 yX6_runLength yX6_runLength, Cond.code yX6_runLength cX6_runLength 4 (some .int), Cond.methodLink RX6 207 yX6_allExtents, Cond.instanceMethod yX6_allExtents, Cond.selects RX6 yX6_allExtents yX6_allExtents, Cond.code yX6_allExtents cX6_allExtents 3 (some .int), Cond.methodLink RX6 80 yX6_extents, Cond.instanceMethod yX6_extents, Cond.selects RX6 yX6_extents yX6_extents, Cond.code yX6_extents cX6_extents 7 (some .int), Cond.methodLink RX6 40 yX6_blockOf, Cond.instanceMethod yX6_blockOf, Cond.selects RX6 yX6_blockOf yX6_blockOf]
def wsX6_count_r4 : List Cond := [Cond.code yX6_blockOf cX6_blockOf 6 (some .int)]
def wsX6_count : List Cond := .code yX6_count cX6_count 2 (some .int) :: ((wsX6_count_r1 ++ (wsX6_count_r2 ++ (wsX6_count_r3 ++ wsX6_count_r4))) ++ wsX60)
def wsX6_total : List Cond := .code yX6_total cX6_total 2 (some .int) :: ([.fieldLink RX6 7 "LendingDiskModel" "s" "[I", .methodLink RX6 24 yX6_in, .static yX6_in, .initialized RX6, .code yX6_in cX6_in 3 (some .boolean)] ++ wsX60)
def wsX6_ifAppended_r1 : List Cond := [Cond.methodLink RX6 83 yX6_isThere, Cond.instanceMethod yX6_isThere, Cond.selects RX6 yX6_isThere yX6_isThere, Cond.initialized RX6, Cond.code yX6_isThere cX6_isThere 2 (some .boolean), Cond.fieldLink RX6 7 "LendingDiskModel" "s" "[I", Cond.methodLink RX6 24 yX6_in, Cond.static yX6_in, Cond.code yX6_in cX6_in 3 (some .boolean), Cond.methodLink RX6 28 yX6_at, Cond.static yX6_at, Cond.code yX6_at cX6_at 2 (some .int), Cond.methodLink RX6 87 yX6_isOpen, Cond.instanceMethod yX6_isOpen, Cond.selects RX6 yX6_isOpen yX6_isOpen, Cond.code yX6_isOpen cX6_isOpen 2 (some .boolean), Cond.methodLink RX6 90 yX6_canAppend, Cond.instanceMethod yX6_canAppend, Cond.selects RX6 yX6_canAppend yX6_canAppend, Cond.code yX6_canAppend cX6_canAppend 3 (some .boolean), Cond.methodLink RX6 73 yX6_sumOfLent, Cond.instanceMethod yX6_sumOfLent, Cond.selects RX6 yX6_sumOfLent yX6_sumOfLent, Cond.code yX6_sumOfLent cX6_sumOfLent 4 (some .int)]
def wsX6_ifAppended_r2 : List Cond := [Cond.methodLink RX6 47 yX6_lent, Cond.instanceMethod yX6_lent, Cond.selects RX6 yX6_lent yX6_lent, Cond.code yX6_lent cX6_lent 4 (some .int), Cond.methodLink RX6 56 yX6_free, Cond.instanceMethod yX6_free, Cond.selects RX6 yX6_free yX6_free, Cond.code yX6_free cX6_free 4 (some .int), Cond.methodLink RX6 32 yX6_isFree, Cond.instanceMethod yX6_isFree, Cond.selects RX6 yX6_isFree yX6_isFree, Cond.code yX6_isFree cX6_isFree 3 (some .boolean), Cond.methodLink RX6 36 yX6_flag, Cond.static yX6_flag, Cond.code yX6_flag cX6_flag 1 (some .int), Cond.methodLink RX6 20 yX6_copies, Cond.instanceMethod yX6_copies, Cond.selects RX6 yX6_copies yX6_copies, Cond.code yX6_copies cX6_copies 4 none, Cond.methodLink RX6 130 yX6_appends, Cond.instanceMethod yX6_appends, Cond.selects RX6 yX6_appends yX6_appends, Cond.code yX6_appends cX6_appends 7 (some .int), Cond.methodLink RX6 76 yX6_grows]
def wsX6_ifAppended_r3 : List Cond := [Cond.instanceMethod yX6_grows, Cond.selects RX6 yX6_grows yX6_grows, Cond.code yX6_grows cX6_grows 8 none, Cond.methodLink RX6 60 yX6_giver, Cond.instanceMethod yX6_giver, Cond.selects RX6 yX6_giver yX6_giver, Cond.code yX6_giver cX6_giver 7 (some .int), Cond.methodLink RX6 63 yX6_givesBack, Cond.instanceMethod yX6_givesBack, Cond.selects RX6 yX6_givesBack yX6_givesBack, Cond.code yX6_givesBack cX6_givesBack 4 (some .int), Cond.methodLink RX6 44 yX6_frees, Cond.instanceMethod yX6_frees, Cond.selects RX6 yX6_frees yX6_frees, Cond.code yX6_frees cX6_frees 6 (some .int), Cond.methodLink RX6 40 yX6_blockOf, Cond.instanceMethod yX6_blockOf, Cond.selects RX6 yX6_blockOf yX6_blockOf, Cond.code yX6_blockOf cX6_blockOf 6 (some .int), Cond.methodLink RX6 66 yX6_adds, Cond.instanceMethod yX6_adds, Cond.selects RX6 yX6_adds yX6_adds, Cond.code yX6_adds cX6_adds 6 (some .int), Cond.methodLink RX6 70 yX6_chooses]
def wsX6_ifAppended_r4 : List Cond := [Cond.instanceMethod yX6_chooses, Cond.selects RX6 yX6_chooses yX6_chooses, Cond.code yX6_chooses cX6_chooses 8 (some .int), Cond.methodLink RX6 50 yX6_isRunStart, Cond.instanceMethod yX6_isRunStart, Cond.selects RX6 yX6_isRunStart yX6_isRunStart, Cond.code yX6_isRunStart cX6_isRunStart 3 (some .boolean), Cond.methodLink RX6 53 yX6_runLength, Cond.instanceMethod yX6_runLength, Cond.selects RX6 yX6_runLength yX6_runLength, Cond.code yX6_runLength cX6_runLength 4 (some .int), Cond.methodLink RX6 80 yX6_extents, Cond.instanceMethod yX6_extents, Cond.selects RX6 yX6_extents yX6_extents, Cond.code yX6_extents cX6_extents 7 (some .int)]
def wsX6_ifAppended : List Cond := .code yX6_ifAppended cX6_ifAppended 6 (some .int) :: ((wsX6_ifAppended_r1 ++ (wsX6_ifAppended_r2 ++ (wsX6_ifAppended_r3 ++ wsX6_ifAppended_r4))) ++ wsX60)
def wsX6_room_r1 : List Cond := [Cond.methodLink RX6 83 yX6_isThere, Cond.instanceMethod yX6_isThere, Cond.selects RX6 yX6_isThere yX6_isThere, Cond.initialized RX6, Cond.code yX6_isThere cX6_isThere 2 (some .boolean), Cond.fieldLink RX6 7 "LendingDiskModel" "s" "[I", Cond.methodLink RX6 24 yX6_in, Cond.static yX6_in, Cond.code yX6_in cX6_in 3 (some .boolean), Cond.methodLink RX6 28 yX6_at, Cond.static yX6_at, Cond.code yX6_at cX6_at 2 (some .int), Cond.methodLink RX6 87 yX6_isOpen, Cond.instanceMethod yX6_isOpen, Cond.selects RX6 yX6_isOpen yX6_isOpen, Cond.code yX6_isOpen cX6_isOpen 2 (some .boolean), Cond.methodLink RX6 73 yX6_sumOfLent, Cond.instanceMethod yX6_sumOfLent, Cond.selects RX6 yX6_sumOfLent yX6_sumOfLent, Cond.code yX6_sumOfLent cX6_sumOfLent 4 (some .int), Cond.methodLink RX6 47 yX6_lent, Cond.instanceMethod yX6_lent, Cond.selects RX6 yX6_lent yX6_lent, Cond.code yX6_lent cX6_lent 4 (some .int)]
def wsX6_room_r2 : List Cond := [Cond.methodLink RX6 56 yX6_free, Cond.instanceMethod yX6_free, Cond.selects RX6 yX6_free yX6_free, Cond.code yX6_free cX6_free 4 (some .int), Cond.methodLink RX6 32 yX6_isFree, Cond.instanceMethod yX6_isFree, Cond.selects RX6 yX6_isFree yX6_isFree, Cond.code yX6_isFree cX6_isFree 3 (some .boolean), Cond.methodLink RX6 36 yX6_flag, Cond.static yX6_flag, Cond.code yX6_flag cX6_flag 1 (some .int)]
def wsX6_room : List Cond := .code yX6_room cX6_room 2 (some .int) :: ((wsX6_room_r1 ++ wsX6_room_r2) ++ wsX60)
def wsX6_wholeness_r1 : List Cond := [Cond.fieldLink RX6 7 "LendingDiskModel" "s" "[I", Cond.methodLink RX6 83 yX6_isThere, Cond.instanceMethod yX6_isThere, Cond.selects RX6 yX6_isThere yX6_isThere, Cond.initialized RX6, Cond.code yX6_isThere cX6_isThere 2 (some .boolean), Cond.methodLink RX6 24 yX6_in, Cond.static yX6_in, Cond.code yX6_in cX6_in 3 (some .boolean), Cond.methodLink RX6 28 yX6_at, Cond.static yX6_at, Cond.code yX6_at cX6_at 2 (some .int), Cond.methodLink RX6 36 yX6_flag, Cond.static yX6_flag, Cond.code yX6_flag cX6_flag 1 (some .int), Cond.methodLink RX6 207 yX6_allExtents, Cond.instanceMethod yX6_allExtents, Cond.selects RX6 yX6_allExtents yX6_allExtents, Cond.code yX6_allExtents cX6_allExtents 3 (some .int), Cond.methodLink RX6 80 yX6_extents, Cond.instanceMethod yX6_extents, Cond.selects RX6 yX6_extents yX6_extents, Cond.code yX6_extents cX6_extents 7 (some .int), Cond.methodLink RX6 40 yX6_blockOf]
def wsX6_wholeness_r2 : List Cond := [Cond.instanceMethod yX6_blockOf, Cond.selects RX6 yX6_blockOf yX6_blockOf, Cond.code yX6_blockOf cX6_blockOf 6 (some .int)]
def wsX6_wholeness : List Cond := .code yX6_wholeness cX6_wholeness 3 (some .double) :: ((wsX6_wholeness_r1 ++ wsX6_wholeness_r2) ++ wsX60)
def wsJ9_max_7cf53 : List Cond := .code yJ9_max_7cf53 cJ9_max_7cf53 2 (some .int) :: ([])
def wsJ9_min_7cf53 : List Cond := .code yJ9_min_7cf53 cJ9_min_7cf53 2 (some .int) :: ([])
def wsL_law_r1 : List Cond := [Cond.classLink RL 7 RX5, Cond.instantiable RX5 7, Cond.initialized RX5, Cond.classLink RL 10 RX6, Cond.instantiable RX6 10, Cond.initialized RX6, Cond.methodLink RL 9 yX5_init, Cond.instanceMethod yX5_init, Cond.code yX5_init cX5_init 1 none, Cond.methodLink RX5 1 objectInit, Cond.instanceMethod objectInit, Cond.code objectInit ⟨#[0xb1]⟩ 1 none, Cond.classLink RX5 7 RX0, Cond.instantiable RX0 10, Cond.initialized RX0, Cond.fieldLink RX5 10 "LendingDisk" "disk" "LLendingDisk$Disk;", Cond.fieldLink RX5 16 "LendingDisk" "spare" "LLendingDisk$Disk;", Cond.fieldLink RX5 19 "LendingDisk" "snapshot" "LLendingDisk$Disk;", Cond.fieldLink RX5 22 "LendingDisk" "hasSnapshot" "Z", Cond.classLink RX5 26 RX1, Cond.instantiable RX1 3, Cond.initialized RX1, Cond.fieldLink RX5 29 "LendingDisk" "history" "LLendingDisk$History;", Cond.classLink RX5 33 RX4]
def wsL_law_r2 : List Cond := [Cond.instantiable RX4 2, Cond.initialized RX4, Cond.fieldLink RX5 36 "LendingDisk" "script" "LLendingDisk$Script;", Cond.classLink RX5 40 RX2, Cond.instantiable RX2 5, Cond.initialized RX2, Cond.fieldLink RX5 43 "LendingDisk" "order" "LLendingDisk$Order;", Cond.methodLink RX5 9 yX0_init, Cond.instanceMethod yX0_init, Cond.code yX0_init cX0_init 1 none, Cond.methodLink RX0 3 objectInit, Cond.classLink RX0 9 RX3, Cond.instantiable RX3 1, Cond.initialized RX3, Cond.fieldLink RX0 14 "LendingDisk$Disk" "stamps" "LLendingDisk$Row;", Cond.fieldLink RX0 20 "LendingDisk$Disk" "owners" "LLendingDisk$Row;", Cond.fieldLink RX0 23 "LendingDisk$Disk" "places" "LLendingDisk$Row;", Cond.fieldLink RX0 26 "LendingDisk$Disk" "modes" "LLendingDisk$Row;", Cond.fieldLink RX0 29 "LendingDisk$Disk" "lengths" "LLendingDisk$Row;", Cond.fieldLink RX0 32 "LendingDisk$Disk" "sizes" "LLendingDisk$Row;", Cond.fieldLink RX0 35 "LendingDisk$Disk" "safeSizes" "LLendingDisk$Row;", Cond.fieldLink RX0 38 "LendingDisk$Disk" "lends" "LLendingDisk$Row;", Cond.fieldLink RX0 41 "LendingDisk$Disk" "settings" "LLendingDisk$Row;", Cond.fieldLink RX0 44 "LendingDisk$Disk" "totals" "LLendingDisk$Row;"]
def wsL_law_r3 : List Cond := [Cond.methodLink RX0 11 yX3_init, Cond.instanceMethod yX3_init, Cond.code yX3_init cX3_init 4 none, Cond.methodLink RX3 1 objectInit, Cond.methodLink RX3 7 Lib.Math.max.name, Cond.static Lib.Math.max.name, Cond.initialized "java/lang/Math", Cond.code Lib.Math.max.name Lib.Math.max.code 2 (some .int), Cond.arrayClass .int, Cond.fieldLink RX3 13 "LendingDisk$Row" "cells" "[I", Cond.methodLink RX0 47 yX3_put, Cond.instanceMethod yX3_put, Cond.selects RX3 yX3_put yX3_put, Cond.code yX3_put cX3_put 3 none, Cond.methodLink RX5 28 yX1_init, Cond.instanceMethod yX1_init, Cond.code yX1_init cX1_init 2 none, Cond.methodLink RX1 3 objectInit, Cond.classLink RX1 9 RX0, Cond.fieldLink RX1 11 "LendingDisk$History" "slots" "[LLendingDisk$Disk;", Cond.fieldLink RX1 17 "LendingDisk$History" "oldest" "I", Cond.fieldLink RX1 21 "LendingDisk$History" "size" "I", Cond.methodLink RX1 24 yX0_init, Cond.instanceMethod yX4_init]
def wsL_law_r4 : List Cond := [Cond.code yX4_init cX4_init 1 none, Cond.methodLink RX4 3 objectInit, Cond.classLink RX4 9 RX3, Cond.fieldLink RX4 14 "LendingDisk$Script" "characters" "LLendingDisk$Row;", Cond.fieldLink RX4 20 "LendingDisk$Script" "length" "I", Cond.methodLink RX4 11 yX3_init, Cond.instanceMethod yX2_init, Cond.code yX2_init cX2_init 1 none, Cond.methodLink RX2 3 objectInit, Cond.fieldLink RX2 11 "LendingDisk$Order" "step" "I", Cond.fieldLink RX2 15 "LendingDisk$Order" "letter" "I", Cond.fieldLink RX2 18 "LendingDisk$Order" "file" "I", Cond.fieldLink RX2 21 "LendingDisk$Order" "first" "I", Cond.fieldLink RX2 24 "LendingDisk$Order" "second" "I", Cond.methodLink RL 12 yX6_init, Cond.instanceMethod yX6_init, Cond.code yX6_init cX6_init 2 none, Cond.methodLink RX6 1 objectInit, Cond.fieldLink RX6 7 "LendingDiskModel" "s" "[I", Cond.fieldLink RX6 13 "LendingDiskModel" "text" "[I", Cond.methodLink RL 13 yX5_create, Cond.instanceMethod yX5_create, Cond.selects RX5 yX5_create yX5_create, Cond.code yX5_create cX5_create 1 (some .int)]
def wsL_law_r5 : List Cond := [Cond.methodLink RX5 47 yX0_copyFrom, Cond.instanceMethod yX0_copyFrom, Cond.selects RX0 yX0_copyFrom yX0_copyFrom, Cond.code yX0_copyFrom cX0_copyFrom 2 none, Cond.methodLink RX0 50 yX3_copyFrom, Cond.instanceMethod yX3_copyFrom, Cond.selects RX3 yX3_copyFrom yX3_copyFrom, Cond.code yX3_copyFrom cX3_copyFrom 3 none, Cond.methodLink RX3 19 yX3_at, Cond.instanceMethod yX3_at, Cond.selects RX3 yX3_at yX3_at, Cond.code yX3_at cX3_at 2 (some .int), Cond.methodLink RX5 51 yX0_createFile, Cond.instanceMethod yX0_createFile, Cond.selects RX0 yX0_createFile yX0_createFile, Cond.code yX0_createFile cX0_createFile 2 (some .int), Cond.methodLink RX0 54 yX3_holds, Cond.instanceMethod yX3_holds, Cond.selects RX3 yX3_holds yX3_holds, Cond.code yX3_holds cX3_holds 3 (some .boolean), Cond.methodLink RX5 55 yX5_recorded, Cond.instanceMethod yX5_recorded, Cond.selects RX5 yX5_recorded yX5_recorded, Cond.code yX5_recorded cX5_recorded 2 (some .int)]
def wsL_law_r6 : List Cond := [Cond.methodLink RX5 102 yX1_record, Cond.instanceMethod yX1_record, Cond.selects RX1 yX1_record yX1_record, Cond.code yX1_record cX1_record 3 none, Cond.methodLink RX1 25 yX1_slotBehind, Cond.instanceMethod yX1_slotBehind, Cond.selects RX1 yX1_slotBehind yX1_slotBehind, Cond.code yX1_slotBehind cX1_slotBehind 3 (some (.object "LendingDisk$Disk")), Cond.methodLink RX1 29 yX0_copyFrom, Cond.methodLink RL 17 yX6_create, Cond.instanceMethod yX6_create, Cond.selects RX6 yX6_create yX6_create, Cond.code yX6_create cX6_create 2 (some .int), Cond.methodLink RX6 100 yX6_createError, Cond.instanceMethod yX6_createError, Cond.selects RX6 yX6_createError yX6_createError, Cond.code yX6_createError cX6_createError 1 (some .int), Cond.methodLink RX6 93 yX6_many, Cond.instanceMethod yX6_many, Cond.selects RX6 yX6_many yX6_many, Cond.code yX6_many cX6_many 3 (some .int), Cond.methodLink RX6 28 yX6_at, Cond.static yX6_at, Cond.code yX6_at cX6_at 2 (some .int)]
def wsL_law_r7 : List Cond := [Cond.methodLink RX6 103 yX6_records, Cond.instanceMethod yX6_records, Cond.selects RX6 yX6_records yX6_records, Cond.code yX6_records cX6_records 2 none, Cond.fieldLink RX6 16 "LendingDiskModel" "states" "I", Cond.methodLink RX6 20 yX6_copies, Cond.instanceMethod yX6_copies, Cond.selects RX6 yX6_copies yX6_copies, Cond.code yX6_copies cX6_copies 4 none, Cond.methodLink RX6 106 yX6_creates, Cond.instanceMethod yX6_creates, Cond.selects RX6 yX6_creates yX6_creates, Cond.code yX6_creates cX6_creates 3 (some .int), Cond.methodLink RX6 83 yX6_isThere, Cond.instanceMethod yX6_isThere, Cond.selects RX6 yX6_isThere yX6_isThere, Cond.code yX6_isThere cX6_isThere 2 (some .boolean), Cond.methodLink RX6 24 yX6_in, Cond.static yX6_in, Cond.code yX6_in cX6_in 3 (some .boolean), Cond.methodLink RL 18 yX5_open, Cond.instanceMethod yX5_open, Cond.selects RX5 yX5_open yX5_open, Cond.code yX5_open cX5_open 2 (some .int)]
def wsL_law_r8 : List Cond := [Cond.methodLink RX5 59 yX0_openFile, Cond.instanceMethod yX0_openFile, Cond.selects RX0 yX0_openFile yX0_openFile, Cond.code yX0_openFile cX0_openFile 2 (some .int), Cond.methodLink RX0 58 yX0_isFile, Cond.instanceMethod yX0_isFile, Cond.selects RX0 yX0_isFile yX0_isFile, Cond.code yX0_isFile cX0_isFile 2 (some .boolean), Cond.methodLink RX0 62 yX0_isOpen, Cond.instanceMethod yX0_isOpen, Cond.selects RX0 yX0_isOpen yX0_isOpen, Cond.code yX0_isOpen cX0_isOpen 2 (some .boolean), Cond.methodLink RX0 65 yX0_filesThatAre, Cond.instanceMethod yX0_filesThatAre, Cond.selects RX0 yX0_filesThatAre yX0_filesThatAre, Cond.code yX0_filesThatAre cX0_filesThatAre 4 (some .int), Cond.methodLink RL 22 yX6_open, Cond.instanceMethod yX6_open, Cond.selects RX6 yX6_open yX6_open, Cond.code yX6_open cX6_open 3 (some .int), Cond.methodLink RX6 109 yX6_openError, Cond.instanceMethod yX6_openError, Cond.selects RX6 yX6_openError yX6_openError, Cond.code yX6_openError cX6_openError 2 (some .int)]
def wsL_law_r9 : List Cond := [Cond.methodLink RX6 87 yX6_isOpen, Cond.instanceMethod yX6_isOpen, Cond.selects RX6 yX6_isOpen yX6_isOpen, Cond.code yX6_isOpen cX6_isOpen 2 (some .boolean), Cond.methodLink RX6 112 yX6_opens, Cond.instanceMethod yX6_opens, Cond.selects RX6 yX6_opens yX6_opens, Cond.code yX6_opens cX6_opens 2 (some .int), Cond.methodLink RX6 97 yX6_opened, Cond.instanceMethod yX6_opened, Cond.selects RX6 yX6_opened yX6_opened, Cond.code yX6_opened cX6_opened 3 (some .int), Cond.methodLink RX6 36 yX6_flag, Cond.static yX6_flag, Cond.code yX6_flag cX6_flag 1 (some .int), Cond.methodLink RL 23 yX5_close, Cond.instanceMethod yX5_close, Cond.selects RX5 yX5_close yX5_close, Cond.code yX5_close cX5_close 2 (some .int), Cond.methodLink RX5 62 yX0_closeFile, Cond.instanceMethod yX0_closeFile, Cond.selects RX0 yX0_closeFile yX0_closeFile, Cond.code yX0_closeFile cX0_closeFile 3 (some .int), Cond.methodLink RX0 69 yX0_giveBack]
def wsL_law_r10 : List Cond := [Cond.instanceMethod yX0_giveBack, Cond.selects RX0 yX0_giveBack yX0_giveBack, Cond.code yX0_giveBack cX0_giveBack 3 (some .int), Cond.methodLink RX0 82 yX0_lentOf, Cond.instanceMethod yX0_lentOf, Cond.selects RX0 yX0_lentOf yX0_lentOf, Cond.code yX0_lentOf cX0_lentOf 2 (some .int), Cond.methodLink RX0 72 yX3_at, Cond.methodLink RX0 75 yX0_freeFrom, Cond.instanceMethod yX0_freeFrom, Cond.selects RX0 yX0_freeFrom yX0_freeFrom, Cond.code yX0_freeFrom cX0_freeFrom 4 none, Cond.methodLink RX0 104 yX3_grow, Cond.instanceMethod yX3_grow, Cond.selects RX3 yX3_grow yX3_grow, Cond.code yX3_grow cX3_grow 3 none, Cond.methodLink RL 26 yX6_close, Cond.instanceMethod yX6_close, Cond.selects RX6 yX6_close yX6_close, Cond.code yX6_close cX6_close 3 (some .int), Cond.methodLink RX6 115 yX6_closeError, Cond.instanceMethod yX6_closeError, Cond.selects RX6 yX6_closeError yX6_closeError, Cond.code yX6_closeError cX6_closeError 2 (some .int)]
def wsL_law_r11 : List Cond := [Cond.methodLink RX6 118 yX6_closes, Cond.instanceMethod yX6_closes, Cond.selects RX6 yX6_closes yX6_closes, Cond.code yX6_closes cX6_closes 3 (some .int), Cond.methodLink RX6 63 yX6_givesBack, Cond.instanceMethod yX6_givesBack, Cond.selects RX6 yX6_givesBack yX6_givesBack, Cond.code yX6_givesBack cX6_givesBack 4 (some .int), Cond.methodLink RX6 44 yX6_frees, Cond.instanceMethod yX6_frees, Cond.selects RX6 yX6_frees yX6_frees, Cond.code yX6_frees cX6_frees 6 (some .int), Cond.methodLink RL 27 yX5_remove, Cond.instanceMethod yX5_remove, Cond.selects RX5 yX5_remove yX5_remove, Cond.code yX5_remove cX5_remove 2 (some .int), Cond.methodLink RX5 65 yX0_removeFile, Cond.instanceMethod yX0_removeFile, Cond.selects RX0 yX0_removeFile yX0_removeFile, Cond.code yX0_removeFile cX0_removeFile 3 (some .int), Cond.methodLink RL 30 yX6_remove, Cond.instanceMethod yX6_remove, Cond.selects RX6 yX6_remove yX6_remove, Cond.code yX6_remove cX6_remove 3 (some .int)]
def wsL_law_r12 : List Cond := [Cond.methodLink RX6 121 yX6_removes, Cond.instanceMethod yX6_removes, Cond.selects RX6 yX6_removes yX6_removes, Cond.code yX6_removes cX6_removes 3 (some .int), Cond.methodLink RL 31 yX5_sync, Cond.instanceMethod yX5_sync, Cond.selects RX5 yX5_sync yX5_sync, Cond.code yX5_sync cX5_sync 2 (some .int), Cond.methodLink RX5 68 yX0_syncFile, Cond.instanceMethod yX0_syncFile, Cond.selects RX0 yX0_syncFile yX0_syncFile, Cond.code yX0_syncFile cX0_syncFile 3 (some .int), Cond.methodLink RL 34 yX6_sync, Cond.instanceMethod yX6_sync, Cond.selects RX6 yX6_sync yX6_sync, Cond.code yX6_sync cX6_sync 3 (some .int), Cond.methodLink RX6 124 yX6_syncs, Cond.instanceMethod yX6_syncs, Cond.selects RX6 yX6_syncs yX6_syncs, Cond.code yX6_syncs cX6_syncs 4 (some .int), Cond.methodLink RL 35 yX5_append, Cond.instanceMethod yX5_append, Cond.selects RX5 yX5_append yX5_append, Cond.code yX5_append cX5_append 4 (some .int)]
def wsL_law_r13 : List Cond := [Cond.methodLink RX5 71 yX0_appendTo, Cond.instanceMethod yX0_appendTo, Cond.selects RX0 yX0_appendTo yX0_appendTo, Cond.code yX0_appendTo cX0_appendTo 5 (some .int), Cond.methodLink RX0 78 yX0_blocksWithoutData, Cond.instanceMethod yX0_blocksWithoutData, Cond.selects RX0 yX0_blocksWithoutData yX0_blocksWithoutData, Cond.code yX0_blocksWithoutData cX0_blocksWithoutData 1 (some .int), Cond.methodLink RX0 140 yX0_dataBlocks, Cond.instanceMethod yX0_dataBlocks, Cond.selects RX0 yX0_dataBlocks yX0_dataBlocks, Cond.code yX0_dataBlocks cX0_dataBlocks 3 (some .int), Cond.methodLink RX0 85 yX0_takeBack, Cond.instanceMethod yX0_takeBack, Cond.selects RX0 yX0_takeBack yX0_takeBack, Cond.code yX0_takeBack cX0_takeBack 5 none, Cond.methodLink RX0 107 yX0_freeBlocks, Cond.instanceMethod yX0_freeBlocks, Cond.selects RX0 yX0_freeBlocks yX0_freeBlocks, Cond.code yX0_freeBlocks cX0_freeBlocks 3 (some .int), Cond.methodLink RX0 110 yX0_greatestLender, Cond.instanceMethod yX0_greatestLender, Cond.selects RX0 yX0_greatestLender yX0_greatestLender, Cond.code yX0_greatestLender cX0_greatestLender 5 (some .int)]
def wsL_law_r14 : List Cond := [Cond.methodLink RX0 88 yX0_lengthen, Cond.instanceMethod yX0_lengthen, Cond.selects RX0 yX0_lengthen yX0_lengthen, Cond.code yX0_lengthen cX0_lengthen 8 none, Cond.methodLink RX0 98 Lib.Math.min.name, Cond.static Lib.Math.min.name, Cond.code Lib.Math.min.name Lib.Math.min.code 2 (some .int), Cond.methodLink RX0 113 yX0_blockAt, Cond.instanceMethod yX0_blockAt, Cond.selects RX0 yX0_blockAt yX0_blockAt, Cond.code yX0_blockAt cX0_blockAt 4 (some .int), Cond.methodLink RX0 116 yX0_addFrom, Cond.instanceMethod yX0_addFrom, Cond.selects RX0 yX0_addFrom yX0_addFrom, Cond.code yX0_addFrom cX0_addFrom 5 (some .int), Cond.methodLink RX0 120 yX0_chosenRun, Cond.instanceMethod yX0_chosenRun, Cond.selects RX0 yX0_chosenRun yX0_chosenRun, Cond.code yX0_chosenRun cX0_chosenRun 6 (some .int), Cond.methodLink RX0 123 yX0_runFrom, Cond.instanceMethod yX0_runFrom, Cond.selects RX0 yX0_runFrom yX0_runFrom, Cond.code yX0_runFrom cX0_runFrom 3 (some .int), Cond.methodLink RX0 126 yX0_isBetter]
def wsL_law_r15 : List Cond := [Cond.instanceMethod yX0_isBetter, Cond.selects RX0 yX0_isBetter yX0_isBetter, Cond.code yX0_isBetter cX0_isBetter 4 (some .boolean), Cond.methodLink RX0 91 yX0_write, Cond.instanceMethod yX0_write, Cond.selects RX0 yX0_write yX0_write, Cond.code yX0_write cX0_write 6 none, Cond.methodLink RX0 130 yX0_isPart, Cond.instanceMethod yX0_isPart, Cond.selects RX0 yX0_isPart yX0_isPart, Cond.code yX0_isPart cX0_isPart 5 (some .boolean), Cond.methodLink RX0 95 yX0_extentsOf, Cond.instanceMethod yX0_extentsOf, Cond.selects RX0 yX0_extentsOf yX0_extentsOf, Cond.code yX0_extentsOf cX0_extentsOf 4 (some .int), Cond.methodLink RX0 134 yX0_beginsExtent, Cond.instanceMethod yX0_beginsExtent, Cond.selects RX0 yX0_beginsExtent yX0_beginsExtent, Cond.code yX0_beginsExtent cX0_beginsExtent 2 (some .boolean), Cond.methodLink RL 39 yX6_append, Cond.instanceMethod yX6_append, Cond.selects RX6 yX6_append yX6_append, Cond.code yX6_append cX6_append 5 (some .int), Cond.methodLink RX6 127 yX6_appendError]
def wsL_law_r16 : List Cond := [Cond.instanceMethod yX6_appendError, Cond.selects RX6 yX6_appendError yX6_appendError, Cond.code yX6_appendError cX6_appendError 4 (some .int), Cond.methodLink RX6 90 yX6_canAppend, Cond.instanceMethod yX6_canAppend, Cond.selects RX6 yX6_canAppend yX6_canAppend, Cond.code yX6_canAppend cX6_canAppend 3 (some .boolean), Cond.methodLink RX6 73 yX6_sumOfLent, Cond.instanceMethod yX6_sumOfLent, Cond.selects RX6 yX6_sumOfLent yX6_sumOfLent, Cond.code yX6_sumOfLent cX6_sumOfLent 4 (some .int), Cond.methodLink RX6 47 yX6_lent, Cond.instanceMethod yX6_lent, Cond.selects RX6 yX6_lent yX6_lent, Cond.code yX6_lent cX6_lent 4 (some .int), Cond.methodLink RX6 56 yX6_free, Cond.instanceMethod yX6_free, Cond.selects RX6 yX6_free yX6_free, Cond.code yX6_free cX6_free 4 (some .int), Cond.methodLink RX6 32 yX6_isFree, Cond.instanceMethod yX6_isFree, Cond.selects RX6 yX6_isFree yX6_isFree, Cond.code yX6_isFree cX6_isFree 3 (some .boolean), Cond.methodLink RX6 130 yX6_appends]
def wsL_law_r17 : List Cond := [Cond.instanceMethod yX6_appends, Cond.selects RX6 yX6_appends yX6_appends, Cond.code yX6_appends cX6_appends 7 (some .int), Cond.methodLink RX6 76 yX6_grows, Cond.instanceMethod yX6_grows, Cond.selects RX6 yX6_grows yX6_grows, Cond.code yX6_grows cX6_grows 8 none, Cond.methodLink RX6 60 yX6_giver, Cond.instanceMethod yX6_giver, Cond.selects RX6 yX6_giver yX6_giver, Cond.code yX6_giver cX6_giver 7 (some .int), Cond.methodLink RX6 40 yX6_blockOf, Cond.instanceMethod yX6_blockOf, Cond.selects RX6 yX6_blockOf yX6_blockOf, Cond.code yX6_blockOf cX6_blockOf 6 (some .int), Cond.methodLink RX6 66 yX6_adds, Cond.instanceMethod yX6_adds, Cond.selects RX6 yX6_adds yX6_adds, Cond.code yX6_adds cX6_adds 6 (some .int), Cond.methodLink RX6 70 yX6_chooses, Cond.instanceMethod yX6_chooses, Cond.selects RX6 yX6_chooses yX6_chooses, Cond.code yX6_chooses cX6_chooses 8 (some .int), Cond.methodLink RX6 50 yX6_isRunStart]
def wsL_law_r18 : List Cond := [Cond.instanceMethod yX6_isRunStart, Cond.selects RX6 yX6_isRunStart yX6_isRunStart, Cond.code yX6_isRunStart cX6_isRunStart 3 (some .boolean), Cond.methodLink RX6 53 yX6_runLength, Cond.instanceMethod yX6_runLength, Cond.selects RX6 yX6_runLength yX6_runLength, Cond.code yX6_runLength cX6_runLength 4 (some .int), Cond.methodLink RX6 80 yX6_extents, Cond.instanceMethod yX6_extents, Cond.selects RX6 yX6_extents yX6_extents, Cond.code yX6_extents cX6_extents 7 (some .int), Cond.methodLink RL 40 yX5_cut, Cond.instanceMethod yX5_cut, Cond.selects RX5 yX5_cut yX5_cut, Cond.code yX5_cut cX5_cut 3 (some .int), Cond.methodLink RX5 75 yX0_cutFile, Cond.instanceMethod yX0_cutFile, Cond.selects RX0 yX0_cutFile yX0_cutFile, Cond.code yX0_cutFile cX0_cutFile 4 (some .int), Cond.methodLink RL 44 yX6_cut, Cond.instanceMethod yX6_cut, Cond.selects RX6 yX6_cut yX6_cut, Cond.code yX6_cut cX6_cut 4 (some .int), Cond.methodLink RX6 133 yX6_cutError]
def wsL_law_r19 : List Cond := [Cond.instanceMethod yX6_cutError, Cond.selects RX6 yX6_cutError yX6_cutError, Cond.code yX6_cutError cX6_cutError 3 (some .int), Cond.methodLink RX6 136 yX6_cuts, Cond.instanceMethod yX6_cuts, Cond.selects RX6 yX6_cuts yX6_cuts, Cond.code yX6_cuts cX6_cuts 5 (some .int), Cond.methodLink RL 45 yX5_crash, Cond.instanceMethod yX5_crash, Cond.selects RX5 yX5_crash yX5_crash, Cond.code yX5_crash cX5_crash 1 (some .int), Cond.methodLink RX5 79 yX0_crashAll, Cond.instanceMethod yX0_crashAll, Cond.selects RX0 yX0_crashAll yX0_crashAll, Cond.code yX0_crashAll cX0_crashAll 3 (some .int), Cond.methodLink RL 48 yX6_crash, Cond.instanceMethod yX6_crash, Cond.selects RX6 yX6_crash yX6_crash, Cond.code yX6_crash cX6_crash 1 (some .int), Cond.methodLink RX6 139 yX6_crashes, Cond.instanceMethod yX6_crashes, Cond.selects RX6 yX6_crashes yX6_crashes, Cond.code yX6_crashes cX6_crashes 4 (some .int), Cond.methodLink RL 49 yX5_mend]
def wsL_law_r20 : List Cond := [Cond.instanceMethod yX5_mend, Cond.selects RX5 yX5_mend yX5_mend, Cond.code yX5_mend cX5_mend 1 (some .int), Cond.methodLink RX5 82 yX0_mendAll, Cond.instanceMethod yX0_mendAll, Cond.selects RX0 yX0_mendAll yX0_mendAll, Cond.code yX0_mendAll cX0_mendAll 3 (some .int), Cond.methodLink RL 52 yX6_mend, Cond.instanceMethod yX6_mend, Cond.selects RX6 yX6_mend yX6_mend, Cond.code yX6_mend cX6_mend 1 (some .int), Cond.methodLink RX6 142 yX6_mends, Cond.instanceMethod yX6_mends, Cond.selects RX6 yX6_mends yX6_mends, Cond.code yX6_mends cX6_mends 3 (some .int), Cond.methodLink RL 53 yX5_set, Cond.instanceMethod yX5_set, Cond.selects RX5 yX5_set yX5_set, Cond.code yX5_set cX5_set 3 (some .int), Cond.methodLink RX5 85 yX0_changeSetting, Cond.instanceMethod yX0_changeSetting, Cond.selects RX0 yX0_changeSetting yX0_changeSetting, Cond.code yX0_changeSetting cX0_changeSetting 5 (some .int), Cond.methodLink RL 56 yX6_set]
def wsL_law_r21 : List Cond := [Cond.instanceMethod yX6_set, Cond.selects RX6 yX6_set yX6_set, Cond.code yX6_set cX6_set 4 (some .int), Cond.methodLink RL 57 yX5_type, Cond.instanceMethod yX5_type, Cond.selects RX5 yX5_type yX5_type, Cond.code yX5_type cX5_type 2 (some .int), Cond.methodLink RX5 88 yX4_addCharacter, Cond.instanceMethod yX4_addCharacter, Cond.selects RX4 yX4_addCharacter yX4_addCharacter, Cond.code yX4_addCharacter cX4_addCharacter 2 (some .boolean), Cond.methodLink RX4 28 yX3_put, Cond.methodLink RX5 92 yX4_length, Cond.instanceMethod yX4_length, Cond.selects RX4 yX4_length yX4_length, Cond.code yX4_length cX4_length 1 (some .int), Cond.methodLink RL 60 yX6_type, Cond.instanceMethod yX6_type, Cond.selects RX6 yX6_type yX6_type, Cond.code yX6_type cX6_type 2 (some .int), Cond.fieldLink RX6 145 "LendingDiskModel" "typed" "I", Cond.methodLink RL 61 yX5_clearText, Cond.instanceMethod yX5_clearText, Cond.selects RX5 yX5_clearText yX5_clearText]
def wsL_law_r22 : List Cond := [Cond.code yX5_clearText cX5_clearText 2 (some .int), Cond.methodLink RX5 95 yX4_empty, Cond.instanceMethod yX4_empty, Cond.selects RX4 yX4_empty yX4_empty, Cond.code yX4_empty cX4_empty 1 none, Cond.methodLink RL 64 yX6_clearText, Cond.instanceMethod yX6_clearText, Cond.selects RX6 yX6_clearText yX6_clearText, Cond.code yX6_clearText cX6_clearText 2 (some .int), Cond.methodLink RL 65 yX5_fault, Cond.instanceMethod yX5_fault, Cond.selects RX5 yX5_fault yX5_fault, Cond.code yX5_fault cX5_fault 1 (some .int), Cond.methodLink RX5 98 yX4_firstFault, Cond.instanceMethod yX4_firstFault, Cond.selects RX4 yX4_firstFault yX4_firstFault, Cond.code yX4_firstFault cX4_firstFault 3 (some .int), Cond.methodLink RX4 31 yX2_begin, Cond.instanceMethod yX2_begin, Cond.selects RX2 yX2_begin yX2_begin, Cond.code yX2_begin cX2_begin 1 none, Cond.methodLink RX4 24 yX3_at, Cond.methodLink RX4 36 yX2_takes, Cond.instanceMethod yX2_takes]
def wsL_law_r23 : List Cond := [Cond.selects RX2 yX2_takes yX2_takes, Cond.code yX2_takes cX2_takes 3 (some .boolean), Cond.methodLink RX2 27 yX2_isWhole, Cond.instanceMethod yX2_isWhole, Cond.selects RX2 yX2_isWhole yX2_isWhole, Cond.code yX2_isWhole cX2_isWhole 1 (some .boolean), Cond.methodLink RX2 31 yX2_takesLetter, Cond.instanceMethod yX2_takesLetter, Cond.selects RX2 yX2_takesLetter yX2_takesLetter, Cond.code yX2_takesLetter cX2_takesLetter 2 (some .boolean), Cond.methodLink RX2 35 yX2_takesFile, Cond.instanceMethod yX2_takesFile, Cond.selects RX2 yX2_takesFile yX2_takesFile, Cond.code yX2_takesFile cX2_takesFile 2 (some .boolean), Cond.methodLink RX2 38 yX2_takesMark, Cond.instanceMethod yX2_takesMark, Cond.selects RX2 yX2_takesMark yX2_takesMark, Cond.code yX2_takesMark cX2_takesMark 4 (some .boolean), Cond.methodLink RX2 42 yX2_takesFirst, Cond.instanceMethod yX2_takesFirst, Cond.selects RX2 yX2_takesFirst yX2_takesFirst, Cond.code yX2_takesFirst cX2_takesFirst 3 (some .boolean), Cond.methodLink RX2 45 yX2_takesMoreOfFirst, Cond.instanceMethod yX2_takesMoreOfFirst]
def wsL_law_r24 : List Cond := [Cond.selects RX2 yX2_takesMoreOfFirst yX2_takesMoreOfFirst, Cond.code yX2_takesMoreOfFirst cX2_takesMoreOfFirst 3 (some .boolean), Cond.methodLink RX2 54 yX2_isMore, Cond.static yX2_isMore, Cond.code yX2_isMore cX2_isMore 4 (some .boolean), Cond.methodLink RX2 48 yX2_takesSecond, Cond.instanceMethod yX2_takesSecond, Cond.selects RX2 yX2_takesSecond yX2_takesSecond, Cond.code yX2_takesSecond cX2_takesSecond 2 (some .boolean), Cond.methodLink RX2 51 yX2_takesMoreOfSecond, Cond.instanceMethod yX2_takesMoreOfSecond, Cond.selects RX2 yX2_takesMoreOfSecond yX2_takesMoreOfSecond, Cond.code yX2_takesMoreOfSecond cX2_takesMoreOfSecond 3 (some .boolean), Cond.methodLink RX4 40 yX2_isWhole, Cond.methodLink RL 68 yX6_fault, Cond.instanceMethod yX6_fault, Cond.selects RX6 yX6_fault yX6_fault, Cond.code yX6_fault cX6_fault 2 (some .int), Cond.fieldLink RX6 148 "LendingDiskModel" "spot" "I", Cond.methodLink RX6 182 yX6_readsOrder, Cond.instanceMethod yX6_readsOrder, Cond.selects RX6 yX6_readsOrder yX6_readsOrder, Cond.code yX6_readsOrder cX6_readsOrder 1 (some .boolean), Cond.fieldLink RX6 173 "LendingDiskModel" "letter" "I"]
def wsL_law_r25 : List Cond := [Cond.methodLink RX6 157 yX6_readsFile, Cond.instanceMethod yX6_readsFile, Cond.selects RX6 yX6_readsFile yX6_readsFile, Cond.code yX6_readsFile cX6_readsFile 1 (some .boolean), Cond.fieldLink RX6 154 "LendingDiskModel" "one" "I", Cond.methodLink RX6 151 yX6_isHere, Cond.instanceMethod yX6_isHere, Cond.selects RX6 yX6_isHere yX6_isHere, Cond.code yX6_isHere cX6_isHere 3 (some .boolean), Cond.methodLink RX6 176 yX6_readsAppend, Cond.instanceMethod yX6_readsAppend, Cond.selects RX6 yX6_readsAppend yX6_readsAppend, Cond.code yX6_readsAppend cX6_readsAppend 1 (some .boolean), Cond.fieldLink RX6 167 "LendingDiskModel" "two" "I", Cond.fieldLink RX6 170 "LendingDiskModel" "three" "I", Cond.methodLink RX6 161 yX6_takes, Cond.instanceMethod yX6_takes, Cond.selects RX6 yX6_takes yX6_takes, Cond.code yX6_takes cX6_takes 3 (some .boolean), Cond.methodLink RX6 164 yX6_number, Cond.instanceMethod yX6_number, Cond.selects RX6 yX6_number yX6_number, Cond.code yX6_number cX6_number 5 (some .int), Cond.methodLink RX6 179 yX6_readsCut]
def wsL_law_r26 : List Cond := [Cond.instanceMethod yX6_readsCut, Cond.selects RX6 yX6_readsCut yX6_readsCut, Cond.code yX6_readsCut cX6_readsCut 1 (some .boolean), Cond.methodLink RL 69 yX5_perform, Cond.instanceMethod yX5_perform, Cond.selects RX5 yX5_perform yX5_perform, Cond.code yX5_perform cX5_perform 4 (some .int), Cond.methodLink RX5 105 yX2_begin, Cond.methodLink RX5 108 yX4_characterAt, Cond.instanceMethod yX4_characterAt, Cond.selects RX4 yX4_characterAt yX4_characterAt, Cond.code yX4_characterAt cX4_characterAt 2 (some .int), Cond.methodLink RX5 111 yX5_carryOut, Cond.instanceMethod yX5_carryOut, Cond.selects RX5 yX5_carryOut yX5_carryOut, Cond.code yX5_carryOut cX5_carryOut 2 (some .int), Cond.methodLink RX5 210 yX2_fileNumber, Cond.instanceMethod yX2_fileNumber, Cond.selects RX2 yX2_fileNumber yX2_fileNumber, Cond.code yX2_fileNumber cX2_fileNumber 1 (some .int), Cond.methodLink RX5 213 yX2_letter, Cond.instanceMethod yX2_letter, Cond.selects RX2 yX2_letter yX2_letter, Cond.code yX2_letter cX2_letter 1 (some .int)]
def wsL_law_r27 : List Cond := [Cond.methodLink RX5 216 yX2_firstNumber, Cond.instanceMethod yX2_firstNumber, Cond.selects RX2 yX2_firstNumber yX2_firstNumber, Cond.code yX2_firstNumber cX2_firstNumber 1 (some .int), Cond.methodLink RX5 219 yX2_secondNumber, Cond.instanceMethod yX2_secondNumber, Cond.selects RX2 yX2_secondNumber yX2_secondNumber, Cond.code yX2_secondNumber cX2_secondNumber 1 (some .int), Cond.methodLink RX5 114 yX2_takes, Cond.methodLink RL 72 yX6_perform, Cond.instanceMethod yX6_perform, Cond.selects RX6 yX6_perform yX6_perform, Cond.code yX6_perform cX6_perform 6 (some .int), Cond.methodLink RX6 185 yX6_fault, Cond.methodLink RX6 188 yX6_orderError, Cond.instanceMethod yX6_orderError, Cond.selects RX6 yX6_orderError yX6_orderError, Cond.code yX6_orderError cX6_orderError 1 (some .int), Cond.methodLink RX6 191 yX6_does, Cond.instanceMethod yX6_does, Cond.selects RX6 yX6_does yX6_does, Cond.code yX6_does cX6_does 1 (some .int), Cond.methodLink RL 73 yX5_undo, Cond.instanceMethod yX5_undo]
def wsL_law_r28 : List Cond := [Cond.selects RX5 yX5_undo yX5_undo, Cond.code yX5_undo cX5_undo 1 (some .int), Cond.methodLink RX5 117 yX1_takeLatest, Cond.instanceMethod yX1_takeLatest, Cond.selects RX1 yX1_takeLatest yX1_takeLatest, Cond.code yX1_takeLatest cX1_takeLatest 3 (some .boolean), Cond.methodLink RX5 121 yX1_size, Cond.instanceMethod yX1_size, Cond.selects RX1 yX1_size yX1_size, Cond.code yX1_size cX1_size 1 (some .int), Cond.methodLink RL 76 yX6_undo, Cond.instanceMethod yX6_undo, Cond.selects RX6 yX6_undo yX6_undo, Cond.code yX6_undo cX6_undo 1 (some .int), Cond.methodLink RL 77 yX5_save, Cond.instanceMethod yX5_save, Cond.selects RX5 yX5_save yX5_save, Cond.code yX5_save cX5_save 1 (some .int), Cond.methodLink RX5 124 yX0_freeBlocks, Cond.methodLink RL 80 yX6_save, Cond.instanceMethod yX6_save, Cond.selects RX6 yX6_save yX6_save, Cond.code yX6_save cX6_save 1 (some .int), Cond.fieldLink RX6 194 "LendingDiskModel" "isSaved" "Z"]
def wsL_law_r29 : List Cond := [Cond.methodLink RL 81 yX5_restore, Cond.instanceMethod yX5_restore, Cond.selects RX5 yX5_restore yX5_restore, Cond.code yX5_restore cX5_restore 1 (some .int), Cond.methodLink RL 84 yX6_restore, Cond.instanceMethod yX6_restore, Cond.selects RX6 yX6_restore yX6_restore, Cond.code yX6_restore cX6_restore 1 (some .int), Cond.methodLink RL 85 yX5_block, Cond.instanceMethod yX5_block, Cond.selects RX5 yX5_block yX5_block, Cond.code yX5_block cX5_block 3 (some .int), Cond.methodLink RX5 127 yX0_ownerOf, Cond.instanceMethod yX0_ownerOf, Cond.selects RX0 yX0_ownerOf yX0_ownerOf, Cond.code yX0_ownerOf cX0_ownerOf 2 (some .int), Cond.methodLink RX5 130 yX0_useOf, Cond.instanceMethod yX0_useOf, Cond.selects RX0 yX0_useOf yX0_useOf, Cond.code yX0_useOf cX0_useOf 2 (some .int), Cond.methodLink RX5 133 yX0_placeOf, Cond.instanceMethod yX0_placeOf, Cond.selects RX0 yX0_placeOf yX0_placeOf, Cond.code yX0_placeOf cX0_placeOf 2 (some .int)]
def wsL_law_r30 : List Cond := [Cond.methodLink RX5 136 yX0_stampOf, Cond.instanceMethod yX0_stampOf, Cond.selects RX0 yX0_stampOf yX0_stampOf, Cond.code yX0_stampOf cX0_stampOf 2 (some .int), Cond.methodLink RL 88 yX6_block, Cond.instanceMethod yX6_block, Cond.selects RX6 yX6_block yX6_block, Cond.code yX6_block cX6_block 3 (some .int), Cond.methodLink RX6 198 yX6_hasData, Cond.instanceMethod yX6_hasData, Cond.selects RX6 yX6_hasData yX6_hasData, Cond.code yX6_hasData cX6_hasData 2 (some .boolean), Cond.methodLink RL 89 yX5_file, Cond.instanceMethod yX5_file, Cond.selects RX5 yX5_file yX5_file, Cond.code yX5_file cX5_file 3 (some .int), Cond.methodLink RX5 139 yX0_isFile, Cond.methodLink RX5 142 yX0_sizeOf, Cond.instanceMethod yX0_sizeOf, Cond.selects RX0 yX0_sizeOf yX0_sizeOf, Cond.code yX0_sizeOf cX0_sizeOf 2 (some .int), Cond.methodLink RX5 145 yX0_lentOf, Cond.methodLink RX5 148 yX0_safeSizeOf, Cond.instanceMethod yX0_safeSizeOf]
def wsL_law_r31 : List Cond := [Cond.selects RX0 yX0_safeSizeOf yX0_safeSizeOf, Cond.code yX0_safeSizeOf cX0_safeSizeOf 2 (some .int), Cond.methodLink RX5 151 yX0_isOpen, Cond.methodLink RX5 154 yX0_extentsOf, Cond.methodLink RX5 157 yX0_lendOf, Cond.instanceMethod yX0_lendOf, Cond.selects RX0 yX0_lendOf yX0_lendOf, Cond.code yX0_lendOf cX0_lendOf 2 (some .int), Cond.methodLink RL 92 yX6_file, Cond.instanceMethod yX6_file, Cond.selects RX6 yX6_file yX6_file, Cond.code yX6_file cX6_file 3 (some .int), Cond.methodLink RL 93 yX5_extent, Cond.instanceMethod yX5_extent, Cond.selects RX5 yX5_extent yX5_extent, Cond.code yX5_extent cX5_extent 5 (some .int), Cond.methodLink RX5 160 yX0_placeOfExtent, Cond.instanceMethod yX0_placeOfExtent, Cond.selects RX0 yX0_placeOfExtent yX0_placeOfExtent, Cond.code yX0_placeOfExtent cX0_placeOfExtent 5 (some .int), Cond.methodLink RX5 163 yX0_blockAt, Cond.methodLink RX5 166 yX0_extentFrom, Cond.instanceMethod yX0_extentFrom, Cond.selects RX0 yX0_extentFrom yX0_extentFrom]
def wsL_law_r32 : List Cond := [Cond.code yX0_extentFrom cX0_extentFrom 4 (some .int), Cond.methodLink RL 96 yX6_extent, Cond.instanceMethod yX6_extent, Cond.selects RX6 yX6_extent yX6_extent, Cond.code yX6_extent cX6_extent 11 (some .int), Cond.methodLink RL 97 yX5_run, Cond.instanceMethod yX5_run, Cond.selects RX5 yX5_run yX5_run, Cond.code yX5_run cX5_run 4 (some .int), Cond.methodLink RX5 169 yX0_firstOfRun, Cond.instanceMethod yX0_firstOfRun, Cond.selects RX0 yX0_firstOfRun yX0_firstOfRun, Cond.code yX0_firstOfRun cX0_firstOfRun 4 (some .int), Cond.methodLink RX5 172 yX0_runFrom, Cond.methodLink RL 100 yX6_run, Cond.instanceMethod yX6_run, Cond.selects RX6 yX6_run yX6_run, Cond.code yX6_run cX6_run 5 (some .int), Cond.methodLink RL 101 yX5_read, Cond.instanceMethod yX5_read, Cond.selects RX5 yX5_read yX5_read, Cond.code yX5_read cX5_read 6 (some .int), Cond.methodLink RX5 175 Lib.Math.min.name, Cond.methodLink RX5 180 yX0_sumOfStamps]
def wsL_law_r33 : List Cond := [Cond.instanceMethod yX0_sumOfStamps, Cond.selects RX0 yX0_sumOfStamps yX0_sumOfStamps, Cond.code yX0_sumOfStamps cX0_sumOfStamps 6 (some .int), Cond.methodLink RL 105 yX6_read, Cond.instanceMethod yX6_read, Cond.selects RX6 yX6_read yX6_read, Cond.code yX6_read cX6_read 9 (some .int), Cond.methodLink RL 106 yX5_count, Cond.instanceMethod yX5_count, Cond.selects RX5 yX5_count yX5_count, Cond.code yX5_count cX5_count 2 (some .int), Cond.methodLink RX5 183 yX0_filesThatAre, Cond.methodLink RX5 186 yX0_dataBlocks, Cond.methodLink RX5 189 yX0_lentToFilesThatAre, Cond.instanceMethod yX0_lentToFilesThatAre, Cond.selects RX0 yX0_lentToFilesThatAre yX0_lentToFilesThatAre, Cond.code yX0_lentToFilesThatAre cX0_lentToFilesThatAre 4 (some .int), Cond.methodLink RX5 192 yX0_freeRuns, Cond.instanceMethod yX0_freeRuns, Cond.selects RX0 yX0_freeRuns yX0_freeRuns, Cond.code yX0_freeRuns cX0_freeRuns 3 (some .int), Cond.methodLink RX5 195 yX0_longestRun, Cond.instanceMethod yX0_longestRun, Cond.selects RX0 yX0_longestRun yX0_longestRun]
def wsL_law_r34 : List Cond := [Cond.code yX0_longestRun cX0_longestRun 3 (some .int), Cond.methodLink RX0 137 Lib.Math.max.name, Cond.methodLink RX5 198 yX0_allExtents, Cond.instanceMethod yX0_allExtents, Cond.selects RX0 yX0_allExtents yX0_allExtents, Cond.code yX0_allExtents cX0_allExtents 3 (some .int), Cond.methodLink RL 109 yX6_count, Cond.instanceMethod yX6_count, Cond.selects RX6 yX6_count yX6_count, Cond.code yX6_count cX6_count 2 (some .int), Cond.methodLink RX6 201 yX6_lentOfClosed, Cond.instanceMethod yX6_lentOfClosed, Cond.selects RX6 yX6_lentOfClosed yX6_lentOfClosed, Cond.code yX6_lentOfClosed cX6_lentOfClosed 3 (some .int), Cond.methodLink RX6 204 yX6_runs, Cond.instanceMethod yX6_runs, Cond.selects RX6 yX6_runs yX6_runs, Cond.code yX6_runs cX6_runs 5 (some .int), Cond.methodLink RX6 207 yX6_allExtents, Cond.instanceMethod yX6_allExtents, Cond.selects RX6 yX6_allExtents yX6_allExtents, Cond.code yX6_allExtents cX6_allExtents 3 (some .int), Cond.methodLink RL 110 yX5_total, Cond.instanceMethod yX5_total]
def wsL_law_r35 : List Cond := [Cond.selects RX5 yX5_total yX5_total, Cond.code yX5_total cX5_total 2 (some .int), Cond.methodLink RX5 201 yX0_totalOf, Cond.instanceMethod yX0_totalOf, Cond.selects RX0 yX0_totalOf yX0_totalOf, Cond.code yX0_totalOf cX0_totalOf 2 (some .int), Cond.methodLink RL 113 yX6_total, Cond.instanceMethod yX6_total, Cond.selects RX6 yX6_total yX6_total, Cond.code yX6_total cX6_total 2 (some .int), Cond.methodLink RL 114 yX5_ifAppended, Cond.instanceMethod yX5_ifAppended, Cond.selects RX5 yX5_ifAppended yX5_ifAppended, Cond.code yX5_ifAppended cX5_ifAppended 5 (some .int), Cond.methodLink RL 117 yX6_ifAppended, Cond.instanceMethod yX6_ifAppended, Cond.selects RX6 yX6_ifAppended yX6_ifAppended, Cond.code yX6_ifAppended cX6_ifAppended 6 (some .int), Cond.methodLink RL 118 yX5_room, Cond.instanceMethod yX5_room, Cond.selects RX5 yX5_room yX5_room, Cond.code yX5_room cX5_room 2 (some .int), Cond.methodLink RX5 204 yX0_blocksWithoutData, Cond.methodLink RL 121 yX6_room]
def wsL_law_r36 : List Cond := [Cond.instanceMethod yX6_room, Cond.selects RX6 yX6_room yX6_room, Cond.code yX6_room cX6_room 2 (some .int), Cond.methodLink RL 122 yX5_wholeness, Cond.instanceMethod yX5_wholeness, Cond.selects RX5 yX5_wholeness yX5_wholeness, Cond.code yX5_wholeness cX5_wholeness 2 (some .double), Cond.methodLink RX5 207 yX0_filesWithBlocks, Cond.instanceMethod yX0_filesWithBlocks, Cond.selects RX0 yX0_filesWithBlocks yX0_filesWithBlocks, Cond.code yX0_filesWithBlocks cX0_filesWithBlocks 3 (some .int), Cond.methodLink RL 126 yX6_wholeness, Cond.instanceMethod yX6_wholeness, Cond.selects RX6 yX6_wholeness yX6_wholeness, Cond.code yX6_wholeness cX6_wholeness 3 (some .double)]
def wsL_law : List Cond := (wsL_law_r1 ++ (wsL_law_r2 ++ (wsL_law_r3 ++ (wsL_law_r4 ++ (wsL_law_r5 ++ (wsL_law_r6 ++ (wsL_law_r7 ++ (wsL_law_r8 ++ (wsL_law_r9 ++ (wsL_law_r10 ++ (wsL_law_r11 ++ (wsL_law_r12 ++ (wsL_law_r13 ++ (wsL_law_r14 ++ (wsL_law_r15 ++ (wsL_law_r16 ++ (wsL_law_r17 ++ (wsL_law_r18 ++ (wsL_law_r19 ++ (wsL_law_r20 ++ (wsL_law_r21 ++ (wsL_law_r22 ++ (wsL_law_r23 ++ (wsL_law_r24 ++ (wsL_law_r25 ++ (wsL_law_r26 ++ (wsL_law_r27 ++ (wsL_law_r28 ++ (wsL_law_r29 ++ (wsL_law_r30 ++ (wsL_law_r31 ++ (wsL_law_r32 ++ (wsL_law_r33 ++ (wsL_law_r34 ++ (wsL_law_r35 ++ wsL_law_r36))))))))))))))))))))))))))))))))))) ++ wsX50 ++ wsX60 ++ wsX00 ++ wsX10 ++ wsX40 ++ wsX20 ++ wsX30 ++ ([] : List Cond)
abbrev vwCl : List vw_C := [(RX0, TX0, 10), (RX1, TX1, 3), (RX2, TX2, 5), (RX3, TX3, 1), (RX4, TX4, 2), (RX5, TX5, 7), (RX6, TX6, 10)]
end
section
/-! THE G LAYER: a world is n cells, cell i at the address ad i, holding E i; GG says that the machine comes home from a frame over such a world; a row an instruction, a row a call. -/
def gW (n : Nat) (ad : Nat → Nat) (E : Nat → va_E) : va_W := (List.range n).map (fun i => (ad i, E i))
theorem gW_get {n : Nat} {ad : Nat → Nat} {E : Nat → va_E} {i : Nat} (h : i < n) : (gW n ad E)[i]? = some (ad i, E i) := by
  simp [gW, List.getElem?_map, List.getElem?_range h]
theorem gW_inv {n : Nat} {ad : Nat → Nat} {E : Nat → va_E} {i : Nat} {q : Nat × va_E} (h : (gW n ad E)[i]? = some q) : i < n ∧ q = (ad i, E i) := by
  have hi : i < n := by
    have h1 := (List.getElem?_eq_some_iff.mp h).1
    simpa [gW] using h1
  rw [gW_get hi] at h
  exact ⟨hi, (Option.some.inj h).symm⟩
theorem gW_set {n : Nat} {ad : Nat → Nat} {E : Nat → va_E} {i : Nat} {e : va_E} (h : i < n) : (gW n ad E).set i (ad i, e) = gW n ad (va_up E i e) := by
  apply List.ext_getElem?
  intro j
  by_cases hj : j < n
  · rw [gW_get hj]
    by_cases hij : i = j
    · subst hij
      rw [List.getElem?_set_self (by simpa [gW] using h)]
      simp [va_up]
    · rw [List.getElem?_set_ne hij, gW_get hj]
      simp [va_up, Ne.symm hij, show ¬ j = i from fun q => hij q.symm]
  · rw [List.getElem?_eq_none (by simpa [gW] using Nat.not_lt.mp hj), List.getElem?_eq_none (by simpa [gW] using Nat.not_lt.mp hj)]
def gA (n : Nat) (ad : Nat → Nat) : Nat → Prop := fun q => ∃ i, i < n ∧ ad i = q
def gInj (n : Nat) (ad : Nat → Nat) : Prop := ∀ i j, i < n → j < n → ad i = ad j → i = j
theorem gD {n : Nat} {ad : Nat → Nat} (h : gInj n ad) (E : Nat → va_E) : va_D (gA n ad) (gW n ad E) := by
  refine ⟨fun i j p q hp hq e => ?_, fun k q hk => ?_⟩
  · obtain ⟨hi, rfl⟩ := gW_inv hp
    obtain ⟨hj, rfl⟩ := gW_inv hq
    exact h i j hi hj e
  · obtain ⟨hi, rfl⟩ := gW_inv hk
    exact ⟨k, hi, rfl⟩
/-- the kinds: the layout of the classes, the class of int arrays, the class of arrays of disks -/
abbrev gZ : Type := va_G × ClassId × ClassId
def gTy (Z : gZ) : List (ClassId × FieldType) := [(Z.2.1, .int), (Z.2.2, .object RX0)]
def gK (Z : gZ) (s : State) : Prop := va_K Z.1 vwCl (gTy Z) s
abbrev gX : Type := Program × Launch × Env × Room × State × MethodId × Array Value × List Frame × Method × Code × (State → Prop)
def GG (X : gX) (Z : gZ) (nL n : Nat) (ad : Nat → Nat) (E : Nat → va_E) (pc : Nat) (lv : List (Nat × Value)) (st : List Value) : Prop :=
  ∀ (H : Heap) (locs : List Loc) (ls : Array Slot), lv_has ls nL lv → va_P Z.1 vwCl (gW n ad E) H → va_S (gA n ad) X.2.2.2.2.1.heap H locs →
    W X.1 X.2.1 X.2.2.1 X.2.2.2.1 X.2.2.2.2.1 X.2.2.2.2.2.1 X.2.2.2.2.2.2.1 X.2.2.2.2.2.2.2.1 X.2.2.2.2.2.2.2.2.1 X.2.2.2.2.2.2.2.2.2.1 H locs 0 0 X.2.2.2.2.2.2.2.2.2.2 (F0 X.2.2.2.2.2.1 pc ls st)
def GC (X : gX) (Z : gZ) (cc : ByteArray) (nL : Nat) (Ts : List Cond) (own : String) (rm : Room) (n : Nat) (ad : Nat → Nat) : Prop :=
  X.1.tables.exec = Jvm.exec ∧ X.2.2.2.2.2.2.2.2.2.1.code = cc ∧ X.2.2.2.2.2.2.2.2.2.1.maxLocals = nL ∧ X.2.2.2.2.1.vm.findClass own = some X.2.2.2.2.2.1.cls ∧ (∀ w ∈ Ts, w.before X.2.2.2.2.2.2.1 X.2.2.2.2.1 = true) ∧ X.2.2.2.2.2.2.2.2.1.locks = false ∧ gK Z X.2.2.2.2.1 ∧ gInj n ad ∧ X.2.2.2.1 = rm
section GROWS
variable {X : gX} {Z : gZ} {cc : ByteArray} {nL : Nat} {Ts : List Cond} {own : String} {rm : Room} {n : Nat} {ad : Nat → Nat} {E : Nat → va_E} {pc : Nat} {lv : List (Nat × Value)} {rest : List Value}
theorem g_iconst (C : GC X Z cc nL Ts own rm n ad) {k : Int} {v : Int32} (hdg : decode cc pc = .ok (.iconst k, 1)) (hv : Int32.ofInt k = v) (kk : GG X Z nL n ad E (pc + 1) lv (.int v :: rest)) : GG X Z nL n ad E pc lv rest := by
  obtain ⟨hx, hb, -⟩ := C
  intro H locs ls hl hP hS
  exact lv_iconst hx hb hdg hv (kk H locs ls hl hP hS)
theorem g_bipush (C : GC X Z cc nL Ts own rm n ad) {k : Int} {v : Int32} (hdg : decode cc pc = .ok (.bipush k, 2)) (hv : (Int8.ofInt k).toInt32 = v) (kk : GG X Z nL n ad E (pc + 2) lv (.int v :: rest)) : GG X Z nL n ad E pc lv rest := by
  obtain ⟨hx, hb, -⟩ := C
  intro H locs ls hl hP hS
  exact lv_bipush hx hb hdg hv (kk H locs ls hl hP hS)
theorem g_sipush (C : GC X Z cc nL Ts own rm n ad) {k : Int} {v : Int32} (hdg : decode cc pc = .ok (.sipush k, 3)) (hv : (Int16.ofInt k).toInt32 = v) (kk : GG X Z nL n ad E (pc + 3) lv (.int v :: rest)) : GG X Z nL n ad E pc lv rest := by
  obtain ⟨hx, hb, -⟩ := C
  intro H locs ls hl hP hS
  exact lv_sipush hx hb hdg hv (kk H locs ls hl hP hS)
theorem g_iload_n (C : GC X Z cc nL Ts own rm n ad) {k : Fin 4} {x : Int32} (hdg : decode cc pc = .ok (.iload_n k, 1)) (q : Nat) (hq : lv[q]? = some ((k : Nat), .int x)) (kk : GG X Z nL n ad E (pc + 1) lv (.int x :: rest)) : GG X Z nL n ad E pc lv rest := by
  obtain ⟨hx, hb, -⟩ := C
  intro H locs ls hl hP hS
  exact lv_iload_n hx hb hdg rfl (lv_at hl q hq) (kk H locs ls hl hP hS)
theorem g_iload (C : GC X Z cc nL Ts own rm n ad) {k : Nat} {x : Int32} (hdg : decode cc pc = .ok (.iload k, 2)) (q : Nat) (hq : lv[q]? = some (k, .int x)) (kk : GG X Z nL n ad E (pc + 2) lv (.int x :: rest)) : GG X Z nL n ad E pc lv rest := by
  obtain ⟨hx, hb, -⟩ := C
  intro H locs ls hl hP hS
  exact lv_iload hx hb hdg (lv_at hl q hq) (kk H locs ls hl hP hS)
theorem g_aload_n (C : GC X Z cc nL Ts own rm n ad) {k : Fin 4} {x : Nat} (hdg : decode cc pc = .ok (.aload_n k, 1)) (q : Nat) (hq : lv[q]? = some ((k : Nat), .ref x)) (kk : GG X Z nL n ad E (pc + 1) lv (.ref x :: rest)) : GG X Z nL n ad E pc lv rest := by
  obtain ⟨hx, hb, -⟩ := C
  intro H locs ls hl hP hS
  exact lv_aload_n hx hb hdg rfl (lv_at hl q hq) (kk H locs ls hl hP hS)
theorem g_aload (C : GC X Z cc nL Ts own rm n ad) {k : Nat} {x : Nat} (hdg : decode cc pc = .ok (.aload k, 2)) (q : Nat) (hq : lv[q]? = some (k, .ref x)) (kk : GG X Z nL n ad E (pc + 2) lv (.ref x :: rest)) : GG X Z nL n ad E pc lv rest := by
  obtain ⟨hx, hb, -⟩ := C
  intro H locs ls hl hP hS
  exact lv_aload hx hb hdg (lv_at hl q hq) (kk H locs ls hl hP hS)
def gSt (lv : List (Nat × Value)) (i : Nat) (v : Value) : List (Nat × Value) := (i, v) :: lv.filter (fun q => !(q.1 == i) && !(q.1 + 1 == i && q.2.category == 2))
theorem g_istore_n (C : GC X Z cc nL Ts own rm n ad) {k : Fin 4} {x : Int32} (hdg : decode cc pc = .ok (.istore_n k, 1)) (hn : (k : Nat) < nL) (lv' : List (Nat × Value)) (hl' : gSt lv k (.int x) = lv') (kk : GG X Z nL n ad E (pc + 1) lv' rest) : GG X Z nL n ad E pc lv (.int x :: rest) := by
  obtain ⟨hx, hb, -⟩ := C
  intro H locs ls hl hP hS
  exact lv_istore_n hx hb hdg rfl hl hn hl' (fun ls hl => kk H locs ls hl hP hS)
theorem g_istore (C : GC X Z cc nL Ts own rm n ad) {k : Nat} {x : Int32} (hdg : decode cc pc = .ok (.istore k, 2)) (hn : k < nL) (lv' : List (Nat × Value)) (hl' : gSt lv k (.int x) = lv') (kk : GG X Z nL n ad E (pc + 2) lv' rest) : GG X Z nL n ad E pc lv (.int x :: rest) := by
  obtain ⟨hx, hb, -⟩ := C
  intro H locs ls hl hP hS
  exact lv_istore hx hb hdg hl hn hl' (fun ls hl => kk H locs ls hl hP hS)
theorem g_iinc (C : GC X Z cc nL Ts own rm n ad) {i : Nat} {k : Int} {x v : Int32} (hdg : decode cc pc = .ok (.iinc i k, 3)) (q : Nat) (hq : lv[q]? = some (i, .int x)) (hv : x + Int32.ofInt k = v) (hn : i < nL) (lv' : List (Nat × Value)) (hl' : gSt lv i (.int v) = lv') (kk : GG X Z nL n ad E (pc + 3) lv' rest) : GG X Z nL n ad E pc lv rest := by
  obtain ⟨hx, hb, -⟩ := C
  intro H locs ls hl hP hS
  exact lv_iinc hx hb hdg hl (k := q) hq hv hn hl' (fun ls hl => kk H locs ls hl hP hS)
theorem g_iadd (C : GC X Z cc nL Ts own rm n ad) {x y : Int32} (hdg : decode cc pc = .ok (.iadd, 1)) (kk : GG X Z nL n ad E (pc + 1) lv (.int (x + y) :: rest)) : GG X Z nL n ad E pc lv (.int y :: .int x :: rest) := by
  obtain ⟨hx, hb, -⟩ := C
  intro H locs ls hl hP hS
  exact lv_iadd hx hb hdg (kk H locs ls hl hP hS)
theorem g_isub (C : GC X Z cc nL Ts own rm n ad) {x y : Int32} (hdg : decode cc pc = .ok (.isub, 1)) (kk : GG X Z nL n ad E (pc + 1) lv (.int (x - y) :: rest)) : GG X Z nL n ad E pc lv (.int y :: .int x :: rest) := by
  obtain ⟨hx, hb, -⟩ := C
  intro H locs ls hl hP hS
  exact lv_isub hx hb hdg (kk H locs ls hl hP hS)
theorem g_imul (C : GC X Z cc nL Ts own rm n ad) {x y : Int32} (hdg : decode cc pc = .ok (.imul, 1)) (kk : GG X Z nL n ad E (pc + 1) lv (.int (x * y) :: rest)) : GG X Z nL n ad E pc lv (.int y :: .int x :: rest) := by
  obtain ⟨hx, hb, -⟩ := C
  intro H locs ls hl hP hS
  exact lv_imul hx hb hdg (kk H locs ls hl hP hS)
theorem g_irem (C : GC X Z cc nL Ts own rm n ad) {x y : Int32} (hdg : decode cc pc = .ok (.irem, 1)) (hne : ¬ y = 0) (kk : GG X Z nL n ad E (pc + 1) lv (.int (x - x / y * y) :: rest)) : GG X Z nL n ad E pc lv (.int y :: .int x :: rest) := by
  obtain ⟨hx, hb, -⟩ := C
  intro H locs ls hl hP hS
  exact lv_irem hx hb hdg hne (kk H locs ls hl hP hS)
theorem g_dup (C : GC X Z cc nL Ts own rm n ad) {v : Value} (hdg : decode cc pc = .ok (.dup, 1)) (hv : v.category = 1) (kk : GG X Z nL n ad E (pc + 1) lv (v :: v :: rest)) : GG X Z nL n ad E pc lv (v :: rest) := by
  obtain ⟨hx, hb, -⟩ := C
  intro H locs ls hl hP hS
  exact lv_dup hx hb hdg hv (kk H locs ls hl hP hS)
theorem g_dup2 (C : GC X Z cc nL Ts own rm n ad) {v w : Value} (hdg : decode cc pc = .ok (.dup2, 1)) (hv : v.category = 1) (hw : w.category = 1) (kk : GG X Z nL n ad E (pc + 1) lv (v :: w :: v :: w :: rest)) : GG X Z nL n ad E pc lv (v :: w :: rest) := by
  obtain ⟨hx, hb, -⟩ := C
  intro H locs ls hl hP hS
  exact lv_dup2_11 hx hb hdg hv hw (kk H locs ls hl hP hS)
theorem g_pop (C : GC X Z cc nL Ts own rm n ad) {v : Value} (hdg : decode cc pc = .ok (.pop, 1)) (hv : v.category = 1) (kk : GG X Z nL n ad E (pc + 1) lv rest) : GG X Z nL n ad E pc lv (v :: rest) := by
  obtain ⟨hx, hb, -⟩ := C
  intro H locs ls hl hP hS
  exact lv_pop hx hb hdg hv (kk H locs ls hl hP hS)
theorem g_goto (C : GC X Z cc nL Ts own rm n ad) {off : Int} {tgt : Nat} (hdg : decode cc pc = .ok (.goto off, 3)) (ht : (pc : Int) + off = (tgt : Int)) (kk : GG X Z nL n ad E tgt lv rest) : GG X Z nL n ad E pc lv rest := by
  obtain ⟨hx, hb, -⟩ := C
  intro H locs ls hl hP hS
  exact lv_goto hx hb hdg ht (kk H locs ls hl hP hS)
theorem g_if_eq (C : GC X Z cc nL Ts own rm n ad) {x : Int32} {off : Int} {tgt : Nat} (hdg : decode cc pc = .ok (.ifCond .eq off, 3)) (ht : (pc : Int) + off = (tgt : Int)) (kt : x = 0 → GG X Z nL n ad E tgt lv rest) (kf : ¬ (x = 0) → GG X Z nL n ad E (pc + 3) lv rest) : GG X Z nL n ad E pc lv (.int x :: rest) := by
  obtain ⟨hx, hb, -⟩ := C
  intro H locs ls hl hP hS
  exact lv_if_eq hx hb hdg ht (fun h => kt h H locs ls hl hP hS) (fun h => kf h H locs ls hl hP hS)
theorem g_icmp_eq (C : GC X Z cc nL Ts own rm n ad) {x y : Int32} {off : Int} {tgt : Nat} (hdg : decode cc pc = .ok (.if_icmp .eq off, 3)) (ht : (pc : Int) + off = (tgt : Int)) (kt : x = y → GG X Z nL n ad E tgt lv rest) (kf : ¬ (x = y) → GG X Z nL n ad E (pc + 3) lv rest) : GG X Z nL n ad E pc lv (.int y :: .int x :: rest) := by
  obtain ⟨hx, hb, -⟩ := C
  intro H locs ls hl hP hS
  exact lv_icmp_eq hx hb hdg ht (fun h => kt h H locs ls hl hP hS) (fun h => kf h H locs ls hl hP hS)
theorem g_if_ne (C : GC X Z cc nL Ts own rm n ad) {x : Int32} {off : Int} {tgt : Nat} (hdg : decode cc pc = .ok (.ifCond .ne off, 3)) (ht : (pc : Int) + off = (tgt : Int)) (kt : x ≠ 0 → GG X Z nL n ad E tgt lv rest) (kf : x = 0 → GG X Z nL n ad E (pc + 3) lv rest) : GG X Z nL n ad E pc lv (.int x :: rest) := by
  obtain ⟨hx, hb, -⟩ := C
  intro H locs ls hl hP hS
  exact lv_if_ne hx hb hdg ht (fun h => kt h H locs ls hl hP hS) (fun h => kf h H locs ls hl hP hS)
theorem g_icmp_ne (C : GC X Z cc nL Ts own rm n ad) {x y : Int32} {off : Int} {tgt : Nat} (hdg : decode cc pc = .ok (.if_icmp .ne off, 3)) (ht : (pc : Int) + off = (tgt : Int)) (kt : x ≠ y → GG X Z nL n ad E tgt lv rest) (kf : x = y → GG X Z nL n ad E (pc + 3) lv rest) : GG X Z nL n ad E pc lv (.int y :: .int x :: rest) := by
  obtain ⟨hx, hb, -⟩ := C
  intro H locs ls hl hP hS
  exact lv_icmp_ne hx hb hdg ht (fun h => kt h H locs ls hl hP hS) (fun h => kf h H locs ls hl hP hS)
theorem g_if_lt (C : GC X Z cc nL Ts own rm n ad) {x : Int32} {off : Int} {tgt : Nat} (hdg : decode cc pc = .ok (.ifCond .lt off, 3)) (ht : (pc : Int) + off = (tgt : Int)) (kt : x < 0 → GG X Z nL n ad E tgt lv rest) (kf : ¬ (x < 0) → GG X Z nL n ad E (pc + 3) lv rest) : GG X Z nL n ad E pc lv (.int x :: rest) := by
  obtain ⟨hx, hb, -⟩ := C
  intro H locs ls hl hP hS
  exact lv_if_lt hx hb hdg ht (fun h => kt h H locs ls hl hP hS) (fun h => kf h H locs ls hl hP hS)
theorem g_icmp_lt (C : GC X Z cc nL Ts own rm n ad) {x y : Int32} {off : Int} {tgt : Nat} (hdg : decode cc pc = .ok (.if_icmp .lt off, 3)) (ht : (pc : Int) + off = (tgt : Int)) (kt : x < y → GG X Z nL n ad E tgt lv rest) (kf : ¬ (x < y) → GG X Z nL n ad E (pc + 3) lv rest) : GG X Z nL n ad E pc lv (.int y :: .int x :: rest) := by
  obtain ⟨hx, hb, -⟩ := C
  intro H locs ls hl hP hS
  exact lv_icmp_lt hx hb hdg ht (fun h => kt h H locs ls hl hP hS) (fun h => kf h H locs ls hl hP hS)
theorem g_if_ge (C : GC X Z cc nL Ts own rm n ad) {x : Int32} {off : Int} {tgt : Nat} (hdg : decode cc pc = .ok (.ifCond .ge off, 3)) (ht : (pc : Int) + off = (tgt : Int)) (kt : 0 ≤ x → GG X Z nL n ad E tgt lv rest) (kf : ¬ (0 ≤ x) → GG X Z nL n ad E (pc + 3) lv rest) : GG X Z nL n ad E pc lv (.int x :: rest) := by
  obtain ⟨hx, hb, -⟩ := C
  intro H locs ls hl hP hS
  exact lv_if_ge hx hb hdg ht (fun h => kt h H locs ls hl hP hS) (fun h => kf h H locs ls hl hP hS)
theorem g_icmp_ge (C : GC X Z cc nL Ts own rm n ad) {x y : Int32} {off : Int} {tgt : Nat} (hdg : decode cc pc = .ok (.if_icmp .ge off, 3)) (ht : (pc : Int) + off = (tgt : Int)) (kt : y ≤ x → GG X Z nL n ad E tgt lv rest) (kf : ¬ (y ≤ x) → GG X Z nL n ad E (pc + 3) lv rest) : GG X Z nL n ad E pc lv (.int y :: .int x :: rest) := by
  obtain ⟨hx, hb, -⟩ := C
  intro H locs ls hl hP hS
  exact lv_icmp_ge hx hb hdg ht (fun h => kt h H locs ls hl hP hS) (fun h => kf h H locs ls hl hP hS)
theorem g_if_gt (C : GC X Z cc nL Ts own rm n ad) {x : Int32} {off : Int} {tgt : Nat} (hdg : decode cc pc = .ok (.ifCond .gt off, 3)) (ht : (pc : Int) + off = (tgt : Int)) (kt : 0 < x → GG X Z nL n ad E tgt lv rest) (kf : ¬ (0 < x) → GG X Z nL n ad E (pc + 3) lv rest) : GG X Z nL n ad E pc lv (.int x :: rest) := by
  obtain ⟨hx, hb, -⟩ := C
  intro H locs ls hl hP hS
  exact lv_if_gt hx hb hdg ht (fun h => kt h H locs ls hl hP hS) (fun h => kf h H locs ls hl hP hS)
theorem g_icmp_gt (C : GC X Z cc nL Ts own rm n ad) {x y : Int32} {off : Int} {tgt : Nat} (hdg : decode cc pc = .ok (.if_icmp .gt off, 3)) (ht : (pc : Int) + off = (tgt : Int)) (kt : y < x → GG X Z nL n ad E tgt lv rest) (kf : ¬ (y < x) → GG X Z nL n ad E (pc + 3) lv rest) : GG X Z nL n ad E pc lv (.int y :: .int x :: rest) := by
  obtain ⟨hx, hb, -⟩ := C
  intro H locs ls hl hP hS
  exact lv_icmp_gt hx hb hdg ht (fun h => kt h H locs ls hl hP hS) (fun h => kf h H locs ls hl hP hS)
theorem g_if_le (C : GC X Z cc nL Ts own rm n ad) {x : Int32} {off : Int} {tgt : Nat} (hdg : decode cc pc = .ok (.ifCond .le off, 3)) (ht : (pc : Int) + off = (tgt : Int)) (kt : x ≤ 0 → GG X Z nL n ad E tgt lv rest) (kf : ¬ (x ≤ 0) → GG X Z nL n ad E (pc + 3) lv rest) : GG X Z nL n ad E pc lv (.int x :: rest) := by
  obtain ⟨hx, hb, -⟩ := C
  intro H locs ls hl hP hS
  exact lv_if_le hx hb hdg ht (fun h => kt h H locs ls hl hP hS) (fun h => kf h H locs ls hl hP hS)
theorem g_icmp_le (C : GC X Z cc nL Ts own rm n ad) {x y : Int32} {off : Int} {tgt : Nat} (hdg : decode cc pc = .ok (.if_icmp .le off, 3)) (ht : (pc : Int) + off = (tgt : Int)) (kt : x ≤ y → GG X Z nL n ad E tgt lv rest) (kf : ¬ (x ≤ y) → GG X Z nL n ad E (pc + 3) lv rest) : GG X Z nL n ad E pc lv (.int y :: .int x :: rest) := by
  obtain ⟨hx, hb, -⟩ := C
  intro H locs ls hl hP hS
  exact lv_icmp_le hx hb hdg ht (fun h => kt h H locs ls hl hP hS) (fun h => kf h H locs ls hl hP hS)
theorem g_tableIn (C : GC X Z cc nL Ts own rm n ad) {dflt lo hi : Int} {offs : Array Int} {len : Nat} {x : Int32} (kv : Int32) (hxk : x = kv) {off : Int} {tgt : Nat} (hdg : decode cc pc = .ok (.tableswitch dflt lo hi offs, len)) (h1 : ¬ kv.toInt < lo) (h2 : ¬ hi < kv.toInt) (ho : offs[(kv.toInt - lo).toNat]? = some off) (ht : (pc : Int) + off = (tgt : Int)) (kk : GG X Z nL n ad E tgt lv rest) : GG X Z nL n ad E pc lv (.int x :: rest) := by
  obtain ⟨hx, hb, -⟩ := C
  intro H locs ls hl hP hS
  subst hxk
  exact lv_tableIn hx hb hdg h1 h2 ho ht (kk H locs ls hl hP hS)
theorem g_tableOut (C : GC X Z cc nL Ts own rm n ad) {dflt lo hi : Int} {offs : Array Int} {len : Nat} {x : Int32} {tgt : Nat} (hdg : decode cc pc = .ok (.tableswitch dflt lo hi offs, len)) (h : x.toInt < lo ∨ hi < x.toInt) (ht : (pc : Int) + dflt = (tgt : Int)) (kk : GG X Z nL n ad E tgt lv rest) : GG X Z nL n ad E pc lv (.int x :: rest) := by
  obtain ⟨hx, hb, -⟩ := C
  intro H locs ls hl hP hS
  exact lv_tableOut hx hb hdg h ht (kk H locs ls hl hP hS)
theorem g_lookup (C : GC X Z cc nL Ts own rm n ad) {dflt : Int} {ps : Array (Int × Int)} {len : Nat} {x : Int32} {off : Int} {tgt : Nat} (hdg : decode cc pc = .ok (.lookupswitch dflt ps, len)) (hp : (ps.toList.zip (ps.toList.drop 1)).all (fun (a, next) => a.1 < next.1) = true) (ho : Op.lookupswitch.offset ps.toList dflt x.toInt = off) (ht : (pc : Int) + off = (tgt : Int)) (kk : GG X Z nL n ad E tgt lv rest) : GG X Z nL n ad E pc lv (.int x :: rest) := by
  obtain ⟨hx, hb, -⟩ := C
  intro H locs ls hl hP hS
  exact lv_lookup hx hb hdg hp ho ht (kk H locs ls hl hP hS)
theorem g_ne {x k : Int32} {a : Int} (h : ¬ x = k) (hk : k.toInt = a) : ¬ x.toInt = a := fun e => h (Int32.toInt_inj.mp (e.trans hk.symm))
theorem gW_congr {E2 : Nat → va_E} (h : ∀ i, i < n → E2 i = E i) : gW n ad E2 = gW n ad E := by
  apply List.ext_getElem?
  intro j
  by_cases hj : j < n
  · rw [gW_get hj, gW_get hj, h j hj]
  · rw [List.getElem?_eq_none (by simpa [gW] using Nat.not_lt.mp hj), List.getElem?_eq_none (by simpa [gW] using Nat.not_lt.mp hj)]
theorem g_getf (C : GC X Z cc nL Ts own rm n ad) {ci N index : Nat} {Cn : String} {T : u_T} (q : Nat) (hq : q < n) {fs : List Value} {v : Value} (hE : E q = .inr (ci, fs)) (hc : vwCl[ci]? = some (Cn, T, N)) (hin : ∀ w ∈ u_ws Cn T N, w ∈ Ts) (k : Nat) (hk : k < N) (hlk : Cond.fieldLink own index (T k).1 (T k).2.1 (T k).2.2.1 ∈ Ts) (hv : fs[k]? = some v) (hdg : decode cc pc = .ok (.getfield index, 3)) (kk : GG X Z nL n ad E (pc + 3) lv (v :: rest)) : GG X Z nL n ad E pc lv (.ref (ad q) :: rest) := by
  obtain ⟨hx, hb, hml, hown, hts, hlo, hK, hI, hR⟩ := C
  intro H locs ls hl hP hS
  exact va_get hx hb hts hin hown hK hP q ((gW_get hq).trans (by rw [hE])) hc k hk (hts _ hlk) (fun _ h9 => h9) hv hdg (kk H locs ls hl hP hS)
theorem g_putf (C : GC X Z cc nL Ts own rm n ad) {ci N index : Nat} {Cn : String} {T : u_T} (q : Nat) (hq : q < n) {fs : List Value} {v : Value} (hE : E q = .inr (ci, fs)) (hc : vwCl[ci]? = some (Cn, T, N)) (hin : ∀ w ∈ u_ws Cn T N, w ∈ Ts) (ty0 : Nat → FieldType) (hty : ∀ k, k < N → parseFieldDescriptor (T k).2.2.1 = some (ty0 k)) (hnm : ∀ a, a < N → ∀ b, b < N → a ≠ b → (T a).2.1 ≠ (T b).2.1) (k : Nat) (hk : k < N) (hlk : Cond.fieldLink own index (T k).1 (T k).2.1 (T k).2.2.1 ∈ Ts) (hfin : (T k).2.2.2 = false) (hn : narrow (ty0 k) v = v) (hfit : fits (ty0 k) v = true) (hl1 : k < fs.length) (hdg : decode cc pc = .ok (.putfield index, 3)) (E2 : Nat → va_E) (hE2 : ∀ i, i < n → E2 i = va_up E q (.inr (ci, fs.set k v)) i) (kk : GG X Z nL n ad E2 (pc + 3) lv rest) : GG X Z nL n ad E pc lv (v :: .ref (ad q) :: rest) := by
  obtain ⟨hx, hb, hml, hown, hts, hlo, hK, hI, hR⟩ := C
  intro H locs ls hl hP hS
  refine va_put hx hb hts hin ty0 hty hnm hown hK hP (gD hI E) hS q ((gW_get hq).trans (by rw [hE])) hc k hk (hts _ hlk) (fun _ h9 => h9) hfin (hty k hk) hn hfit hl1 hdg (fun H1 locs1 hP1 _ hS1 => ?_)
  rw [gW_set hq, ← gW_congr hE2] at hP1
  exact kk H1 locs1 ls hl hP1 hS1
theorem g_iald (C : GC X Z cc nL Ts own rm n ad) (q : Nat) (hq : q < n) {len : Nat} {f : Nat → Int32} (hE : E q = .inl (Z.2.1, len, .inl f)) {i : Int32} (hin : vp_in i len) (hdg : decode cc pc = .ok (.iaload, 1)) (kk : GG X Z nL n ad E (pc + 1) lv (.int (f i.toNatClampNeg) :: rest)) : GG X Z nL n ad E pc lv (.int i :: .ref (ad q) :: rest) := by
  obtain ⟨hx, hb, hml, hown, hts, hlo, hK, hI, hR⟩ := C
  intro H locs ls hl hP hS
  exact va_iald hx hb hK hP q 0 ((gW_get hq).trans (by rw [hE])) rfl hin hdg (kk H locs ls hl hP hS)
theorem g_iast (C : GC X Z cc nL Ts own rm n ad) (q : Nat) (hq : q < n) {len : Nat} {f : Nat → Int32} (hE : E q = .inl (Z.2.1, len, .inl f)) {i x : Int32} (hin : vp_in i len) (hdg : decode cc pc = .ok (.iastore, 1)) (E2 : Nat → va_E) (hE2 : ∀ i', i' < n → E2 i' = va_up E q (.inl (Z.2.1, len, .inl (upd f i.toNatClampNeg x))) i') (kk : GG X Z nL n ad E2 (pc + 1) lv rest) : GG X Z nL n ad E pc lv (.int x :: .int i :: .ref (ad q) :: rest) := by
  obtain ⟨hx, hb, hml, hown, hts, hlo, hK, hI, hR⟩ := C
  intro H locs ls hl hP hS
  refine va_iast hx hb hK hP (gD hI E) hS q 0 ((gW_get hq).trans (by rw [hE])) rfl hin hdg (fun H1 locs1 hP1 _ hS1 => ?_)
  rw [gW_set hq, ← gW_congr hE2] at hP1
  exact kk H1 locs1 ls hl hP1 hS1
theorem g_alen (C : GC X Z cc nL Ts own rm n ad) (q : Nat) (hq : q < n) {len : Nat} {f : Nat → Int32} (hE : E q = .inl (Z.2.1, len, .inl f)) (hdg : decode cc pc = .ok (.arraylength, 1)) (kk : GG X Z nL n ad E (pc + 1) lv (.int (nI len) :: rest)) : GG X Z nL n ad E pc lv (.ref (ad q) :: rest) := by
  obtain ⟨hx, hb, hml, hown, hts, hlo, hK, hI, hR⟩ := C
  intro H locs ls hl hP hS
  exact va_alen (x := (len, .inl f)) hx hb hK hP q 0 ((gW_get hq).trans (by rw [hE])) rfl rfl hdg (kk H locs ls hl hP hS)
theorem g_mmin (C : GC X Z cc nL Ts own rm n ad) {index : Nat} (h1 : Cond.methodLink own index Lib.Math.min.name ∈ Ts) (h2 : Cond.static Lib.Math.min.name ∈ Ts) (h3 : Cond.initialized "java/lang/Math" ∈ Ts) (h4 : Cond.code Lib.Math.min.name Lib.Math.min.code 2 (some .int) ∈ Ts) (hf : 1 ≤ rm.frames) (hlc : (rest.map fun v => v.category).sum + 13 ≤ rm.locals) {x y : Int32} (hdg : decode cc pc = .ok (.invokestatic index, 3)) (kk : GG X Z nL n ad E (pc + 3) lv (.int (if y < x then y else x) :: rest)) : GG X Z nL n ad E pc lv (.int y :: .int x :: rest) := by
  obtain ⟨hx, hb, hml, hown, hts, hlo, hK, hI, hR⟩ := C
  intro H locs ls hl hP hS
  exact va_mmin hx hb (hml.trans hl.1.symm) hown (hts _ h1) (hts _ h2) (hts _ h3) (hts _ h4) (by rw [hR]; exact hf) (by rw [hR]; exact hlc) (Nat.zero_le _) (Nat.zero_le _) hdg (kk H locs ls hl hP hS)
theorem g_mmax (C : GC X Z cc nL Ts own rm n ad) {index : Nat} (h1 : Cond.methodLink own index Lib.Math.max.name ∈ Ts) (h2 : Cond.static Lib.Math.max.name ∈ Ts) (h3 : Cond.initialized "java/lang/Math" ∈ Ts) (h4 : Cond.code Lib.Math.max.name Lib.Math.max.code 2 (some .int) ∈ Ts) (hf : 1 ≤ rm.frames) (hlc : (rest.map fun v => v.category).sum + 13 ≤ rm.locals) {x y : Int32} (hdg : decode cc pc = .ok (.invokestatic index, 3)) (kk : GG X Z nL n ad E (pc + 3) lv (.int (if x < y then y else x) :: rest)) : GG X Z nL n ad E pc lv (.int y :: .int x :: rest) := by
  obtain ⟨hx, hb, hml, hown, hts, hlo, hK, hI, hR⟩ := C
  intro H locs ls hl hP hS
  exact va_mmax hx hb (hml.trans hl.1.symm) hown (hts _ h1) (hts _ h2) (hts _ h3) (hts _ h4) (by rw [hR]; exact hf) (by rw [hR]; exact hlc) (Nat.zero_le _) (Nat.zero_le _) hdg (kk H locs ls hl hP hS)
end GROWS
/-- what a world is at a state -/
def gB (Z : gZ) (n : Nat) (ad : Nat → Nat) (E : Nat → va_E) (U : State) : Prop := va_P Z.1 vwCl (gW n ad E) U.heap ∧ gK Z U
/-- the contract of a method that answers r and leaves the world E' -/
def gI (l : Launch) (y : MethodName) (ws : List Cond) (rm : Room) (Z : gZ) (n : Nat) (ad : Nat → Nat) (av : List Value) (E : Nat → va_E) (r : Int32) (E' : Nat → va_E) : Prop :=
  Met l y ws rm (va_Pc av (gB Z n ad E)) (va_Qi (fun q (_ : Unit) => q = r) (fun _ t => gB Z n ad E' t) (gA n ad)) 0 0 (gA n ad)
/-- the same, of a method that answers nothing -/
def gV (l : Launch) (y : MethodName) (ws : List Cond) (rm : Room) (Z : gZ) (n : Nat) (ad : Nat → Nat) (av : List Value) (E : Nat → va_E) (E' : Nat → va_E) : Prop :=
  Met l y ws rm (va_Pc av (gB Z n ad E)) (va_Qv (fun (_ : Unit) => True) (fun _ t => gB Z n ad E' t) (gA n ad)) 0 0 (gA n ad)
def gEI (X : gX) (Z : gZ) (n : Nat) (ad : Nat → Nat) (ty : FieldType) (r : Int32) (E' : Nat → va_E) : Prop :=
  X.2.2.2.2.2.2.2.2.1.sig.returnType = some ty ∧ X.2.2.2.2.2.2.2.2.2.2 = MQ X.2.2.2.2.2.2.2.1 (va_Qi (fun q (_ : Unit) => q = r) (fun _ t => gB Z n ad E' t) (gA n ad)) X.2.2.2.2.2.2.1 X.2.2.2.2.1 0 0 (gA n ad)
def gEV (X : gX) (Z : gZ) (n : Nat) (ad : Nat → Nat) (E' : Nat → va_E) : Prop :=
  X.2.2.2.2.2.2.2.2.1.sig.returnType = none ∧ X.2.2.2.2.2.2.2.2.2.2 = MQ X.2.2.2.2.2.2.2.1 (va_Qv (fun (_ : Unit) => True) (fun _ t => gB Z n ad E' t) (gA n ad)) X.2.2.2.2.2.2.1 X.2.2.2.2.1 0 0 (gA n ad)
section GENDS
variable {X : gX} {Z : gZ} {cc : ByteArray} {nL : Nat} {Ts : List Cond} {own : String} {rm : Room} {n : Nat} {ad : Nat → Nat} {E : Nat → va_E} {pc : Nat} {lv : List (Nat × Value)} {rest : List Value}
theorem g_iret (C : GC X Z cc nL Ts own rm n ad) {r : Int32} (e : gEI X Z n ad .int r E) (hdg : decode cc pc = .ok (.ireturn, 1)) : GG X Z nL n ad E pc lv [.int r] := by
  obtain ⟨p, l, e0, R, s, m, args, below, meth, c, Q⟩ := X
  obtain ⟨hx, hb, hml, hown, hts, hlo, hK, hI, hR⟩ := C
  obtain ⟨hr, hQ⟩ := e
  dsimp only at hx hb hml hown hts hlo hK hI hR hr hQ
  intro H locs ls hl hP hS
  dsimp only at hS ⊢
  rw [hQ]
  exact W.iret hx hb hr (fun t ht hW => ⟨⟨r, (), rfl, rfl, by rw [ht]; exact hP, va_K.moved hW.alike hK⟩, hS.F ht⟩) hS.2.2 hdg hlo
theorem g_zret (C : GC X Z cc nL Ts own rm n ad) {r : Int32} (e : gEI X Z n ad .boolean r E) (hz : narrow .boolean (.int r) = .int r) (hdg : decode cc pc = .ok (.ireturn, 1)) : GG X Z nL n ad E pc lv [.int r] := by
  obtain ⟨p, l, e0, R, s, m, args, below, meth, c, Q⟩ := X
  obtain ⟨hx, hb, hml, hown, hts, hlo, hK, hI, hR⟩ := C
  obtain ⟨hr, hQ⟩ := e
  dsimp only at hx hb hml hown hts hlo hK hI hR hr hQ
  intro H locs ls hl hP hS
  dsimp only at hS ⊢
  rw [hQ]
  exact W.zret hx hb hr hz (fun t ht hW => ⟨⟨r, (), rfl, rfl, by rw [ht]; exact hP, va_K.moved hW.alike hK⟩, hS.F ht⟩) hS.2.2 hdg hlo
theorem g_vret (C : GC X Z cc nL Ts own rm n ad) (e : gEV X Z n ad E) (hdg : decode cc pc = .ok (.return_, 1)) : GG X Z nL n ad E pc lv [] := by
  obtain ⟨p, l, e0, R, s, m, args, below, meth, c, Q⟩ := X
  obtain ⟨hx, hb, hml, hown, hts, hlo, hK, hI, hR⟩ := C
  obtain ⟨hr, hQ⟩ := e
  dsimp only at hx hb hml hown hts hlo hK hI hR hr hQ
  intro H locs ls hl hP hS
  dsimp only at hS ⊢
  rw [hQ]
  exact W.vret hx hb hr (fun t ht hW => ⟨⟨(), rfl, trivial, by rw [ht]; exact hP, va_K.moved hW.alike hK⟩, hS.F ht⟩) hS.2.2 hdg hlo
theorem g_b01 {r : Int32} (h : r = 0 ∨ r = 1) : narrow .boolean (.int r) = .int r := by
  rcases h with rfl | rfl <;> rfl
end GENDS
theorem g_entryI {l : Launch} {y : MethodName} {ws ws' : List Cond} {rm : Room} {cc : ByteArray} {maxL : Nat} {ty : FieldType} (hy : plainName y.cls = true) (hw : ws = Cond.code y cc maxL (some ty) :: ws') {Z : gZ} {n : Nat} {ad : Nat → Nat} (hI : gInj n ad) {av : List Value} (hav : (lg_sl av).length ≤ maxL) {E : Nat → va_E} {r : Int32} {E' : Nat → va_E} (body : ∀ X : gX, GC X Z cc maxL ws y.cls rm n ad → gEI X Z n ad ty r E' → GG X Z maxL n ad E 0 (lv_args 0 av) []) : gI l y ws rm Z n ad av E r E' := by
  refine Met.ofW hy hw ?_
  intro p e s m args below meth c s₁ B hml hv
  obtain ⟨rfl, hP, hK⟩ := hv
  have hb := body (p, l, e, (headSpec ws rm).room, s, m, av.toArray, below, meth, c, MQ below (va_Qi (fun q (_ : Unit) => q = r) (fun _ t => gB Z n ad E' t) (gA n ad)) av.toArray s 0 0 (gA n ad)) ⟨B.exec, B.bytes, hml, findClass_of_methodNamed B.named, atoms_spec (ws := ws) B.pre, B.notSynchronized, hK, hI, rfl⟩ ⟨B.returns, rfl⟩
  rw [lg_entry_eq]
  exact hb s.heap [] _ (lv_entry av (n := maxL) hav) hP va_S.rf
theorem g_entryV {l : Launch} {y : MethodName} {ws ws' : List Cond} {rm : Room} {cc : ByteArray} {maxL : Nat} (hy : plainName y.cls = true) (hw : ws = Cond.code y cc maxL none :: ws') {Z : gZ} {n : Nat} {ad : Nat → Nat} (hI : gInj n ad) {av : List Value} (hav : (lg_sl av).length ≤ maxL) {E : Nat → va_E} {E' : Nat → va_E} (body : ∀ X : gX, GC X Z cc maxL ws y.cls rm n ad → gEV X Z n ad E' → GG X Z maxL n ad E 0 (lv_args 0 av) []) : gV l y ws rm Z n ad av E E' := by
  refine Met.ofW hy hw ?_
  intro p e s m args below meth c s₁ B hml hv
  obtain ⟨rfl, hP, hK⟩ := hv
  have hb := body (p, l, e, (headSpec ws rm).room, s, m, av.toArray, below, meth, c, MQ below (va_Qv (fun (_ : Unit) => True) (fun _ t => gB Z n ad E' t) (gA n ad)) av.toArray s 0 0 (gA n ad)) ⟨B.exec, B.bytes, hml, findClass_of_methodNamed B.named, atoms_spec (ws := ws) B.pre, B.notSynchronized, hK, hI, rfl⟩ ⟨B.returns, rfl⟩
  rw [lg_entry_eq]
  exact hb s.heap [] _ (lv_entry av (n := maxL) hav) hP va_S.rf
/-- what a call needs of the called method's name, decided by program -/
def gOk (y : MethodName) (Cn : String) (na : Nat) : Prop := y.cls = Cn ∧ y.cls ≠ "java/lang/invoke/MethodHandle" ∧ y.cls ≠ "java/lang/invoke/VarHandle" ∧ (parseMethodDescriptor y.desc).map (fun d => d.parameters.length) = some na
section GCALLS
variable {X : gX} {Z : gZ} {cc : ByteArray} {nL : Nat} {Ts : List Cond} {own : String} {rm : Room} {n : Nat} {ad : Nat → Nat} {E : Nat → va_E} {pc : Nat} {lv : List (Nat × Value)} {rest st : List Value}
theorem gB_blind {av : List Value} {m : Nat} {adc : Nat → Nat} {Ec : Nat → va_E} : FrameBlind (va_Pc av (gB Z m adc Ec)) := fun a U g mk q => ⟨q.1, q.2.1, va_K.moved (u := U) (U := U.calling g mk a) (Vm.Alike.refl U.vm) q.2.2⟩
/-- the callee's part of a world -/
theorem gP_sub {D : va_G} {o m : Nat} (hom : o + m ≤ n) {adc : Nat → Nat} (hadc : ∀ i, i < m → adc i = ad (o + i)) {Ec : Nat → va_E} (hEc : ∀ i, i < m → Ec i = E (o + i)) {H : Heap} (hP : va_P D vwCl (gW n ad E) H) : va_P D vwCl (gW m adc Ec) H := by
  intro k q hk
  obtain ⟨hk', rfl⟩ := gW_inv hk
  have h1 := hP (o + k) _ (gW_get (Nat.lt_of_lt_of_le (Nat.add_lt_add_left hk' o) hom))
  rw [hadc k hk', hEc k hk']
  exact h1
theorem gInj_sub {o m : Nat} (hom : o + m ≤ n) {adc : Nat → Nat} (hadc : ∀ i, i < m → adc i = ad (o + i)) (hI : gInj n ad) : gInj m adc := by
  intro i j hi hj e
  rw [hadc i hi, hadc j hj] at e
  have := hI _ _ (by omega) (by omega) e
  omega
/-- and back: the rest of the world is as it was -/
theorem gP_join {D : va_G} {o m : Nat} (hom : o + m ≤ n) {adc : Nat → Nat} (hadc : ∀ i, i < m → adc i = ad (o + i)) {Ec' E2 : Nat → va_E} (hE2 : ∀ i, i < n → E2 i = if o ≤ i ∧ i < o + m then Ec' (i - o) else E i) (hI : gInj n ad) {H H1 : Heap} (hP : va_P D vwCl (gW n ad E) H) (hP1 : va_P D vwCl (gW m adc Ec') H1) (hk1 : ∀ q : Nat, q < H.size → ¬ gA m adc q → H1[q]? = H[q]?) : va_P D vwCl (gW n ad E2) H1 := by
  intro k q hk
  obtain ⟨hk', rfl⟩ := gW_inv hk
  rw [hE2 k hk']
  by_cases hin : o ≤ k ∧ k < o + m
  · rw [if_pos hin]
    have h1 := hP1 (k - o) _ (gW_get (by omega))
    rw [hadc (k - o) (by omega), show o + (k - o) = k by omega] at h1
    exact h1
  · rw [if_neg hin]
    have h0 := hP k _ (gW_get hk')
    refine h0.kept (hk1 (ad k) h0.lt ?_)
    rintro ⟨i, hi, e⟩
    rw [hadc i hi] at e
    have := hI _ _ (by omega) hk' e
    omega
theorem gA_sub {o m : Nat} (hom : o + m ≤ n) {adc : Nat → Nat} (hadc : ∀ i, i < m → adc i = ad (o + i)) (q : Nat) (h : gA m adc q) : gA n ad q := by
  obtain ⟨i, hi, rfl⟩ := h
  exact ⟨o + i, by omega, (hadc i hi).symm⟩
theorem g_callVi (C : GC X Z cc nL Ts own rm n ad) {y : MethodName} {Cn : String} {index na maxL : Nat} {bytes : ByteArray} {ty : FieldType} {ws ws' : List Cond} {rm' : Room} (hg : GoodIn Ts (wsV own index Cn y ws)) (hw : ws = Cond.code y bytes maxL (some ty) :: ws') (hd : gOk y Cn na) (hR : rm'.frames + 1 ≤ rm.frames ∧ 8 + (maxL + 11) + rm'.locals ≤ rm.locals) (h0 : rm'.cells = 0 ∧ rm'.slots = 0) (o m : Nat) (hom : o + m ≤ n) {adc : Nat → Nat} (hadc : ∀ i, i < m → adc i = ad (o + i)) {Ec Ec' : Nat → va_E} (hEc : ∀ i, i < m → Ec i = E (o + i)) (b : Nat) (hb : b < m) {ci N : Nat} {T : u_T} {fs : List Value} (hrec : Ec b = .inr (ci, fs)) (hcl : vwCl[ci]? = some (Cn, T, N)) {As : List Value} {r : Int32} (hM : gInj m adc → gI X.2.1 y ws rm' Z m adc (.ref (adc b) :: As) Ec r Ec') (hn : As.length = na) (hdg : decode cc pc = .ok (.invokevirtual index, 3)) (hst : st = As.reverse ++ .ref (adc b) :: rest) (hcat : (rest.map fun v => v.category).sum ≤ 8) (E2 : Nat → va_E) (hE2 : ∀ i, i < n → E2 i = if o ≤ i ∧ i < o + m then Ec' (i - o) else E i) (kk : GG X Z nL n ad E2 (pc + 3) lv (.int r :: rest)) : GG X Z nL n ad E pc lv st := by
  obtain ⟨p, l, e0, R, s, mm, args, below, meth, c, Q⟩ := X
  obtain ⟨hx, hbb, hml, hown, hts, hlo, hK, hI, hRm⟩ := C
  dsimp only at hx hbb hml hown hts hlo hK hI hRm hM kk
  intro H locs ls hl hP hS
  dsimp only at hS ⊢
  subst hRm
  have hPc := gP_sub hom hadc hEc hP
  refine va_calli (va_runV (As := As) (rest := rest) ⟨hx, hbb, hml, hown, hts⟩ (hM (gInj_sub hom hadc hI)) (cwV na hts hg hw h0.1 h0.2 hd hR) ⟨gB_blind, va_recv hK hPc hcl ((gW_get hb).trans (by rw [hrec])), fun U hU hW => ⟨rfl, by rw [hU]; exact hPc, va_K.moved hW.alike hK⟩⟩ rfl hn hl.1 hst (lv_room hcat) hdg ⟨Nat.zero_le _, Nat.zero_le _⟩) hS (fun q _ h => gA_sub hom hadc q h) (gA_sub hom hadc) (fun r' u t H1 locs1 ht hvm hq hB hz1 hk1 hS1 => ?_)
  cases hq
  have hP1 := hB.1
  rw [ht] at hP1
  exact kk H1 locs1 ls hl (gP_join hom hadc hE2 hI hP hP1 hk1) hS1
theorem g_callVv (C : GC X Z cc nL Ts own rm n ad) {y : MethodName} {Cn : String} {index na maxL : Nat} {bytes : ByteArray} {ws ws' : List Cond} {rm' : Room} (hg : GoodIn Ts (wsV own index Cn y ws)) (hw : ws = Cond.code y bytes maxL none :: ws') (hd : gOk y Cn na) (hR : rm'.frames + 1 ≤ rm.frames ∧ 8 + (maxL + 11) + rm'.locals ≤ rm.locals) (h0 : rm'.cells = 0 ∧ rm'.slots = 0) (o m : Nat) (hom : o + m ≤ n) {adc : Nat → Nat} (hadc : ∀ i, i < m → adc i = ad (o + i)) {Ec Ec' : Nat → va_E} (hEc : ∀ i, i < m → Ec i = E (o + i)) (b : Nat) (hb : b < m) {ci N : Nat} {T : u_T} {fs : List Value} (hrec : Ec b = .inr (ci, fs)) (hcl : vwCl[ci]? = some (Cn, T, N)) {As : List Value} (hM : gInj m adc → gV X.2.1 y ws rm' Z m adc (.ref (adc b) :: As) Ec Ec') (hn : As.length = na) (hdg : decode cc pc = .ok (.invokevirtual index, 3)) (hst : st = As.reverse ++ .ref (adc b) :: rest) (hcat : (rest.map fun v => v.category).sum ≤ 8) (E2 : Nat → va_E) (hE2 : ∀ i, i < n → E2 i = if o ≤ i ∧ i < o + m then Ec' (i - o) else E i) (kk : GG X Z nL n ad E2 (pc + 3) lv rest) : GG X Z nL n ad E pc lv st := by
  obtain ⟨p, l, e0, R, s, mm, args, below, meth, c, Q⟩ := X
  obtain ⟨hx, hbb, hml, hown, hts, hlo, hK, hI, hRm⟩ := C
  dsimp only at hx hbb hml hown hts hlo hK hI hRm hM kk
  intro H locs ls hl hP hS
  dsimp only at hS ⊢
  subst hRm
  have hPc := gP_sub hom hadc hEc hP
  refine va_callv (va_runV (As := As) (rest := rest) ⟨hx, hbb, hml, hown, hts⟩ (hM (gInj_sub hom hadc hI)) (cwV na hts hg hw h0.1 h0.2 hd hR) ⟨gB_blind, va_recv hK hPc hcl ((gW_get hb).trans (by rw [hrec])), fun U hU hW => ⟨rfl, by rw [hU]; exact hPc, va_K.moved hW.alike hK⟩⟩ rfl hn hl.1 hst (lv_room hcat) hdg ⟨Nat.zero_le _, Nat.zero_le _⟩) hS (fun q _ h => gA_sub hom hadc q h) (gA_sub hom hadc) (fun u t H1 locs1 ht hvm hq hB hz1 hk1 hS1 => ?_)
  have hP1 := hB.1
  rw [ht] at hP1
  exact kk H1 locs1 ls hl (gP_join hom hadc hE2 hI hP hP1 hk1) hS1
/-- a call over the whole world -/
theorem g_callWi (C : GC X Z cc nL Ts own rm n ad) {y : MethodName} {Cn : String} {index na maxL : Nat} {bytes : ByteArray} {ty : FieldType} {ws ws' : List Cond} {rm' : Room} (hg : GoodIn Ts (wsV own index Cn y ws)) (hw : ws = Cond.code y bytes maxL (some ty) :: ws') (hd : gOk y Cn na) (hR : rm'.frames + 1 ≤ rm.frames ∧ 8 + (maxL + 11) + rm'.locals ≤ rm.locals) (h0 : rm'.cells = 0 ∧ rm'.slots = 0) (b : Nat) (hb : b < n) {ci N : Nat} {T : u_T} {fs : List Value} (hrec : E b = .inr (ci, fs)) (hcl : vwCl[ci]? = some (Cn, T, N)) {As : List Value} {r : Int32} {E2 : Nat → va_E} (hM : gInj n ad → gI X.2.1 y ws rm' Z n ad (.ref (ad b) :: As) E r E2) (hn : As.length = na) (hdg : decode cc pc = .ok (.invokevirtual index, 3)) (hst : st = As.reverse ++ .ref (ad b) :: rest) (hcat : (rest.map fun v => v.category).sum ≤ 8) (kk : GG X Z nL n ad E2 (pc + 3) lv (.int r :: rest)) : GG X Z nL n ad E pc lv st :=
  g_callVi C hg hw hd hR h0 0 n (by omega) (adc := ad) (fun i _ => by rw [Nat.zero_add]) (Ec := E) (fun i _ => by rw [Nat.zero_add]) b hb hrec hcl hM hn hdg hst hcat E2 (fun i hi => by rw [if_pos ⟨Nat.zero_le _, by omega⟩, Nat.sub_zero]) kk
theorem g_callWv (C : GC X Z cc nL Ts own rm n ad) {y : MethodName} {Cn : String} {index na maxL : Nat} {bytes : ByteArray} {ws ws' : List Cond} {rm' : Room} (hg : GoodIn Ts (wsV own index Cn y ws)) (hw : ws = Cond.code y bytes maxL none :: ws') (hd : gOk y Cn na) (hR : rm'.frames + 1 ≤ rm.frames ∧ 8 + (maxL + 11) + rm'.locals ≤ rm.locals) (h0 : rm'.cells = 0 ∧ rm'.slots = 0) (b : Nat) (hb : b < n) {ci N : Nat} {T : u_T} {fs : List Value} (hrec : E b = .inr (ci, fs)) (hcl : vwCl[ci]? = some (Cn, T, N)) {As : List Value} {E2 : Nat → va_E} (hM : gInj n ad → gV X.2.1 y ws rm' Z n ad (.ref (ad b) :: As) E E2) (hn : As.length = na) (hdg : decode cc pc = .ok (.invokevirtual index, 3)) (hst : st = As.reverse ++ .ref (ad b) :: rest) (hcat : (rest.map fun v => v.category).sum ≤ 8) (kk : GG X Z nL n ad E2 (pc + 3) lv rest) : GG X Z nL n ad E pc lv st :=
  g_callVv C hg hw hd hR h0 0 n (by omega) (adc := ad) (fun i _ => by rw [Nat.zero_add]) (Ec := E) (fun i _ => by rw [Nat.zero_add]) b hb hrec hcl hM hn hdg hst hcat E2 (fun i hi => by rw [if_pos ⟨Nat.zero_le _, by omega⟩, Nat.sub_zero]) kk
/-- the empty world, of the static methods -/
def g0E : Nat → va_E := fun _ => .inr (0, [])
theorem g_callSi (C : GC X Z cc nL Ts own rm n ad) {y : MethodName} {index na maxL : Nat} {bytes : ByteArray} {ty : FieldType} {ws ws' : List Cond} {rm' : Room} (hg : GoodIn Ts (va_wsS own index y ws)) (hw : ws = Cond.code y bytes maxL (some ty) :: ws') (hd : gOk y own na) (hR : rm'.frames + 1 ≤ rm.frames ∧ 8 + (maxL + 11) + rm'.locals ≤ rm.locals) (h0 : rm'.cells = 0 ∧ rm'.slots = 0) {As : List Value} {r : Int32} (hM : gI X.2.1 y ws rm' Z 0 id As g0E r g0E) (hn : As.length = na) (hdg : decode cc pc = .ok (.invokestatic index, 3)) (hst : st = As.reverse ++ rest) (hcat : (rest.map fun v => v.category).sum ≤ 8) (kk : GG X Z nL n ad E (pc + 3) lv (.int r :: rest)) : GG X Z nL n ad E pc lv st := by
  obtain ⟨p, l, e0, R, s, mm, args, below, meth, c, Q⟩ := X
  obtain ⟨hx, hbb, hml, hown, hts, hlo, hK, hI, hRm⟩ := C
  dsimp only at hx hbb hml hown hts hlo hK hI hRm hM kk
  intro H locs ls hl hP hS
  dsimp only at hS ⊢
  subst hRm
  have hPc : va_P Z.1 vwCl (gW 0 id g0E) H := fun k q hk => by obtain ⟨h, -⟩ := gW_inv hk; omega
  refine va_calli (va_runS (As := As) (rest := rest) ⟨hx, hbb, hml, hown, hts⟩ hM (va_cwS na hts hg hw h0.1 h0.2 hd.2 hR) ⟨gB_blind, fun U hU hW => ⟨rfl, by rw [hU]; exact hPc, va_K.moved hW.alike hK⟩⟩ rfl hn hl.1 hst (lv_room hcat) hdg ⟨Nat.zero_le _, Nat.zero_le _⟩) hS (fun q _ h => by obtain ⟨i, hi, -⟩ := h; omega) (fun q h => by obtain ⟨i, hi, -⟩ := h; omega) (fun r' u t H1 locs1 ht hvm hq hB hz1 hk1 hS1 => ?_)
  cases hq
  have hP1 : va_P Z.1 vwCl (gW n ad E) H1 := by
    intro k q hk
    have h0 := hP k q hk
    exact h0.kept (hk1 q.1 h0.lt (by rintro ⟨i, hi, -⟩; omega))
  exact kk H1 locs1 ls hl hP1 hS1
end GCALLS
end
section
/-! WORLDS: what the cells of each kind of world hold; the steps of the pure functions. -/
def glet {α β : Type} (a : α) (f : α → β) : β := f a
theorem gl {α β : Type} {a : α} {f : α → β} {x : β} (h : glet a f = x) : ∃ v, v = a ∧ f v = x := ⟨a, rfl, h⟩
theorem gi_pos {α : Type} {c : Prop} {i : Decidable c} {a b x : α} (hc : c) (h : @ite α c i a b = x) : a = x := (if_pos hc).symm.trans h
theorem gi_neg {α : Type} {c : Prop} {i : Decidable c} {a b x : α} (hc : ¬ c) (h : @ite α c i a b = x) : b = x := (if_neg hc).symm.trans h
theorem gguard {α : Type} {c : Prop} {i : Decidable c} {a : Option α} {x : α} (h : @ite (Option α) c i a none = some x) : c ∧ a = some x := by
  by_cases hc : c
  · rw [if_pos hc] at h; exact ⟨hc, h⟩
  · rw [if_neg hc] at h; cases h
def gb {α β : Type} (o : Option α) (f : α → Option β) : Option β := match o with
  | none => none
  | some v => f v
theorem gb1 {α β : Type} {o : Option α} {f : α → Option β} {x : β} (h : gb o f = some x) : ∃ v, o = some v ∧ f v = some x := by
  cases o with
  | none => cases h
  | some v => exact ⟨v, rfl, h⟩
def gbb2 {α1 α2 β : Type} (o : Option (α1 × α2)) (f : α1 → α2 → Option β) : Option β := gb o (fun v => f v.1 v.2)
theorem gb2 {α1 α2 β : Type} {o : Option (α1 × α2)} {f : α1 → α2 → Option β} {x : β} (h : gbb2 o f = some x) : ∃ a b, o = some (a, b) ∧ f a b = some x := by
  obtain ⟨v, h1, h2⟩ := gb1 h
  exact ⟨v.1, v.2, h1, h2⟩
def gbb3 {α1 α2 α3 β : Type} (o : Option (α1 × α2 × α3)) (f : α1 → α2 → α3 → Option β) : Option β := gb o (fun v => f v.1 v.2.1 v.2.2)
theorem gb3 {α1 α2 α3 β : Type} {o : Option (α1 × α2 × α3)} {f : α1 → α2 → α3 → Option β} {x : β} (h : gbb3 o f = some x) : ∃ a b c, o = some (a, b, c) ∧ f a b c = some x := by
  obtain ⟨v, h1, h2⟩ := gb1 h
  exact ⟨v.1, v.2.1, v.2.2, h1, h2⟩
def gbb4 {α1 α2 α3 α4 β : Type} (o : Option (α1 × α2 × α3 × α4)) (f : α1 → α2 → α3 → α4 → Option β) : Option β := gb o (fun v => f v.1 v.2.1 v.2.2.1 v.2.2.2)
theorem gb4 {α1 α2 α3 α4 β : Type} {o : Option (α1 × α2 × α3 × α4)} {f : α1 → α2 → α3 → α4 → Option β} {x : β} (h : gbb4 o f = some x) : ∃ a b c d, o = some (a, b, c, d) ∧ f a b c d = some x := by
  obtain ⟨v, h1, h2⟩ := gb1 h
  exact ⟨v.1, v.2.1, v.2.2.1, v.2.2.2, h1, h2⟩
def gFu : Nat := 1000
theorem g_in {i : Int32} {n : Nat} (h : 0 ≤ i ∧ i.toNatClampNeg < n) : vp_in i n := by
  rintro (h1 | h1)
  · exact absurd h.1 (Int32.not_le.mpr h1)
  · exact absurd h.2 (Nat.not_lt.mpr h1)
theorem g_sub {X : gX} {Z : gZ} {nL n : Nat} {ad : Nat → Nat} {E : Nat → va_E} {pc : Nat} {lv lv' : List (Nat × Value)} {st : List Value} (ks : List Nat) (h : lv_pick lv ks = lv') (kk : GG X Z nL n ad E pc lv' st) : GG X Z nL n ad E pc lv st :=
  fun H locs ls hl hP hS => kk H locs ls (lv_sub hl ks h) hP hS
theorem g_tableAny {X : gX} {Z : gZ} {cc : ByteArray} {nL : Nat} {Ts : List Cond} {own : String} {rm : Room} {n : Nat} {ad : Nat → Nat} {E : Nat → va_E} {pc : Nat} {lv : List (Nat × Value)} {rest : List Value} (C : GC X Z cc nL Ts own rm n ad) {dflt lo hi : Int} {offs : Array Int} {len : Nat} {x : Int32} {tgt : Nat} (hdg : decode cc pc = .ok (.tableswitch dflt lo hi offs, len)) (h : (x.toInt < lo ∨ hi < x.toInt) ∨ (¬ x.toInt < lo ∧ ¬ hi < x.toInt ∧ offs[(x.toInt - lo).toNat]? = some dflt)) (ht : (pc : Int) + dflt = (tgt : Int)) (kk : GG X Z nL n ad E tgt lv rest) : GG X Z nL n ad E pc lv (.int x :: rest) := by
  rcases h with h | ⟨h1, h2, h3⟩
  · exact g_tableOut C hdg h ht kk
  · obtain ⟨hx, hb, -⟩ := C
    intro H locs ls hl hP hS
    exact lv_tableIn hx hb hdg h1 h2 h3 ht (kk H locs ls hl hP hS)
/-- a world may be told otherwise where the cells are the same -/
theorem gB_ext {Z : gZ} {n : Nat} {ad : Nat → Nat} {E E2 : Nat → va_E} {H : Heap} (h : ∀ i, i < n → va_at Z.1 vwCl (ad i, E i) H → va_at Z.1 vwCl (ad i, E2 i) H) (hP : va_P Z.1 vwCl (gW n ad E) H) : va_P Z.1 vwCl (gW n ad E2) H := by
  intro k q hk
  obtain ⟨hk', rfl⟩ := gW_inv hk
  exact h k hk' (hP k _ (gW_get hk'))
-- a row: the object, its array of n numbers
def rowE (cI : ClassId) (ad : Nat → Nat) (n : Nat) (f : Nat → Int32) : Nat → va_E := fun i => if i = 0 then .inr (3, [.ref (ad 1)]) else .inl (cI, n, .inl f)
theorem rowE_st {cI : ClassId} {ad : Nat → Nat} {n : Nat} {f f2 : Nat → Int32} : ∀ i, i < 2 → rowE cI ad n f2 i = va_up (rowE cI ad n f) 1 (.inl (cI, n, .inl f2)) i := by
  intro i hi
  rcases (show i = 0 ∨ i = 1 by omega) with rfl | rfl <;> rfl
-- a disk: the object, then ten rows
def rl (k : Nat) : Nat := if k < 3 then 64 else if k < 8 then 8 else if k = 8 then 2 else 4
def dskE (cI : ClassId) (ad : Nat → Nat) (d : Nat → Nat → Int32) : Nat → va_E := fun i =>
  if i = 0 then .inr (0, [.ref (ad 1), .ref (ad 3), .ref (ad 5), .ref (ad 7), .ref (ad 9), .ref (ad 11), .ref (ad 13), .ref (ad 15), .ref (ad 17), .ref (ad 19)])
  else if i % 2 = 1 then .inr (3, [.ref (ad (i + 1))]) else .inl (cI, rl ((i - 2) / 2), .inl (d ((i - 2) / 2)))
theorem dskE_row {cI : ClassId} {ad : Nat → Nat} {d : Nat → Nat → Int32} (k : Nat) {o len : Nat} (h : k < 10 ∧ o = 2 * k + 1 ∧ len = rl k) : ∀ i, i < 2 → rowE cI (fun i => ad (o + i)) len (d k) i = dskE cI ad d (o + i) := by
  intro i hi
  obtain ⟨hk, rfl, rfl⟩ := h
  rcases (show i = 0 ∨ i = 1 by omega) with rfl | rfl
  · simp only [rowE, dskE, Nat.add_zero, if_true]
    rw [if_neg (by omega), if_pos (by omega)]
  · simp only [rowE, dskE]
    rw [if_neg (by omega), if_neg (by omega), if_neg (by omega), show (2 * k + 1 + 1 - 2) / 2 = k by omega]
theorem dskE_up {cI : ClassId} {ad : Nat → Nat} {d : Nat → Nat → Int32} (k : Nat) {o len : Nat} {w : Nat → Int32} (h : k < 10 ∧ o = 2 * k + 1 ∧ len = rl k) : ∀ i, i < 21 → dskE cI ad (va_up d k w) i = if o ≤ i ∧ i < o + 2 then rowE cI (fun i => ad (o + i)) len w (i - o) else dskE cI ad d i := by
  intro i hi
  obtain ⟨hk, rfl, rfl⟩ := h
  by_cases h0 : 2 * k + 1 ≤ i ∧ i < 2 * k + 1 + 2
  · rw [if_pos h0]
    rcases (show i = 2 * k + 1 ∨ i = 2 * k + 2 by omega) with rfl | rfl
    · simp only [dskE, rowE]
      rw [if_neg (by omega), if_pos (by omega), if_pos (by omega)]
    · simp only [dskE, rowE]
      rw [if_neg (by omega), if_neg (by omega), if_neg (by omega), show (2 * k + 2 - 2) / 2 = k by omega]
      simp [va_up]
  · rw [if_neg h0]
    simp only [dskE]
    by_cases h1 : i = 0
    · rw [if_pos h1, if_pos h1]
    · rw [if_neg h1, if_neg h1]
      by_cases h2 : i % 2 = 1
      · rw [if_pos h2, if_pos h2]
      · rw [if_neg h2, if_neg h2]
        have : (i - 2) / 2 ≠ k := by omega
        simp [va_up, this]
theorem dskE_id {cI : ClassId} {ad : Nat → Nat} {d : Nat → Nat → Int32} (k : Nat) {o len : Nat} (h : k < 10 ∧ o = 2 * k + 1 ∧ len = rl k) : ∀ i, i < 21 → dskE cI ad d i = if o ≤ i ∧ i < o + 2 then rowE cI (fun i => ad (o + i)) len (d k) (i - o) else dskE cI ad d i := by
  intro i hi
  have h1 := dskE_up (cI := cI) (ad := ad) (d := d) (w := d k) k h i hi
  rw [← h1]
  have : va_up d k (d k) = d := by funext j; by_cases hj : j = k <;> simp [va_up, hj]
  rw [this]
-- the reader of orders
def ordE (g : Nat → Int32) : Nat → va_E := fun _ => .inr (2, [.int (g 0), .int (g 1), .int (g 2), .int (g 3), .int (g 4)])
theorem ordE_g0 {g : Nat → Int32} {x : Int32} : ∀ i, i < 1 → ordE (upd g 0 x) i = va_up (ordE g) 0 (.inr (2, [Value.int x, .int (g 1), .int (g 2), .int (g 3), .int (g 4)])) i := by
  intro i hi; obtain rfl : i = 0 := by omega
  rfl
theorem ordE_g1 {g : Nat → Int32} {x : Int32} : ∀ i, i < 1 → ordE (upd g 1 x) i = va_up (ordE g) 0 (.inr (2, [Value.int (g 0), .int x, .int (g 2), .int (g 3), .int (g 4)])) i := by
  intro i hi; obtain rfl : i = 0 := by omega
  rfl
theorem ordE_g2 {g : Nat → Int32} {x : Int32} : ∀ i, i < 1 → ordE (upd g 2 x) i = va_up (ordE g) 0 (.inr (2, [Value.int (g 0), .int (g 1), .int x, .int (g 3), .int (g 4)])) i := by
  intro i hi; obtain rfl : i = 0 := by omega
  rfl
theorem ordE_g3 {g : Nat → Int32} {x : Int32} : ∀ i, i < 1 → ordE (upd g 3 x) i = va_up (ordE g) 0 (.inr (2, [Value.int (g 0), .int (g 1), .int (g 2), .int x, .int (g 4)])) i := by
  intro i hi; obtain rfl : i = 0 := by omega
  rfl
theorem ordE_g4 {g : Nat → Int32} {x : Int32} : ∀ i, i < 1 → ordE (upd g 4 x) i = va_up (ordE g) 0 (.inr (2, [Value.int (g 0), .int (g 1), .int (g 2), .int (g 3), .int x])) i := by
  intro i hi; obtain rfl : i = 0 := by omega
  rfl
-- the script, its row, its characters, the reader
def scrE (cI : ClassId) (ad : Nat → Nat) (cs : Nat → Int32) (len : Int32) (g : Nat → Int32) : Nat → va_E := fun i =>
  if i = 0 then .inr (4, [.ref (ad 1), .int len]) else if i = 1 then .inr (3, [.ref (ad 2)]) else if i = 2 then .inl (cI, 80, .inl cs) else ordE g 0
theorem scrE_len {cI : ClassId} {ad : Nat → Nat} {cs g : Nat → Int32} {len x : Int32} : ∀ i, i < 4 → scrE cI ad cs x g i = va_up (scrE cI ad cs len g) 0 (.inr (4, [.ref (ad 1), .int x])) i := by
  intro i hi
  rcases (show i = 0 ∨ i = 1 ∨ i = 2 ∨ i = 3 by omega) with rfl | rfl | rfl | rfl <;> rfl
theorem scrE_row {cI : ClassId} {ad : Nat → Nat} {cs g : Nat → Int32} {len : Int32} : ∀ i, i < 2 → rowE cI (fun i => ad (1 + i)) 80 cs i = scrE cI ad cs len g (1 + i) := by
  intro i hi
  rcases (show i = 0 ∨ i = 1 by omega) with rfl | rfl <;> rfl
theorem scrE_up {cI : ClassId} {ad : Nat → Nat} {cs g w : Nat → Int32} {len : Int32} : ∀ i, i < 4 → scrE cI ad w len g i = if 1 ≤ i ∧ i < 1 + 2 then rowE cI (fun i => ad (1 + i)) 80 w (i - 1) else scrE cI ad cs len g i := by
  intro i hi
  rcases (show i = 0 ∨ i = 1 ∨ i = 2 ∨ i = 3 by omega) with rfl | rfl | rfl | rfl <;> rfl
theorem scrE_id {cI : ClassId} {ad : Nat → Nat} {cs g : Nat → Int32} {len : Int32} : ∀ i, i < 4 → scrE cI ad cs len g i = if 1 ≤ i ∧ i < 1 + 2 then rowE cI (fun i => ad (1 + i)) 80 cs (i - 1) else scrE cI ad cs len g i := scrE_up
theorem scrE_ord {cI : ClassId} {ad : Nat → Nat} {cs g : Nat → Int32} {len : Int32} : ∀ i, i < 1 → ordE g i = scrE cI ad cs len g (3 + i) := by
  intro i hi; obtain rfl : i = 0 := by omega
  rfl
theorem scrE_gup {cI : ClassId} {ad : Nat → Nat} {cs g w : Nat → Int32} {len : Int32} : ∀ i, i < 4 → scrE cI ad cs len w i = if 3 ≤ i ∧ i < 3 + 1 then ordE w (i - 3) else scrE cI ad cs len g i := by
  intro i hi
  rcases (show i = 0 ∨ i = 1 ∨ i = 2 ∨ i = 3 by omega) with rfl | rfl | rfl | rfl <;> rfl
theorem scrE_gid {cI : ClassId} {ad : Nat → Nat} {cs g : Nat → Int32} {len : Int32} : ∀ i, i < 4 → scrE cI ad cs len g i = if 3 ≤ i ∧ i < 3 + 1 then ordE g (i - 3) else scrE cI ad cs len g i := scrE_gup
-- the whole: eight disks (disk, spare, snapshot, five of the history), the object, the history, its slots, the script, the reader
def xE (cI cD : ClassId) (ad : Nat → Nat) (D : Nat → Nat → Nat → Int32) (sav old hsz : Int32) (cs : Nat → Int32) (len : Int32) (g : Nat → Int32) : Nat → va_E := fun i =>
  if i < 168 then dskE cI (fun q => ad (21 * (i / 21) + q)) (D (i / 21)) (i % 21)
  else if i = 168 then .inr (5, [.ref (ad 0), .ref (ad 21), .ref (ad 42), .int sav, .ref (ad 169), .ref (ad 171), .ref (ad 174)])
  else if i = 169 then .inr (1, [.ref (ad 170), .int old, .int hsz])
  else if i = 170 then .inl (cD, 5, .inr (.inr (.inr (.inr (fun k => some (ad (21 * (3 + k))))))))
  else if i = 171 then .inr (4, [.ref (ad 172), .int len]) else if i = 172 then .inr (3, [.ref (ad 173)]) else if i = 173 then .inl (cI, 80, .inl cs) else ordE g 0
section XE
variable {cI cD : ClassId} {ad : Nat → Nat} {D : Nat → Nat → Nat → Int32} {sav old hsz : Int32} {cs : Nat → Int32} {len : Int32} {g : Nat → Int32}
theorem xE_rec (j : Nat) (h : j < 8) : xE cI cD ad D sav old hsz cs len g (21 * j) = .inr (0, [.ref (ad (21 * j + 1)), .ref (ad (21 * j + 3)), .ref (ad (21 * j + 5)), .ref (ad (21 * j + 7)), .ref (ad (21 * j + 9)), .ref (ad (21 * j + 11)), .ref (ad (21 * j + 13)), .ref (ad (21 * j + 15)), .ref (ad (21 * j + 17)), .ref (ad (21 * j + 19))]) := by
  simp only [xE, dskE]
  rw [if_pos (by omega), show 21 * j / 21 = j by omega, if_pos (by omega)]
theorem xE_dsk (j : Nat) (h : j < 8) : ∀ i, i < 21 → dskE cI (fun i => ad (21 * j + i)) (D j) i = xE cI cD ad D sav old hsz cs len g (21 * j + i) := by
  intro i hi
  simp only [xE]
  rw [if_pos (by omega), show (21 * j + i) / 21 = j by omega, show (21 * j + i) % 21 = i by omega]
theorem xE_up (j : Nat) (h : j < 8) {w : Nat → Nat → Int32} : ∀ i, i < 175 → xE cI cD ad (va_up D j w) sav old hsz cs len g i = if 21 * j ≤ i ∧ i < 21 * j + 21 then dskE cI (fun i => ad (21 * j + i)) w (i - 21 * j) else xE cI cD ad D sav old hsz cs len g i := by
  intro i hi
  by_cases h0 : 21 * j ≤ i ∧ i < 21 * j + 21
  · rw [if_pos h0]
    simp only [xE]
    rw [if_pos (by omega), show i / 21 = j by omega, show i % 21 = i - 21 * j by omega]
    simp [va_up]
  · rw [if_neg h0]
    simp only [xE]
    by_cases h1 : i < 168
    · rw [if_pos h1, if_pos h1]
      have : i / 21 ≠ j := by omega
      simp [va_up, this]
    · rw [if_neg h1, if_neg h1]
theorem xE_id (j : Nat) (h : j < 8) : ∀ i, i < 175 → xE cI cD ad D sav old hsz cs len g i = if 21 * j ≤ i ∧ i < 21 * j + 21 then dskE cI (fun i => ad (21 * j + i)) (D j) (i - 21 * j) else xE cI cD ad D sav old hsz cs len g i := by
  intro i hi
  have h1 := xE_up (cI := cI) (cD := cD) (ad := ad) (D := D) (sav := sav) (old := old) (hsz := hsz) (cs := cs) (len := len) (g := g) (w := D j) j h i hi
  rw [← h1]
  have : va_up D j (D j) = D := by funext k; by_cases hk : k = j <;> simp [va_up, hk]
  rw [this]
theorem xE_lt {i : Nat} (h : i < 168) {sav2 old2 hsz2 len2 : Int32} {cs2 g2 : Nat → Int32} : xE cI cD ad D sav2 old2 hsz2 cs2 len2 g2 i = xE cI cD ad D sav old hsz cs len g i := by
  simp only [xE]; rw [if_pos h, if_pos h]
theorem x_7 {i : Nat} (hi : i < 175) (h : ¬ i < 168) : i = 168 ∨ i = 169 ∨ i = 170 ∨ i = 171 ∨ i = 172 ∨ i = 173 ∨ i = 174 := by omega
theorem xE_sav {x : Int32} : ∀ i, i < 175 → xE cI cD ad D x old hsz cs len g i = va_up (xE cI cD ad D sav old hsz cs len g) 168 (.inr (5, [.ref (ad 0), .ref (ad 21), .ref (ad 42), .int x, .ref (ad 169), .ref (ad 171), .ref (ad 174)])) i := by
  intro i hi
  by_cases h : i < 168
  · rw [xE_lt h (sav := sav)]; simp only [va_up]; rw [if_neg (by omega)]
  · rcases x_7 hi h with rfl | rfl | rfl | rfl | rfl | rfl | rfl <;> rfl
theorem xE_old {x : Int32} : ∀ i, i < 175 → xE cI cD ad D sav x hsz cs len g i = va_up (xE cI cD ad D sav old hsz cs len g) 169 (.inr (1, [.ref (ad 170), .int x, .int hsz])) i := by
  intro i hi
  by_cases h : i < 168
  · rw [xE_lt h (old := old)]; simp only [va_up]; rw [if_neg (by omega)]
  · rcases x_7 hi h with rfl | rfl | rfl | rfl | rfl | rfl | rfl <;> rfl
theorem xE_hsz {x : Int32} : ∀ i, i < 175 → xE cI cD ad D sav old x cs len g i = va_up (xE cI cD ad D sav old hsz cs len g) 169 (.inr (1, [.ref (ad 170), .int old, .int x])) i := by
  intro i hi
  by_cases h : i < 168
  · rw [xE_lt h (hsz := hsz)]; simp only [va_up]; rw [if_neg (by omega)]
  · rcases x_7 hi h with rfl | rfl | rfl | rfl | rfl | rfl | rfl <;> rfl
theorem xE_ord : ∀ i, i < 1 → ordE g i = xE cI cD ad D sav old hsz cs len g (174 + i) := by
  intro i hi; obtain rfl : i = 0 := by omega
  rfl
theorem xE_oup {w : Nat → Int32} : ∀ i, i < 175 → xE cI cD ad D sav old hsz cs len w i = if 174 ≤ i ∧ i < 174 + 1 then ordE w (i - 174) else xE cI cD ad D sav old hsz cs len g i := by
  intro i hi
  by_cases h : i < 168
  · rw [xE_lt h (g := g), if_neg (by omega)]
  · rcases x_7 hi h with rfl | rfl | rfl | rfl | rfl | rfl | rfl <;> rfl
theorem xE_oid : ∀ i, i < 175 → xE cI cD ad D sav old hsz cs len g i = if 174 ≤ i ∧ i < 174 + 1 then ordE g (i - 174) else xE cI cD ad D sav old hsz cs len g i := xE_oup
theorem xE_scr : ∀ i, i < 4 → scrE cI (fun i => ad (171 + i)) cs len g i = xE cI cD ad D sav old hsz cs len g (171 + i) := by
  intro i hi
  rcases (show i = 0 ∨ i = 1 ∨ i = 2 ∨ i = 3 by omega) with rfl | rfl | rfl | rfl <;> rfl
theorem xE_sup {cs2 g2 : Nat → Int32} {len2 : Int32} : ∀ i, i < 175 → xE cI cD ad D sav old hsz cs2 len2 g2 i = if 171 ≤ i ∧ i < 171 + 4 then scrE cI (fun i => ad (171 + i)) cs2 len2 g2 (i - 171) else xE cI cD ad D sav old hsz cs len g i := by
  intro i hi
  by_cases h : i < 168
  · rw [xE_lt h (g := g) (cs := cs) (len := len), if_neg (by omega)]
  · rcases x_7 hi h with rfl | rfl | rfl | rfl | rfl | rfl | rfl <;> rfl
theorem xE_sid : ∀ i, i < 175 → xE cI cD ad D sav old hsz cs len g i = if 171 ≤ i ∧ i < 171 + 4 then scrE cI (fun i => ad (171 + i)) cs len g (i - 171) else xE cI cD ad D sav old hsz cs len g i := xE_sup
end XE
/-- one disk copied over another -/
def dcp (D : Nat → Nat → Nat → Int32) (i j : Nat) : Nat → Nat → Nat → Int32 := va_up D i (D j)
-- the reference: the object, the row of numbers, the text
def mdlE (cI : ClassId) (ad : Nat → Nat) (s t g : Nat → Int32) : Nat → va_E := fun i =>
  if i = 0 then .inr (6, [.ref (ad 1), .int (g 0), .int (g 1), .ref (ad 2), .int (g 2), .int (g 3), .int (g 4), .int (g 5), .int (g 6), .int (g 7)]) else if i = 1 then .inl (cI, 1968, .inl s) else .inl (cI, 80, .inl t)
theorem mdlE_s {cI : ClassId} {ad : Nat → Nat} {s t g s2 : Nat → Int32} : ∀ i, i < 3 → mdlE cI ad s2 t g i = va_up (mdlE cI ad s t g) 1 (.inl (cI, 1968, .inl s2)) i := by
  intro i hi
  rcases (show i = 0 ∨ i = 1 ∨ i = 2 by omega) with rfl | rfl | rfl <;> rfl
theorem mdlE_t {cI : ClassId} {ad : Nat → Nat} {s t g t2 : Nat → Int32} : ∀ i, i < 3 → mdlE cI ad s t2 g i = va_up (mdlE cI ad s t g) 2 (.inl (cI, 80, .inl t2)) i := by
  intro i hi
  rcases (show i = 0 ∨ i = 1 ∨ i = 2 by omega) with rfl | rfl | rfl <;> rfl
theorem mdlE_g0 {cI : ClassId} {ad : Nat → Nat} {s t g : Nat → Int32} {x : Int32} : ∀ i, i < 3 → mdlE cI ad s t (upd g 0 x) i = va_up (mdlE cI ad s t g) 0 (.inr (6, [Value.ref (ad 1), .int x, .int (g 1), .ref (ad 2), .int (g 2), .int (g 3), .int (g 4), .int (g 5), .int (g 6), .int (g 7)])) i := by
  intro i hi
  rcases (show i = 0 ∨ i = 1 ∨ i = 2 by omega) with rfl | rfl | rfl <;> rfl
theorem mdlE_g1 {cI : ClassId} {ad : Nat → Nat} {s t g : Nat → Int32} {x : Int32} : ∀ i, i < 3 → mdlE cI ad s t (upd g 1 x) i = va_up (mdlE cI ad s t g) 0 (.inr (6, [Value.ref (ad 1), .int (g 0), .int x, .ref (ad 2), .int (g 2), .int (g 3), .int (g 4), .int (g 5), .int (g 6), .int (g 7)])) i := by
  intro i hi
  rcases (show i = 0 ∨ i = 1 ∨ i = 2 by omega) with rfl | rfl | rfl <;> rfl
theorem mdlE_g2 {cI : ClassId} {ad : Nat → Nat} {s t g : Nat → Int32} {x : Int32} : ∀ i, i < 3 → mdlE cI ad s t (upd g 2 x) i = va_up (mdlE cI ad s t g) 0 (.inr (6, [Value.ref (ad 1), .int (g 0), .int (g 1), .ref (ad 2), .int x, .int (g 3), .int (g 4), .int (g 5), .int (g 6), .int (g 7)])) i := by
  intro i hi
  rcases (show i = 0 ∨ i = 1 ∨ i = 2 by omega) with rfl | rfl | rfl <;> rfl
theorem mdlE_g3 {cI : ClassId} {ad : Nat → Nat} {s t g : Nat → Int32} {x : Int32} : ∀ i, i < 3 → mdlE cI ad s t (upd g 3 x) i = va_up (mdlE cI ad s t g) 0 (.inr (6, [Value.ref (ad 1), .int (g 0), .int (g 1), .ref (ad 2), .int (g 2), .int x, .int (g 4), .int (g 5), .int (g 6), .int (g 7)])) i := by
  intro i hi
  rcases (show i = 0 ∨ i = 1 ∨ i = 2 by omega) with rfl | rfl | rfl <;> rfl
theorem mdlE_g4 {cI : ClassId} {ad : Nat → Nat} {s t g : Nat → Int32} {x : Int32} : ∀ i, i < 3 → mdlE cI ad s t (upd g 4 x) i = va_up (mdlE cI ad s t g) 0 (.inr (6, [Value.ref (ad 1), .int (g 0), .int (g 1), .ref (ad 2), .int (g 2), .int (g 3), .int x, .int (g 5), .int (g 6), .int (g 7)])) i := by
  intro i hi
  rcases (show i = 0 ∨ i = 1 ∨ i = 2 by omega) with rfl | rfl | rfl <;> rfl
theorem mdlE_g5 {cI : ClassId} {ad : Nat → Nat} {s t g : Nat → Int32} {x : Int32} : ∀ i, i < 3 → mdlE cI ad s t (upd g 5 x) i = va_up (mdlE cI ad s t g) 0 (.inr (6, [Value.ref (ad 1), .int (g 0), .int (g 1), .ref (ad 2), .int (g 2), .int (g 3), .int (g 4), .int x, .int (g 6), .int (g 7)])) i := by
  intro i hi
  rcases (show i = 0 ∨ i = 1 ∨ i = 2 by omega) with rfl | rfl | rfl <;> rfl
theorem mdlE_g6 {cI : ClassId} {ad : Nat → Nat} {s t g : Nat → Int32} {x : Int32} : ∀ i, i < 3 → mdlE cI ad s t (upd g 6 x) i = va_up (mdlE cI ad s t g) 0 (.inr (6, [Value.ref (ad 1), .int (g 0), .int (g 1), .ref (ad 2), .int (g 2), .int (g 3), .int (g 4), .int (g 5), .int x, .int (g 7)])) i := by
  intro i hi
  rcases (show i = 0 ∨ i = 1 ∨ i = 2 by omega) with rfl | rfl | rfl <;> rfl
theorem mdlE_g7 {cI : ClassId} {ad : Nat → Nat} {s t g : Nat → Int32} {x : Int32} : ∀ i, i < 3 → mdlE cI ad s t (upd g 7 x) i = va_up (mdlE cI ad s t g) 0 (.inr (6, [Value.ref (ad 1), .int (g 0), .int (g 1), .ref (ad 2), .int (g 2), .int (g 3), .int (g 4), .int (g 5), .int (g 6), .int x])) i := by
  intro i hi
  rcases (show i = 0 ∨ i = 1 ∨ i = 2 by omega) with rfl | rfl | rfl <;> rfl
end
section
theorem dX3_init_0 : decode cX3_init 0 = .ok (.aload_n 0, 1) := by decide +kernel
theorem dX3_init_1 : decode cX3_init 1 = .ok (.invokespecial 1, 3) := by decide +kernel
theorem dX3_init_4 : decode cX3_init 4 = .ok (.aload_n 0, 1) := by decide +kernel
theorem dX3_init_5 : decode cX3_init 5 = .ok (.iload_n 1, 1) := by decide +kernel
theorem dX3_init_6 : decode cX3_init 6 = .ok (.iconst 0, 1) := by decide +kernel
theorem dX3_init_7 : decode cX3_init 7 = .ok (.invokestatic 7, 3) := by decide +kernel
theorem dX3_init_10 : decode cX3_init 10 = .ok (.newarray .int, 2) := by decide +kernel
theorem dX3_init_12 : decode cX3_init 12 = .ok (.putfield 13, 3) := by decide +kernel
theorem dX3_init_15 : decode cX3_init 15 = .ok (.iconst 0, 1) := by decide +kernel
theorem dX3_init_16 : decode cX3_init 16 = .ok (.istore_n 3, 1) := by decide +kernel
theorem dX3_init_17 : decode cX3_init 17 = .ok (.iload_n 3, 1) := by decide +kernel
theorem dX3_init_18 : decode cX3_init 18 = .ok (.aload_n 0, 1) := by decide +kernel
theorem dX3_init_19 : decode cX3_init 19 = .ok (.getfield 13, 3) := by decide +kernel
theorem dX3_init_22 : decode cX3_init 22 = .ok (.arraylength, 1) := by decide +kernel
theorem dX3_init_23 : decode cX3_init 23 = .ok (.if_icmp .ge 16, 3) := by decide +kernel
theorem dX3_init_26 : decode cX3_init 26 = .ok (.aload_n 0, 1) := by decide +kernel
theorem dX3_init_27 : decode cX3_init 27 = .ok (.getfield 13, 3) := by decide +kernel
theorem dX3_init_30 : decode cX3_init 30 = .ok (.iload_n 3, 1) := by decide +kernel
theorem dX3_init_31 : decode cX3_init 31 = .ok (.iload_n 2, 1) := by decide +kernel
theorem dX3_init_32 : decode cX3_init 32 = .ok (.iastore, 1) := by decide +kernel
theorem dX3_init_33 : decode cX3_init 33 = .ok (.iinc 3 1, 3) := by decide +kernel
theorem dX3_init_36 : decode cX3_init 36 = .ok (.goto (-19), 3) := by decide +kernel
theorem dX3_init_39 : decode cX3_init 39 = .ok (.return_, 1) := by decide +kernel
theorem dX3_at_0 : decode cX3_at 0 = .ok (.iload_n 1, 1) := by decide +kernel
theorem dX3_at_1 : decode cX3_at 1 = .ok (.ifCond .lt 21, 3) := by decide +kernel
theorem dX3_at_4 : decode cX3_at 4 = .ok (.iload_n 1, 1) := by decide +kernel
theorem dX3_at_5 : decode cX3_at 5 = .ok (.aload_n 0, 1) := by decide +kernel
theorem dX3_at_6 : decode cX3_at 6 = .ok (.getfield 13, 3) := by decide +kernel
theorem dX3_at_9 : decode cX3_at 9 = .ok (.arraylength, 1) := by decide +kernel
theorem dX3_at_10 : decode cX3_at 10 = .ok (.if_icmp .ge 12, 3) := by decide +kernel
theorem dX3_at_13 : decode cX3_at 13 = .ok (.aload_n 0, 1) := by decide +kernel
theorem dX3_at_14 : decode cX3_at 14 = .ok (.getfield 13, 3) := by decide +kernel
theorem dX3_at_17 : decode cX3_at 17 = .ok (.iload_n 1, 1) := by decide +kernel
theorem dX3_at_18 : decode cX3_at 18 = .ok (.iaload, 1) := by decide +kernel
theorem dX3_at_19 : decode cX3_at 19 = .ok (.goto 4, 3) := by decide +kernel
theorem dX3_at_22 : decode cX3_at 22 = .ok (.iconst 0, 1) := by decide +kernel
theorem dX3_at_23 : decode cX3_at 23 = .ok (.ireturn, 1) := by decide +kernel
theorem dX3_holds_0 : decode cX3_holds 0 = .ok (.iload_n 1, 1) := by decide +kernel
theorem dX3_holds_1 : decode cX3_holds 1 = .ok (.ifCond .lt 26, 3) := by decide +kernel
theorem dX3_holds_4 : decode cX3_holds 4 = .ok (.iload_n 1, 1) := by decide +kernel
theorem dX3_holds_5 : decode cX3_holds 5 = .ok (.aload_n 0, 1) := by decide +kernel
theorem dX3_holds_6 : decode cX3_holds 6 = .ok (.getfield 13, 3) := by decide +kernel
theorem dX3_holds_9 : decode cX3_holds 9 = .ok (.arraylength, 1) := by decide +kernel
theorem dX3_holds_10 : decode cX3_holds 10 = .ok (.if_icmp .ge 17, 3) := by decide +kernel
theorem dX3_holds_13 : decode cX3_holds 13 = .ok (.aload_n 0, 1) := by decide +kernel
theorem dX3_holds_14 : decode cX3_holds 14 = .ok (.getfield 13, 3) := by decide +kernel
theorem dX3_holds_17 : decode cX3_holds 17 = .ok (.iload_n 1, 1) := by decide +kernel
theorem dX3_holds_18 : decode cX3_holds 18 = .ok (.iaload, 1) := by decide +kernel
theorem dX3_holds_19 : decode cX3_holds 19 = .ok (.iload_n 2, 1) := by decide +kernel
theorem dX3_holds_20 : decode cX3_holds 20 = .ok (.if_icmp .ne 7, 3) := by decide +kernel
theorem dX3_holds_23 : decode cX3_holds 23 = .ok (.iconst 1, 1) := by decide +kernel
theorem dX3_holds_24 : decode cX3_holds 24 = .ok (.goto 4, 3) := by decide +kernel
theorem dX3_holds_27 : decode cX3_holds 27 = .ok (.iconst 0, 1) := by decide +kernel
theorem dX3_holds_28 : decode cX3_holds 28 = .ok (.ireturn, 1) := by decide +kernel
theorem dX3_put_0 : decode cX3_put 0 = .ok (.iload_n 1, 1) := by decide +kernel
theorem dX3_put_1 : decode cX3_put 1 = .ok (.ifCond .lt 19, 3) := by decide +kernel
theorem dX3_put_4 : decode cX3_put 4 = .ok (.iload_n 1, 1) := by decide +kernel
theorem dX3_put_5 : decode cX3_put 5 = .ok (.aload_n 0, 1) := by decide +kernel
theorem dX3_put_6 : decode cX3_put 6 = .ok (.getfield 13, 3) := by decide +kernel
theorem dX3_put_9 : decode cX3_put 9 = .ok (.arraylength, 1) := by decide +kernel
theorem dX3_put_10 : decode cX3_put 10 = .ok (.if_icmp .ge 10, 3) := by decide +kernel
theorem dX3_put_13 : decode cX3_put 13 = .ok (.aload_n 0, 1) := by decide +kernel
theorem dX3_put_14 : decode cX3_put 14 = .ok (.getfield 13, 3) := by decide +kernel
theorem dX3_put_17 : decode cX3_put 17 = .ok (.iload_n 1, 1) := by decide +kernel
theorem dX3_put_18 : decode cX3_put 18 = .ok (.iload_n 2, 1) := by decide +kernel
theorem dX3_put_19 : decode cX3_put 19 = .ok (.iastore, 1) := by decide +kernel
theorem dX3_put_20 : decode cX3_put 20 = .ok (.return_, 1) := by decide +kernel
theorem dX3_grow_0 : decode cX3_grow 0 = .ok (.iload_n 1, 1) := by decide +kernel
theorem dX3_grow_1 : decode cX3_grow 1 = .ok (.ifCond .lt 22, 3) := by decide +kernel
theorem dX3_grow_4 : decode cX3_grow 4 = .ok (.iload_n 1, 1) := by decide +kernel
theorem dX3_grow_5 : decode cX3_grow 5 = .ok (.aload_n 0, 1) := by decide +kernel
theorem dX3_grow_6 : decode cX3_grow 6 = .ok (.getfield 13, 3) := by decide +kernel
theorem dX3_grow_9 : decode cX3_grow 9 = .ok (.arraylength, 1) := by decide +kernel
theorem dX3_grow_10 : decode cX3_grow 10 = .ok (.if_icmp .ge 13, 3) := by decide +kernel
theorem dX3_grow_13 : decode cX3_grow 13 = .ok (.aload_n 0, 1) := by decide +kernel
theorem dX3_grow_14 : decode cX3_grow 14 = .ok (.getfield 13, 3) := by decide +kernel
theorem dX3_grow_17 : decode cX3_grow 17 = .ok (.iload_n 1, 1) := by decide +kernel
theorem dX3_grow_18 : decode cX3_grow 18 = .ok (.dup2, 1) := by decide +kernel
theorem dX3_grow_19 : decode cX3_grow 19 = .ok (.iaload, 1) := by decide +kernel
theorem dX3_grow_20 : decode cX3_grow 20 = .ok (.iload_n 2, 1) := by decide +kernel
theorem dX3_grow_21 : decode cX3_grow 21 = .ok (.iadd, 1) := by decide +kernel
theorem dX3_grow_22 : decode cX3_grow 22 = .ok (.iastore, 1) := by decide +kernel
theorem dX3_grow_23 : decode cX3_grow 23 = .ok (.return_, 1) := by decide +kernel
set_option maxRecDepth 20000 in
theorem ggX3_copyFrom_X3_at : GoodIn wsX3_copyFrom wsX3_at := goodIn_r _ [6, 1, 7] (by decide +kernel) (by decide +kernel)
set_option maxRecDepth 20000 in
theorem gX3_copyFrom_X3_at : GoodIn wsX3_copyFrom (wsV RX3 19 RX3 yX3_at wsX3_at) := goodIn_app (goodIn_of _ (by decide +kernel)) ggX3_copyFrom_X3_at
theorem dX3_copyFrom_0 : decode cX3_copyFrom 0 = .ok (.iconst 0, 1) := by decide +kernel
theorem dX3_copyFrom_1 : decode cX3_copyFrom 1 = .ok (.istore_n 2, 1) := by decide +kernel
theorem dX3_copyFrom_2 : decode cX3_copyFrom 2 = .ok (.iload_n 2, 1) := by decide +kernel
theorem dX3_copyFrom_3 : decode cX3_copyFrom 3 = .ok (.aload_n 0, 1) := by decide +kernel
theorem dX3_copyFrom_4 : decode cX3_copyFrom 4 = .ok (.getfield 13, 3) := by decide +kernel
theorem dX3_copyFrom_7 : decode cX3_copyFrom 7 = .ok (.arraylength, 1) := by decide +kernel
theorem dX3_copyFrom_8 : decode cX3_copyFrom 8 = .ok (.if_icmp .ge 20, 3) := by decide +kernel
theorem dX3_copyFrom_11 : decode cX3_copyFrom 11 = .ok (.aload_n 0, 1) := by decide +kernel
theorem dX3_copyFrom_12 : decode cX3_copyFrom 12 = .ok (.getfield 13, 3) := by decide +kernel
theorem dX3_copyFrom_15 : decode cX3_copyFrom 15 = .ok (.iload_n 2, 1) := by decide +kernel
theorem dX3_copyFrom_16 : decode cX3_copyFrom 16 = .ok (.aload_n 1, 1) := by decide +kernel
theorem dX3_copyFrom_17 : decode cX3_copyFrom 17 = .ok (.iload_n 2, 1) := by decide +kernel
theorem dX3_copyFrom_18 : decode cX3_copyFrom 18 = .ok (.invokevirtual 19, 3) := by decide +kernel
theorem dX3_copyFrom_21 : decode cX3_copyFrom 21 = .ok (.iastore, 1) := by decide +kernel
theorem dX3_copyFrom_22 : decode cX3_copyFrom 22 = .ok (.iinc 2 1, 3) := by decide +kernel
theorem dX3_copyFrom_25 : decode cX3_copyFrom 25 = .ok (.goto (-23), 3) := by decide +kernel
theorem dX3_copyFrom_28 : decode cX3_copyFrom 28 = .ok (.return_, 1) := by decide +kernel
theorem ok_X3_at : gOk yX3_at RX3 1 := by refine ⟨?_, ?_, ?_, ?_⟩ <;> decide +kernel
theorem ok_X3_holds : gOk yX3_holds RX3 2 := by refine ⟨?_, ?_, ?_, ?_⟩ <;> decide +kernel
theorem ok_X3_put : gOk yX3_put RX3 2 := by refine ⟨?_, ?_, ?_, ?_⟩ <;> decide +kernel
theorem ok_X3_grow : gOk yX3_grow RX3 2 := by refine ⟨?_, ?_, ?_, ?_⟩ <;> decide +kernel
abbrev rm_X3_at : Room := ({ frames := 0, cells := 0, slots := 0, locals := 0 } : Room)
def f_X3_at (n : Nat) (f : Nat → Int32) (v1 : Int32) : Option Int32 := if v1 < 0 then some 0 else if (nI n) ≤ v1 then some 0 else if 0 ≤ v1 ∧ (v1).toNatClampNeg < n then some (f (v1).toNatClampNeg) else none
set_option maxRecDepth 20000 in
theorem in_X3_at : ∀ w ∈ wsX30, w ∈ wsX3_at := by decide +kernel
set_option maxRecDepth 20000 in
theorem fl_X3_at_13 : Cond.fieldLink RX3 13 (TX3 0).1 (TX3 0).2.1 (TX3 0).2.2.1 ∈ wsX3_at := by decide +kernel
set_option maxHeartbeats 4000000 in
set_option maxRecDepth 100000 in
theorem cn_X3_at (l : Launch) (Z : gZ) (ad : Nat → Nat) (hI : gInj 2 ad) (n : Nat) (f : Nat → Int32) (v1 : Int32) {r : Int32} (h : f_X3_at n f v1 = some r) : gI l yX3_at wsX3_at rm_X3_at Z 2 ad [.ref (ad 0), .int v1] (rowE Z.2.1 ad n f) r (rowE Z.2.1 ad n f) := by
  refine g_entryI (cc := cX3_at) (maxL := 2) (by decide +kernel) rfl hI (Nat.le_of_ble_eq_true rfl) (fun X C e => ?_)
  unfold f_X3_at at h
  show GG X Z 2 2 ad (rowE Z.2.1 ad n f) 0 [(0, .ref (ad 0)), (1, .int v1)] []
  refine g_iload_n C dX3_at_0 1 rfl ?_
  refine g_if_lt (tgt := 22) C dX3_at_1 (by decide) (fun c1 => ?_) (fun c1 => ?_)
  · replace h := gi_pos c1 h
    refine g_iconst (v := 0) C dX3_at_22 (by decide) ?_
    cases h
    exact g_iret C e dX3_at_23
  · replace h := gi_neg c1 h
    refine g_iload_n C dX3_at_4 1 rfl ?_
    refine g_aload_n C dX3_at_5 0 rfl ?_
    refine g_getf (v := .ref (ad 1)) C 0 (by decide) rfl rfl in_X3_at 0 (by decide) fl_X3_at_13 rfl dX3_at_6 ?_
    refine g_alen C 1 (by decide) rfl dX3_at_9 ?_
    refine g_icmp_ge (tgt := 22) C dX3_at_10 (by decide) (fun c2 => ?_) (fun c2 => ?_)
    · replace h := gi_pos c2 h
      refine g_iconst (v := 0) C dX3_at_22 (by decide) ?_
      cases h
      exact g_iret C e dX3_at_23
    · replace h := gi_neg c2 h
      refine g_aload_n C dX3_at_13 0 rfl ?_
      refine g_getf (v := .ref (ad 1)) C 0 (by decide) rfl rfl in_X3_at 0 (by decide) fl_X3_at_13 rfl dX3_at_14 ?_
      refine g_iload_n C dX3_at_17 1 rfl ?_
      obtain ⟨b3, h⟩ := gguard h
      refine g_iald C 1 (by decide) rfl (g_in b3) dX3_at_18 ?_
      refine g_goto (tgt := 23) C dX3_at_19 (by decide) ?_
      cases h
      exact g_iret C e dX3_at_23
abbrev rm_X3_holds : Room := ({ frames := 0, cells := 0, slots := 0, locals := 0 } : Room)
def f_X3_holds (n : Nat) (f : Nat → Int32) (v1 : Int32) (v2 : Int32) : Option Int32 := if v1 < 0 then some 0 else if (nI n) ≤ v1 then some 0 else if 0 ≤ v1 ∧ (v1).toNatClampNeg < n then if (f (v1).toNatClampNeg) = v2 then some 1 else some 0 else none
set_option maxRecDepth 20000 in
theorem in_X3_holds : ∀ w ∈ wsX30, w ∈ wsX3_holds := by decide +kernel
set_option maxRecDepth 20000 in
theorem fl_X3_holds_13 : Cond.fieldLink RX3 13 (TX3 0).1 (TX3 0).2.1 (TX3 0).2.2.1 ∈ wsX3_holds := by decide +kernel
set_option maxHeartbeats 4000000 in
set_option maxRecDepth 100000 in
theorem cn_X3_holds (l : Launch) (Z : gZ) (ad : Nat → Nat) (hI : gInj 2 ad) (n : Nat) (f : Nat → Int32) (v1 : Int32) (v2 : Int32) {r : Int32} (h : f_X3_holds n f v1 v2 = some r) : gI l yX3_holds wsX3_holds rm_X3_holds Z 2 ad [.ref (ad 0), .int v1, .int v2] (rowE Z.2.1 ad n f) r (rowE Z.2.1 ad n f) := by
  refine g_entryI (cc := cX3_holds) (maxL := 3) (by decide +kernel) rfl hI (Nat.le_of_ble_eq_true rfl) (fun X C e => ?_)
  unfold f_X3_holds at h
  show GG X Z 3 2 ad (rowE Z.2.1 ad n f) 0 [(0, .ref (ad 0)), (1, .int v1), (2, .int v2)] []
  refine g_iload_n C dX3_holds_0 1 rfl ?_
  refine g_if_lt (tgt := 27) C dX3_holds_1 (by decide) (fun c1 => ?_) (fun c1 => ?_)
  · replace h := gi_pos c1 h
    refine g_iconst (v := 0) C dX3_holds_27 (by decide) ?_
    cases h
    exact g_zret C e rfl dX3_holds_28
  · replace h := gi_neg c1 h
    refine g_iload_n C dX3_holds_4 1 rfl ?_
    refine g_aload_n C dX3_holds_5 0 rfl ?_
    refine g_getf (v := .ref (ad 1)) C 0 (by decide) rfl rfl in_X3_holds 0 (by decide) fl_X3_holds_13 rfl dX3_holds_6 ?_
    refine g_alen C 1 (by decide) rfl dX3_holds_9 ?_
    refine g_icmp_ge (tgt := 27) C dX3_holds_10 (by decide) (fun c2 => ?_) (fun c2 => ?_)
    · replace h := gi_pos c2 h
      refine g_iconst (v := 0) C dX3_holds_27 (by decide) ?_
      cases h
      exact g_zret C e rfl dX3_holds_28
    · replace h := gi_neg c2 h
      refine g_aload_n C dX3_holds_13 0 rfl ?_
      refine g_getf (v := .ref (ad 1)) C 0 (by decide) rfl rfl in_X3_holds 0 (by decide) fl_X3_holds_13 rfl dX3_holds_14 ?_
      refine g_iload_n C dX3_holds_17 1 rfl ?_
      obtain ⟨b4, h⟩ := gguard h
      refine g_iald C 1 (by decide) rfl (g_in b4) dX3_holds_18 ?_
      refine g_iload_n C dX3_holds_19 2 rfl ?_
      refine g_icmp_ne (tgt := 27) C dX3_holds_20 (by decide) (fun c3 => ?_) (fun c3 => ?_)
      · replace h := gi_neg c3 h
        refine g_iconst (v := 0) C dX3_holds_27 (by decide) ?_
        cases h
        exact g_zret C e rfl dX3_holds_28
      · replace h := gi_pos c3 h
        refine g_iconst (v := 1) C dX3_holds_23 (by decide) ?_
        refine g_goto (tgt := 28) C dX3_holds_24 (by decide) ?_
        cases h
        exact g_zret C e rfl dX3_holds_28
abbrev rm_X3_put : Room := ({ frames := 0, cells := 0, slots := 0, locals := 0 } : Room)
def f_X3_put (n : Nat) (f : Nat → Int32) (v1 : Int32) (v2 : Int32) : Option ((Nat → Int32)) := if v1 < 0 then some f else if (nI n) ≤ v1 then some f else if 0 ≤ v1 ∧ (v1).toNatClampNeg < n then glet (upd f (v1).toNatClampNeg v2) (fun f4 => some f4) else none
set_option maxRecDepth 20000 in
theorem in_X3_put : ∀ w ∈ wsX30, w ∈ wsX3_put := by decide +kernel
set_option maxRecDepth 20000 in
theorem fl_X3_put_13 : Cond.fieldLink RX3 13 (TX3 0).1 (TX3 0).2.1 (TX3 0).2.2.1 ∈ wsX3_put := by decide +kernel
set_option maxHeartbeats 4000000 in
set_option maxRecDepth 100000 in
theorem cn_X3_put (l : Launch) (Z : gZ) (ad : Nat → Nat) (hI : gInj 2 ad) (n : Nat) (f : Nat → Int32) (v1 : Int32) (v2 : Int32) {f' : Nat → Int32} (h : f_X3_put n f v1 v2 = some f') : gV l yX3_put wsX3_put rm_X3_put Z 2 ad [.ref (ad 0), .int v1, .int v2] (rowE Z.2.1 ad n f) (rowE Z.2.1 ad n f') := by
  refine g_entryV (cc := cX3_put) (maxL := 3) (by decide +kernel) rfl hI (Nat.le_of_ble_eq_true rfl) (fun X C e => ?_)
  unfold f_X3_put at h
  show GG X Z 3 2 ad (rowE Z.2.1 ad n f) 0 [(0, .ref (ad 0)), (1, .int v1), (2, .int v2)] []
  refine g_iload_n C dX3_put_0 1 rfl ?_
  refine g_if_lt (tgt := 20) C dX3_put_1 (by decide) (fun c1 => ?_) (fun c1 => ?_)
  · replace h := gi_pos c1 h
    cases h
    exact g_vret C e dX3_put_20
  · replace h := gi_neg c1 h
    refine g_iload_n C dX3_put_4 1 rfl ?_
    refine g_aload_n C dX3_put_5 0 rfl ?_
    refine g_getf (v := .ref (ad 1)) C 0 (by decide) rfl rfl in_X3_put 0 (by decide) fl_X3_put_13 rfl dX3_put_6 ?_
    refine g_alen C 1 (by decide) rfl dX3_put_9 ?_
    refine g_icmp_ge (tgt := 20) C dX3_put_10 (by decide) (fun c2 => ?_) (fun c2 => ?_)
    · replace h := gi_pos c2 h
      cases h
      exact g_vret C e dX3_put_20
    · replace h := gi_neg c2 h
      refine g_aload_n C dX3_put_13 0 rfl ?_
      refine g_getf (v := .ref (ad 1)) C 0 (by decide) rfl rfl in_X3_put 0 (by decide) fl_X3_put_13 rfl dX3_put_14 ?_
      refine g_iload_n C dX3_put_17 1 rfl ?_
      refine g_iload_n C dX3_put_18 2 rfl ?_
      obtain ⟨b3, h⟩ := gguard h
      obtain ⟨f4, ef4, h⟩ := gl h
      refine g_iast C 1 (by decide) rfl (g_in b3) dX3_put_19 (rowE Z.2.1 ad n f4) (by rw [ef4]; exact rowE_st) ?_
      cases h
      exact g_vret C e dX3_put_20
abbrev rm_X3_grow : Room := ({ frames := 0, cells := 0, slots := 0, locals := 0 } : Room)
def f_X3_grow (n : Nat) (f : Nat → Int32) (v1 : Int32) (v2 : Int32) : Option ((Nat → Int32)) := if v1 < 0 then some f else if (nI n) ≤ v1 then some f else if 0 ≤ v1 ∧ (v1).toNatClampNeg < n then if 0 ≤ v1 ∧ (v1).toNatClampNeg < n then glet (upd f (v1).toNatClampNeg ((f (v1).toNatClampNeg) + v2)) (fun f4 => some f4) else none else none
set_option maxRecDepth 20000 in
theorem in_X3_grow : ∀ w ∈ wsX30, w ∈ wsX3_grow := by decide +kernel
set_option maxRecDepth 20000 in
theorem fl_X3_grow_13 : Cond.fieldLink RX3 13 (TX3 0).1 (TX3 0).2.1 (TX3 0).2.2.1 ∈ wsX3_grow := by decide +kernel
set_option maxHeartbeats 4000000 in
set_option maxRecDepth 100000 in
theorem cn_X3_grow (l : Launch) (Z : gZ) (ad : Nat → Nat) (hI : gInj 2 ad) (n : Nat) (f : Nat → Int32) (v1 : Int32) (v2 : Int32) {f' : Nat → Int32} (h : f_X3_grow n f v1 v2 = some f') : gV l yX3_grow wsX3_grow rm_X3_grow Z 2 ad [.ref (ad 0), .int v1, .int v2] (rowE Z.2.1 ad n f) (rowE Z.2.1 ad n f') := by
  refine g_entryV (cc := cX3_grow) (maxL := 3) (by decide +kernel) rfl hI (Nat.le_of_ble_eq_true rfl) (fun X C e => ?_)
  unfold f_X3_grow at h
  show GG X Z 3 2 ad (rowE Z.2.1 ad n f) 0 [(0, .ref (ad 0)), (1, .int v1), (2, .int v2)] []
  refine g_iload_n C dX3_grow_0 1 rfl ?_
  refine g_if_lt (tgt := 23) C dX3_grow_1 (by decide) (fun c1 => ?_) (fun c1 => ?_)
  · replace h := gi_pos c1 h
    cases h
    exact g_vret C e dX3_grow_23
  · replace h := gi_neg c1 h
    refine g_iload_n C dX3_grow_4 1 rfl ?_
    refine g_aload_n C dX3_grow_5 0 rfl ?_
    refine g_getf (v := .ref (ad 1)) C 0 (by decide) rfl rfl in_X3_grow 0 (by decide) fl_X3_grow_13 rfl dX3_grow_6 ?_
    refine g_alen C 1 (by decide) rfl dX3_grow_9 ?_
    refine g_icmp_ge (tgt := 23) C dX3_grow_10 (by decide) (fun c2 => ?_) (fun c2 => ?_)
    · replace h := gi_pos c2 h
      cases h
      exact g_vret C e dX3_grow_23
    · replace h := gi_neg c2 h
      refine g_aload_n C dX3_grow_13 0 rfl ?_
      refine g_getf (v := .ref (ad 1)) C 0 (by decide) rfl rfl in_X3_grow 0 (by decide) fl_X3_grow_13 rfl dX3_grow_14 ?_
      refine g_iload_n C dX3_grow_17 1 rfl ?_
      refine g_dup2 C dX3_grow_18 rfl rfl ?_
      obtain ⟨b5, h⟩ := gguard h
      refine g_iald C 1 (by decide) rfl (g_in b5) dX3_grow_19 ?_
      refine g_iload_n C dX3_grow_20 2 rfl ?_
      refine g_iadd C dX3_grow_21 ?_
      obtain ⟨b3, h⟩ := gguard h
      obtain ⟨f4, ef4, h⟩ := gl h
      refine g_iast C 1 (by decide) rfl (g_in b3) dX3_grow_22 (rowE Z.2.1 ad n f4) (by rw [ef4]; exact rowE_st) ?_
      cases h
      exact g_vret C e dX3_grow_23
end
section
set_option maxRecDepth 20000 in
theorem ggX0_init_X3_init : GoodIn wsX0_init wsX3_init := goodIn_r _ [19, 20, 2, 3, 21, 22, 23, 24, 25, 26, 31] (by decide +kernel) (by decide +kernel)
set_option maxRecDepth 20000 in
theorem gX0_init_X3_init : GoodIn wsX0_init (wsX3_init) := ggX0_init_X3_init
set_option maxRecDepth 20000 in
theorem ggX0_init_X3_put : GoodIn wsX0_init wsX3_put := goodIn_r _ [30, 26, 31] (by decide +kernel) (by decide +kernel)
set_option maxRecDepth 20000 in
theorem gX0_init_X3_put : GoodIn wsX0_init (wsV RX0 47 RX3 yX3_put wsX3_put) := goodIn_app (goodIn_of _ (by decide +kernel)) ggX0_init_X3_put
theorem dX0_init_0 : decode cX0_init 0 = .ok (.aload_n 0, 1) := by decide +kernel
theorem dX0_init_1 : decode cX0_init 1 = .ok (.invokespecial 3, 3) := by decide +kernel
theorem dX0_init_4 : decode cX0_init 4 = .ok (.aload_n 0, 1) := by decide +kernel
theorem dX0_init_5 : decode cX0_init 5 = .ok (.new 9, 3) := by decide +kernel
theorem dX0_init_8 : decode cX0_init 8 = .ok (.dup, 1) := by decide +kernel
theorem dX0_init_9 : decode cX0_init 9 = .ok (.bipush 64, 2) := by decide +kernel
theorem dX0_init_11 : decode cX0_init 11 = .ok (.iconst 0, 1) := by decide +kernel
theorem dX0_init_12 : decode cX0_init 12 = .ok (.invokespecial 11, 3) := by decide +kernel
theorem dX0_init_15 : decode cX0_init 15 = .ok (.putfield 14, 3) := by decide +kernel
theorem dX0_init_18 : decode cX0_init 18 = .ok (.aload_n 0, 1) := by decide +kernel
theorem dX0_init_19 : decode cX0_init 19 = .ok (.new 9, 3) := by decide +kernel
theorem dX0_init_22 : decode cX0_init 22 = .ok (.dup, 1) := by decide +kernel
theorem dX0_init_23 : decode cX0_init 23 = .ok (.bipush 64, 2) := by decide +kernel
theorem dX0_init_25 : decode cX0_init 25 = .ok (.bipush (-5), 2) := by decide +kernel
theorem dX0_init_27 : decode cX0_init 27 = .ok (.invokespecial 11, 3) := by decide +kernel
theorem dX0_init_30 : decode cX0_init 30 = .ok (.putfield 20, 3) := by decide +kernel
theorem dX0_init_33 : decode cX0_init 33 = .ok (.aload_n 0, 1) := by decide +kernel
theorem dX0_init_34 : decode cX0_init 34 = .ok (.new 9, 3) := by decide +kernel
theorem dX0_init_37 : decode cX0_init 37 = .ok (.dup, 1) := by decide +kernel
theorem dX0_init_38 : decode cX0_init 38 = .ok (.bipush 64, 2) := by decide +kernel
theorem dX0_init_40 : decode cX0_init 40 = .ok (.bipush (-5), 2) := by decide +kernel
theorem dX0_init_42 : decode cX0_init 42 = .ok (.invokespecial 11, 3) := by decide +kernel
theorem dX0_init_45 : decode cX0_init 45 = .ok (.putfield 23, 3) := by decide +kernel
theorem dX0_init_48 : decode cX0_init 48 = .ok (.aload_n 0, 1) := by decide +kernel
theorem dX0_init_49 : decode cX0_init 49 = .ok (.new 9, 3) := by decide +kernel
theorem dX0_init_52 : decode cX0_init 52 = .ok (.dup, 1) := by decide +kernel
theorem dX0_init_53 : decode cX0_init 53 = .ok (.bipush 8, 2) := by decide +kernel
theorem dX0_init_55 : decode cX0_init 55 = .ok (.iconst 0, 1) := by decide +kernel
theorem dX0_init_56 : decode cX0_init 56 = .ok (.invokespecial 11, 3) := by decide +kernel
theorem dX0_init_59 : decode cX0_init 59 = .ok (.putfield 26, 3) := by decide +kernel
theorem dX0_init_62 : decode cX0_init 62 = .ok (.aload_n 0, 1) := by decide +kernel
theorem dX0_init_63 : decode cX0_init 63 = .ok (.new 9, 3) := by decide +kernel
theorem dX0_init_66 : decode cX0_init 66 = .ok (.dup, 1) := by decide +kernel
theorem dX0_init_67 : decode cX0_init 67 = .ok (.bipush 8, 2) := by decide +kernel
theorem dX0_init_69 : decode cX0_init 69 = .ok (.iconst 0, 1) := by decide +kernel
theorem dX0_init_70 : decode cX0_init 70 = .ok (.invokespecial 11, 3) := by decide +kernel
theorem dX0_init_73 : decode cX0_init 73 = .ok (.putfield 29, 3) := by decide +kernel
theorem dX0_init_76 : decode cX0_init 76 = .ok (.aload_n 0, 1) := by decide +kernel
theorem dX0_init_77 : decode cX0_init 77 = .ok (.new 9, 3) := by decide +kernel
theorem dX0_init_80 : decode cX0_init 80 = .ok (.dup, 1) := by decide +kernel
theorem dX0_init_81 : decode cX0_init 81 = .ok (.bipush 8, 2) := by decide +kernel
theorem dX0_init_83 : decode cX0_init 83 = .ok (.iconst 0, 1) := by decide +kernel
theorem dX0_init_84 : decode cX0_init 84 = .ok (.invokespecial 11, 3) := by decide +kernel
theorem dX0_init_87 : decode cX0_init 87 = .ok (.putfield 32, 3) := by decide +kernel
theorem dX0_init_90 : decode cX0_init 90 = .ok (.aload_n 0, 1) := by decide +kernel
theorem dX0_init_91 : decode cX0_init 91 = .ok (.new 9, 3) := by decide +kernel
theorem dX0_init_94 : decode cX0_init 94 = .ok (.dup, 1) := by decide +kernel
theorem dX0_init_95 : decode cX0_init 95 = .ok (.bipush 8, 2) := by decide +kernel
theorem dX0_init_97 : decode cX0_init 97 = .ok (.iconst 0, 1) := by decide +kernel
theorem dX0_init_98 : decode cX0_init 98 = .ok (.invokespecial 11, 3) := by decide +kernel
theorem dX0_init_101 : decode cX0_init 101 = .ok (.putfield 35, 3) := by decide +kernel
theorem dX0_init_104 : decode cX0_init 104 = .ok (.aload_n 0, 1) := by decide +kernel
theorem dX0_init_105 : decode cX0_init 105 = .ok (.new 9, 3) := by decide +kernel
theorem dX0_init_108 : decode cX0_init 108 = .ok (.dup, 1) := by decide +kernel
theorem dX0_init_109 : decode cX0_init 109 = .ok (.bipush 8, 2) := by decide +kernel
theorem dX0_init_111 : decode cX0_init 111 = .ok (.iconst 1, 1) := by decide +kernel
theorem dX0_init_112 : decode cX0_init 112 = .ok (.invokespecial 11, 3) := by decide +kernel
theorem dX0_init_115 : decode cX0_init 115 = .ok (.putfield 38, 3) := by decide +kernel
theorem dX0_init_118 : decode cX0_init 118 = .ok (.aload_n 0, 1) := by decide +kernel
theorem dX0_init_119 : decode cX0_init 119 = .ok (.new 9, 3) := by decide +kernel
theorem dX0_init_122 : decode cX0_init 122 = .ok (.dup, 1) := by decide +kernel
theorem dX0_init_123 : decode cX0_init 123 = .ok (.iconst 2, 1) := by decide +kernel
theorem dX0_init_124 : decode cX0_init 124 = .ok (.iconst 0, 1) := by decide +kernel
theorem dX0_init_125 : decode cX0_init 125 = .ok (.invokespecial 11, 3) := by decide +kernel
theorem dX0_init_128 : decode cX0_init 128 = .ok (.putfield 41, 3) := by decide +kernel
theorem dX0_init_131 : decode cX0_init 131 = .ok (.aload_n 0, 1) := by decide +kernel
theorem dX0_init_132 : decode cX0_init 132 = .ok (.new 9, 3) := by decide +kernel
theorem dX0_init_135 : decode cX0_init 135 = .ok (.dup, 1) := by decide +kernel
theorem dX0_init_136 : decode cX0_init 136 = .ok (.iconst 4, 1) := by decide +kernel
theorem dX0_init_137 : decode cX0_init 137 = .ok (.iconst 0, 1) := by decide +kernel
theorem dX0_init_138 : decode cX0_init 138 = .ok (.invokespecial 11, 3) := by decide +kernel
theorem dX0_init_141 : decode cX0_init 141 = .ok (.putfield 44, 3) := by decide +kernel
theorem dX0_init_144 : decode cX0_init 144 = .ok (.aload_n 0, 1) := by decide +kernel
theorem dX0_init_145 : decode cX0_init 145 = .ok (.getfield 41, 3) := by decide +kernel
theorem dX0_init_148 : decode cX0_init 148 = .ok (.iconst 0, 1) := by decide +kernel
theorem dX0_init_149 : decode cX0_init 149 = .ok (.bipush 8, 2) := by decide +kernel
theorem dX0_init_151 : decode cX0_init 151 = .ok (.invokevirtual 47, 3) := by decide +kernel
theorem dX0_init_154 : decode cX0_init 154 = .ok (.aload_n 0, 1) := by decide +kernel
theorem dX0_init_155 : decode cX0_init 155 = .ok (.getfield 41, 3) := by decide +kernel
theorem dX0_init_158 : decode cX0_init 158 = .ok (.iconst 1, 1) := by decide +kernel
theorem dX0_init_159 : decode cX0_init 159 = .ok (.iconst 0, 1) := by decide +kernel
theorem dX0_init_160 : decode cX0_init 160 = .ok (.invokevirtual 47, 3) := by decide +kernel
theorem dX0_init_163 : decode cX0_init 163 = .ok (.return_, 1) := by decide +kernel
set_option maxRecDepth 20000 in
theorem ggX0_copyFrom_X3_copyFrom : GoodIn wsX0_copyFrom wsX3_copyFrom := goodIn_r _ [15, 16, 17, 18, 19, 14, 20, 31] (by decide +kernel) (by decide +kernel)
set_option maxRecDepth 20000 in
theorem gX0_copyFrom_X3_copyFrom : GoodIn wsX0_copyFrom (wsV RX0 50 RX3 yX3_copyFrom wsX3_copyFrom) := goodIn_app (goodIn_of _ (by decide +kernel)) ggX0_copyFrom_X3_copyFrom
theorem dX0_copyFrom_0 : decode cX0_copyFrom 0 = .ok (.aload_n 0, 1) := by decide +kernel
theorem dX0_copyFrom_1 : decode cX0_copyFrom 1 = .ok (.getfield 14, 3) := by decide +kernel
theorem dX0_copyFrom_4 : decode cX0_copyFrom 4 = .ok (.aload_n 1, 1) := by decide +kernel
theorem dX0_copyFrom_5 : decode cX0_copyFrom 5 = .ok (.getfield 14, 3) := by decide +kernel
theorem dX0_copyFrom_8 : decode cX0_copyFrom 8 = .ok (.invokevirtual 50, 3) := by decide +kernel
theorem dX0_copyFrom_11 : decode cX0_copyFrom 11 = .ok (.aload_n 0, 1) := by decide +kernel
theorem dX0_copyFrom_12 : decode cX0_copyFrom 12 = .ok (.getfield 20, 3) := by decide +kernel
theorem dX0_copyFrom_15 : decode cX0_copyFrom 15 = .ok (.aload_n 1, 1) := by decide +kernel
theorem dX0_copyFrom_16 : decode cX0_copyFrom 16 = .ok (.getfield 20, 3) := by decide +kernel
theorem dX0_copyFrom_19 : decode cX0_copyFrom 19 = .ok (.invokevirtual 50, 3) := by decide +kernel
theorem dX0_copyFrom_22 : decode cX0_copyFrom 22 = .ok (.aload_n 0, 1) := by decide +kernel
theorem dX0_copyFrom_23 : decode cX0_copyFrom 23 = .ok (.getfield 23, 3) := by decide +kernel
theorem dX0_copyFrom_26 : decode cX0_copyFrom 26 = .ok (.aload_n 1, 1) := by decide +kernel
theorem dX0_copyFrom_27 : decode cX0_copyFrom 27 = .ok (.getfield 23, 3) := by decide +kernel
theorem dX0_copyFrom_30 : decode cX0_copyFrom 30 = .ok (.invokevirtual 50, 3) := by decide +kernel
theorem dX0_copyFrom_33 : decode cX0_copyFrom 33 = .ok (.aload_n 0, 1) := by decide +kernel
theorem dX0_copyFrom_34 : decode cX0_copyFrom 34 = .ok (.getfield 26, 3) := by decide +kernel
theorem dX0_copyFrom_37 : decode cX0_copyFrom 37 = .ok (.aload_n 1, 1) := by decide +kernel
theorem dX0_copyFrom_38 : decode cX0_copyFrom 38 = .ok (.getfield 26, 3) := by decide +kernel
theorem dX0_copyFrom_41 : decode cX0_copyFrom 41 = .ok (.invokevirtual 50, 3) := by decide +kernel
theorem dX0_copyFrom_44 : decode cX0_copyFrom 44 = .ok (.aload_n 0, 1) := by decide +kernel
theorem dX0_copyFrom_45 : decode cX0_copyFrom 45 = .ok (.getfield 29, 3) := by decide +kernel
theorem dX0_copyFrom_48 : decode cX0_copyFrom 48 = .ok (.aload_n 1, 1) := by decide +kernel
theorem dX0_copyFrom_49 : decode cX0_copyFrom 49 = .ok (.getfield 29, 3) := by decide +kernel
theorem dX0_copyFrom_52 : decode cX0_copyFrom 52 = .ok (.invokevirtual 50, 3) := by decide +kernel
theorem dX0_copyFrom_55 : decode cX0_copyFrom 55 = .ok (.aload_n 0, 1) := by decide +kernel
theorem dX0_copyFrom_56 : decode cX0_copyFrom 56 = .ok (.getfield 32, 3) := by decide +kernel
theorem dX0_copyFrom_59 : decode cX0_copyFrom 59 = .ok (.aload_n 1, 1) := by decide +kernel
theorem dX0_copyFrom_60 : decode cX0_copyFrom 60 = .ok (.getfield 32, 3) := by decide +kernel
theorem dX0_copyFrom_63 : decode cX0_copyFrom 63 = .ok (.invokevirtual 50, 3) := by decide +kernel
theorem dX0_copyFrom_66 : decode cX0_copyFrom 66 = .ok (.aload_n 0, 1) := by decide +kernel
theorem dX0_copyFrom_67 : decode cX0_copyFrom 67 = .ok (.getfield 35, 3) := by decide +kernel
theorem dX0_copyFrom_70 : decode cX0_copyFrom 70 = .ok (.aload_n 1, 1) := by decide +kernel
theorem dX0_copyFrom_71 : decode cX0_copyFrom 71 = .ok (.getfield 35, 3) := by decide +kernel
theorem dX0_copyFrom_74 : decode cX0_copyFrom 74 = .ok (.invokevirtual 50, 3) := by decide +kernel
theorem dX0_copyFrom_77 : decode cX0_copyFrom 77 = .ok (.aload_n 0, 1) := by decide +kernel
theorem dX0_copyFrom_78 : decode cX0_copyFrom 78 = .ok (.getfield 38, 3) := by decide +kernel
theorem dX0_copyFrom_81 : decode cX0_copyFrom 81 = .ok (.aload_n 1, 1) := by decide +kernel
theorem dX0_copyFrom_82 : decode cX0_copyFrom 82 = .ok (.getfield 38, 3) := by decide +kernel
theorem dX0_copyFrom_85 : decode cX0_copyFrom 85 = .ok (.invokevirtual 50, 3) := by decide +kernel
theorem dX0_copyFrom_88 : decode cX0_copyFrom 88 = .ok (.aload_n 0, 1) := by decide +kernel
theorem dX0_copyFrom_89 : decode cX0_copyFrom 89 = .ok (.getfield 41, 3) := by decide +kernel
theorem dX0_copyFrom_92 : decode cX0_copyFrom 92 = .ok (.aload_n 1, 1) := by decide +kernel
theorem dX0_copyFrom_93 : decode cX0_copyFrom 93 = .ok (.getfield 41, 3) := by decide +kernel
theorem dX0_copyFrom_96 : decode cX0_copyFrom 96 = .ok (.invokevirtual 50, 3) := by decide +kernel
theorem dX0_copyFrom_99 : decode cX0_copyFrom 99 = .ok (.aload_n 0, 1) := by decide +kernel
theorem dX0_copyFrom_100 : decode cX0_copyFrom 100 = .ok (.getfield 44, 3) := by decide +kernel
theorem dX0_copyFrom_103 : decode cX0_copyFrom 103 = .ok (.aload_n 1, 1) := by decide +kernel
theorem dX0_copyFrom_104 : decode cX0_copyFrom 104 = .ok (.getfield 44, 3) := by decide +kernel
theorem dX0_copyFrom_107 : decode cX0_copyFrom 107 = .ok (.invokevirtual 50, 3) := by decide +kernel
theorem dX0_copyFrom_110 : decode cX0_copyFrom 110 = .ok (.return_, 1) := by decide +kernel
set_option maxRecDepth 20000 in
theorem ggX0_createFile_X3_holds : GoodIn wsX0_createFile wsX3_holds := goodIn_r _ [10, 11, 26] (by decide +kernel) (by decide +kernel)
set_option maxRecDepth 20000 in
theorem gX0_createFile_X3_holds : GoodIn wsX0_createFile (wsV RX0 54 RX3 yX3_holds wsX3_holds) := goodIn_app (goodIn_of _ (by decide +kernel)) ggX0_createFile_X3_holds
set_option maxRecDepth 20000 in
theorem ggX0_createFile_X3_put : GoodIn wsX0_createFile wsX3_put := goodIn_r _ [15, 11, 26] (by decide +kernel) (by decide +kernel)
set_option maxRecDepth 20000 in
theorem gX0_createFile_X3_put : GoodIn wsX0_createFile (wsV RX0 47 RX3 yX3_put wsX3_put) := goodIn_app (goodIn_of _ (by decide +kernel)) ggX0_createFile_X3_put
theorem dX0_createFile_0 : decode cX0_createFile 0 = .ok (.iconst 0, 1) := by decide +kernel
theorem dX0_createFile_1 : decode cX0_createFile 1 = .ok (.istore_n 1, 1) := by decide +kernel
theorem dX0_createFile_2 : decode cX0_createFile 2 = .ok (.iload_n 1, 1) := by decide +kernel
theorem dX0_createFile_3 : decode cX0_createFile 3 = .ok (.bipush 8, 2) := by decide +kernel
theorem dX0_createFile_5 : decode cX0_createFile 5 = .ok (.if_icmp .ge 68, 3) := by decide +kernel
theorem dX0_createFile_8 : decode cX0_createFile 8 = .ok (.aload_n 0, 1) := by decide +kernel
theorem dX0_createFile_9 : decode cX0_createFile 9 = .ok (.getfield 26, 3) := by decide +kernel
theorem dX0_createFile_12 : decode cX0_createFile 12 = .ok (.iload_n 1, 1) := by decide +kernel
theorem dX0_createFile_13 : decode cX0_createFile 13 = .ok (.iconst 0, 1) := by decide +kernel
theorem dX0_createFile_14 : decode cX0_createFile 14 = .ok (.invokevirtual 54, 3) := by decide +kernel
theorem dX0_createFile_17 : decode cX0_createFile 17 = .ok (.ifCond .eq 50, 3) := by decide +kernel
theorem dX0_createFile_20 : decode cX0_createFile 20 = .ok (.aload_n 0, 1) := by decide +kernel
theorem dX0_createFile_21 : decode cX0_createFile 21 = .ok (.getfield 26, 3) := by decide +kernel
theorem dX0_createFile_24 : decode cX0_createFile 24 = .ok (.iload_n 1, 1) := by decide +kernel
theorem dX0_createFile_25 : decode cX0_createFile 25 = .ok (.iconst 1, 1) := by decide +kernel
theorem dX0_createFile_26 : decode cX0_createFile 26 = .ok (.invokevirtual 47, 3) := by decide +kernel
theorem dX0_createFile_29 : decode cX0_createFile 29 = .ok (.aload_n 0, 1) := by decide +kernel
theorem dX0_createFile_30 : decode cX0_createFile 30 = .ok (.getfield 29, 3) := by decide +kernel
theorem dX0_createFile_33 : decode cX0_createFile 33 = .ok (.iload_n 1, 1) := by decide +kernel
theorem dX0_createFile_34 : decode cX0_createFile 34 = .ok (.iconst 0, 1) := by decide +kernel
theorem dX0_createFile_35 : decode cX0_createFile 35 = .ok (.invokevirtual 47, 3) := by decide +kernel
theorem dX0_createFile_38 : decode cX0_createFile 38 = .ok (.aload_n 0, 1) := by decide +kernel
theorem dX0_createFile_39 : decode cX0_createFile 39 = .ok (.getfield 32, 3) := by decide +kernel
theorem dX0_createFile_42 : decode cX0_createFile 42 = .ok (.iload_n 1, 1) := by decide +kernel
theorem dX0_createFile_43 : decode cX0_createFile 43 = .ok (.iconst 0, 1) := by decide +kernel
theorem dX0_createFile_44 : decode cX0_createFile 44 = .ok (.invokevirtual 47, 3) := by decide +kernel
theorem dX0_createFile_47 : decode cX0_createFile 47 = .ok (.aload_n 0, 1) := by decide +kernel
theorem dX0_createFile_48 : decode cX0_createFile 48 = .ok (.getfield 35, 3) := by decide +kernel
theorem dX0_createFile_51 : decode cX0_createFile 51 = .ok (.iload_n 1, 1) := by decide +kernel
theorem dX0_createFile_52 : decode cX0_createFile 52 = .ok (.iconst 0, 1) := by decide +kernel
theorem dX0_createFile_53 : decode cX0_createFile 53 = .ok (.invokevirtual 47, 3) := by decide +kernel
theorem dX0_createFile_56 : decode cX0_createFile 56 = .ok (.aload_n 0, 1) := by decide +kernel
theorem dX0_createFile_57 : decode cX0_createFile 57 = .ok (.getfield 38, 3) := by decide +kernel
theorem dX0_createFile_60 : decode cX0_createFile 60 = .ok (.iload_n 1, 1) := by decide +kernel
theorem dX0_createFile_61 : decode cX0_createFile 61 = .ok (.iconst 1, 1) := by decide +kernel
theorem dX0_createFile_62 : decode cX0_createFile 62 = .ok (.invokevirtual 47, 3) := by decide +kernel
theorem dX0_createFile_65 : decode cX0_createFile 65 = .ok (.iload_n 1, 1) := by decide +kernel
theorem dX0_createFile_66 : decode cX0_createFile 66 = .ok (.ireturn, 1) := by decide +kernel
theorem dX0_createFile_67 : decode cX0_createFile 67 = .ok (.iinc 1 1, 3) := by decide +kernel
theorem dX0_createFile_70 : decode cX0_createFile 70 = .ok (.goto (-68), 3) := by decide +kernel
theorem dX0_createFile_73 : decode cX0_createFile 73 = .ok (.bipush (-3), 2) := by decide +kernel
theorem dX0_createFile_75 : decode cX0_createFile 75 = .ok (.ireturn, 1) := by decide +kernel
set_option maxRecDepth 20000 in
theorem ggX0_openFile_X0_isFile : GoodIn wsX0_openFile wsX0_isFile := goodIn_r _ [6, 1, 7, 8, 9, 10, 11, 12, 25, 26, 27, 28, 29, 30, 31, 32, 33, 34, 35] (by decide +kernel) (by decide +kernel)
set_option maxRecDepth 20000 in
theorem gX0_openFile_X0_isFile : GoodIn wsX0_openFile (wsV RX0 58 RX0 yX0_isFile wsX0_isFile) := goodIn_app (goodIn_of _ (by decide +kernel)) ggX0_openFile_X0_isFile
set_option maxRecDepth 20000 in
theorem ggX0_openFile_X0_isOpen : GoodIn wsX0_openFile wsX0_isOpen := goodIn_r _ [16, 1, 7, 8, 9, 10, 11, 12, 25, 26, 27, 28, 29, 30, 31, 32, 33, 34, 35] (by decide +kernel) (by decide +kernel)
set_option maxRecDepth 20000 in
theorem gX0_openFile_X0_isOpen : GoodIn wsX0_openFile (wsV RX0 62 RX0 yX0_isOpen wsX0_isOpen) := goodIn_app (goodIn_of _ (by decide +kernel)) ggX0_openFile_X0_isOpen
set_option maxRecDepth 20000 in
theorem ggX0_openFile_X3_put : GoodIn wsX0_openFile wsX3_put := goodIn_r _ [20, 12, 35] (by decide +kernel) (by decide +kernel)
set_option maxRecDepth 20000 in
theorem gX0_openFile_X3_put : GoodIn wsX0_openFile (wsV RX0 47 RX3 yX3_put wsX3_put) := goodIn_app (goodIn_of _ (by decide +kernel)) ggX0_openFile_X3_put
set_option maxRecDepth 20000 in
theorem ggX0_openFile_X0_filesThatAre : GoodIn wsX0_openFile wsX0_filesThatAre := goodIn_r _ [24, 1, 7, 8, 9, 10, 11, 12, 25, 26, 27, 28, 29, 30, 31, 32, 33, 34, 35] (by decide +kernel) (by decide +kernel)
set_option maxRecDepth 20000 in
theorem gX0_openFile_X0_filesThatAre : GoodIn wsX0_openFile (wsV RX0 65 RX0 yX0_filesThatAre wsX0_filesThatAre) := goodIn_app (goodIn_of _ (by decide +kernel)) ggX0_openFile_X0_filesThatAre
theorem dX0_openFile_0 : decode cX0_openFile 0 = .ok (.aload_n 0, 1) := by decide +kernel
theorem dX0_openFile_1 : decode cX0_openFile 1 = .ok (.iload_n 1, 1) := by decide +kernel
theorem dX0_openFile_2 : decode cX0_openFile 2 = .ok (.invokevirtual 58, 3) := by decide +kernel
theorem dX0_openFile_5 : decode cX0_openFile 5 = .ok (.ifCond .ne 5, 3) := by decide +kernel
theorem dX0_openFile_8 : decode cX0_openFile 8 = .ok (.iconst (-1), 1) := by decide +kernel
theorem dX0_openFile_9 : decode cX0_openFile 9 = .ok (.ireturn, 1) := by decide +kernel
theorem dX0_openFile_10 : decode cX0_openFile 10 = .ok (.aload_n 0, 1) := by decide +kernel
theorem dX0_openFile_11 : decode cX0_openFile 11 = .ok (.iload_n 1, 1) := by decide +kernel
theorem dX0_openFile_12 : decode cX0_openFile 12 = .ok (.invokevirtual 62, 3) := by decide +kernel
theorem dX0_openFile_15 : decode cX0_openFile 15 = .ok (.ifCond .eq 6, 3) := by decide +kernel
theorem dX0_openFile_18 : decode cX0_openFile 18 = .ok (.bipush (-4), 2) := by decide +kernel
theorem dX0_openFile_20 : decode cX0_openFile 20 = .ok (.ireturn, 1) := by decide +kernel
theorem dX0_openFile_21 : decode cX0_openFile 21 = .ok (.aload_n 0, 1) := by decide +kernel
theorem dX0_openFile_22 : decode cX0_openFile 22 = .ok (.getfield 26, 3) := by decide +kernel
theorem dX0_openFile_25 : decode cX0_openFile 25 = .ok (.iload_n 1, 1) := by decide +kernel
theorem dX0_openFile_26 : decode cX0_openFile 26 = .ok (.iconst 2, 1) := by decide +kernel
theorem dX0_openFile_27 : decode cX0_openFile 27 = .ok (.invokevirtual 47, 3) := by decide +kernel
theorem dX0_openFile_30 : decode cX0_openFile 30 = .ok (.aload_n 0, 1) := by decide +kernel
theorem dX0_openFile_31 : decode cX0_openFile 31 = .ok (.iconst 2, 1) := by decide +kernel
theorem dX0_openFile_32 : decode cX0_openFile 32 = .ok (.invokevirtual 65, 3) := by decide +kernel
theorem dX0_openFile_35 : decode cX0_openFile 35 = .ok (.ireturn, 1) := by decide +kernel
set_option maxRecDepth 20000 in
theorem ggX0_closeFile_X0_isFile : GoodIn wsX0_closeFile wsX0_isFile := goodIn_r _ [8, 3, 9, 10, 11, 12, 13, 14, 48, 49, 50, 51, 52, 53, 54, 55, 56, 57, 58] (by decide +kernel) (by decide +kernel)
set_option maxRecDepth 20000 in
theorem gX0_closeFile_X0_isFile : GoodIn wsX0_closeFile (wsV RX0 58 RX0 yX0_isFile wsX0_isFile) := goodIn_app (goodIn_of _ (by decide +kernel)) ggX0_closeFile_X0_isFile
set_option maxRecDepth 20000 in
theorem ggX0_closeFile_X0_isOpen : GoodIn wsX0_closeFile wsX0_isOpen := goodIn_r _ [18, 3, 9, 10, 11, 12, 13, 14, 48, 49, 50, 51, 52, 53, 54, 55, 56, 57, 58] (by decide +kernel) (by decide +kernel)
set_option maxRecDepth 20000 in
theorem gX0_closeFile_X0_isOpen : GoodIn wsX0_closeFile (wsV RX0 62 RX0 yX0_isOpen wsX0_isOpen) := goodIn_app (goodIn_of _ (by decide +kernel)) ggX0_closeFile_X0_isOpen
set_option maxRecDepth 20000 in
theorem ggX0_closeFile_X0_giveBack : GoodIn wsX0_closeFile wsX0_giveBack := goodIn_r _ [22, 2, 23, 24, 25, 26, 27, 7, 28, 29, 30, 31, 32, 12, 33, 14, 34, 35, 36, 37, 38, 39, 9, 10, 11, 13, 40, 41, 42, 43, 44, 45, 46, 47, 48, 49, 50, 51, 52, 53, 54, 55, 56, 57, 58] (by decide +kernel) (by decide +kernel)
set_option maxRecDepth 20000 in
theorem gX0_closeFile_X0_giveBack : GoodIn wsX0_closeFile (wsV RX0 69 RX0 yX0_giveBack wsX0_giveBack) := goodIn_app (goodIn_of _ (by decide +kernel)) ggX0_closeFile_X0_giveBack
set_option maxRecDepth 20000 in
theorem ggX0_closeFile_X3_at : GoodIn wsX0_closeFile wsX3_at := goodIn_r _ [33, 14, 58] (by decide +kernel) (by decide +kernel)
set_option maxRecDepth 20000 in
theorem gX0_closeFile_X3_at : GoodIn wsX0_closeFile (wsV RX0 72 RX3 yX3_at wsX3_at) := goodIn_app (goodIn_of _ (by decide +kernel)) ggX0_closeFile_X3_at
set_option maxRecDepth 20000 in
theorem ggX0_closeFile_X3_put : GoodIn wsX0_closeFile wsX3_put := goodIn_r _ [43, 14, 58] (by decide +kernel) (by decide +kernel)
set_option maxRecDepth 20000 in
theorem gX0_closeFile_X3_put : GoodIn wsX0_closeFile (wsV RX0 47 RX3 yX3_put wsX3_put) := goodIn_app (goodIn_of _ (by decide +kernel)) ggX0_closeFile_X3_put
theorem dX0_closeFile_0 : decode cX0_closeFile 0 = .ok (.aload_n 0, 1) := by decide +kernel
theorem dX0_closeFile_1 : decode cX0_closeFile 1 = .ok (.iload_n 1, 1) := by decide +kernel
theorem dX0_closeFile_2 : decode cX0_closeFile 2 = .ok (.invokevirtual 58, 3) := by decide +kernel
theorem dX0_closeFile_5 : decode cX0_closeFile 5 = .ok (.ifCond .ne 5, 3) := by decide +kernel
theorem dX0_closeFile_8 : decode cX0_closeFile 8 = .ok (.iconst (-1), 1) := by decide +kernel
theorem dX0_closeFile_9 : decode cX0_closeFile 9 = .ok (.ireturn, 1) := by decide +kernel
theorem dX0_closeFile_10 : decode cX0_closeFile 10 = .ok (.aload_n 0, 1) := by decide +kernel
theorem dX0_closeFile_11 : decode cX0_closeFile 11 = .ok (.iload_n 1, 1) := by decide +kernel
theorem dX0_closeFile_12 : decode cX0_closeFile 12 = .ok (.invokevirtual 62, 3) := by decide +kernel
theorem dX0_closeFile_15 : decode cX0_closeFile 15 = .ok (.ifCond .ne 6, 3) := by decide +kernel
theorem dX0_closeFile_18 : decode cX0_closeFile 18 = .ok (.bipush (-4), 2) := by decide +kernel
theorem dX0_closeFile_20 : decode cX0_closeFile 20 = .ok (.ireturn, 1) := by decide +kernel
theorem dX0_closeFile_21 : decode cX0_closeFile 21 = .ok (.aload_n 0, 1) := by decide +kernel
theorem dX0_closeFile_22 : decode cX0_closeFile 22 = .ok (.iload_n 1, 1) := by decide +kernel
theorem dX0_closeFile_23 : decode cX0_closeFile 23 = .ok (.invokevirtual 69, 3) := by decide +kernel
theorem dX0_closeFile_26 : decode cX0_closeFile 26 = .ok (.istore_n 2, 1) := by decide +kernel
theorem dX0_closeFile_27 : decode cX0_closeFile 27 = .ok (.aload_n 0, 1) := by decide +kernel
theorem dX0_closeFile_28 : decode cX0_closeFile 28 = .ok (.getfield 35, 3) := by decide +kernel
theorem dX0_closeFile_31 : decode cX0_closeFile 31 = .ok (.iload_n 1, 1) := by decide +kernel
theorem dX0_closeFile_32 : decode cX0_closeFile 32 = .ok (.aload_n 0, 1) := by decide +kernel
theorem dX0_closeFile_33 : decode cX0_closeFile 33 = .ok (.getfield 32, 3) := by decide +kernel
theorem dX0_closeFile_36 : decode cX0_closeFile 36 = .ok (.iload_n 1, 1) := by decide +kernel
theorem dX0_closeFile_37 : decode cX0_closeFile 37 = .ok (.invokevirtual 72, 3) := by decide +kernel
theorem dX0_closeFile_40 : decode cX0_closeFile 40 = .ok (.invokevirtual 47, 3) := by decide +kernel
theorem dX0_closeFile_43 : decode cX0_closeFile 43 = .ok (.aload_n 0, 1) := by decide +kernel
theorem dX0_closeFile_44 : decode cX0_closeFile 44 = .ok (.getfield 26, 3) := by decide +kernel
theorem dX0_closeFile_47 : decode cX0_closeFile 47 = .ok (.iload_n 1, 1) := by decide +kernel
theorem dX0_closeFile_48 : decode cX0_closeFile 48 = .ok (.iconst 1, 1) := by decide +kernel
theorem dX0_closeFile_49 : decode cX0_closeFile 49 = .ok (.invokevirtual 47, 3) := by decide +kernel
theorem dX0_closeFile_52 : decode cX0_closeFile 52 = .ok (.iload_n 2, 1) := by decide +kernel
theorem dX0_closeFile_53 : decode cX0_closeFile 53 = .ok (.ireturn, 1) := by decide +kernel
set_option maxRecDepth 20000 in
theorem ggX0_removeFile_X0_isFile : GoodIn wsX0_removeFile wsX0_isFile := goodIn_r _ [8, 3, 9, 10, 11, 12, 13, 14, 33, 34, 35, 36, 37, 38, 39, 40, 41, 42, 43] (by decide +kernel) (by decide +kernel)
set_option maxRecDepth 20000 in
theorem gX0_removeFile_X0_isFile : GoodIn wsX0_removeFile (wsV RX0 58 RX0 yX0_isFile wsX0_isFile) := goodIn_app (goodIn_of _ (by decide +kernel)) ggX0_removeFile_X0_isFile
set_option maxRecDepth 20000 in
theorem ggX0_removeFile_X0_isOpen : GoodIn wsX0_removeFile wsX0_isOpen := goodIn_r _ [18, 3, 9, 10, 11, 12, 13, 14, 33, 34, 35, 36, 37, 38, 39, 40, 41, 42, 43] (by decide +kernel) (by decide +kernel)
set_option maxRecDepth 20000 in
theorem gX0_removeFile_X0_isOpen : GoodIn wsX0_removeFile (wsV RX0 62 RX0 yX0_isOpen wsX0_isOpen) := goodIn_app (goodIn_of _ (by decide +kernel)) ggX0_removeFile_X0_isOpen
set_option maxRecDepth 20000 in
theorem ggX0_removeFile_X3_at : GoodIn wsX0_removeFile wsX3_at := goodIn_r _ [22, 14, 43] (by decide +kernel) (by decide +kernel)
set_option maxRecDepth 20000 in
theorem gX0_removeFile_X3_at : GoodIn wsX0_removeFile (wsV RX0 72 RX3 yX3_at wsX3_at) := goodIn_app (goodIn_of _ (by decide +kernel)) ggX0_removeFile_X3_at
set_option maxRecDepth 20000 in
theorem ggX0_removeFile_X0_freeFrom : GoodIn wsX0_removeFile wsX0_freeFrom := goodIn_r _ [26, 27, 28, 1, 9, 10, 11, 12, 13, 14, 19, 20, 21, 22, 29, 30, 31, 32, 33, 34, 35, 36, 37, 38, 39, 40, 41, 42, 43] (by decide +kernel) (by decide +kernel)
set_option maxRecDepth 20000 in
theorem gX0_removeFile_X0_freeFrom : GoodIn wsX0_removeFile (wsV RX0 75 RX0 yX0_freeFrom wsX0_freeFrom) := goodIn_app (goodIn_of _ (by decide +kernel)) ggX0_removeFile_X0_freeFrom
set_option maxRecDepth 20000 in
theorem ggX0_removeFile_X3_put : GoodIn wsX0_removeFile wsX3_put := goodIn_r _ [32, 14, 43] (by decide +kernel) (by decide +kernel)
set_option maxRecDepth 20000 in
theorem gX0_removeFile_X3_put : GoodIn wsX0_removeFile (wsV RX0 47 RX3 yX3_put wsX3_put) := goodIn_app (goodIn_of _ (by decide +kernel)) ggX0_removeFile_X3_put
theorem dX0_removeFile_0 : decode cX0_removeFile 0 = .ok (.aload_n 0, 1) := by decide +kernel
theorem dX0_removeFile_1 : decode cX0_removeFile 1 = .ok (.iload_n 1, 1) := by decide +kernel
theorem dX0_removeFile_2 : decode cX0_removeFile 2 = .ok (.invokevirtual 58, 3) := by decide +kernel
theorem dX0_removeFile_5 : decode cX0_removeFile 5 = .ok (.ifCond .ne 5, 3) := by decide +kernel
theorem dX0_removeFile_8 : decode cX0_removeFile 8 = .ok (.iconst (-1), 1) := by decide +kernel
theorem dX0_removeFile_9 : decode cX0_removeFile 9 = .ok (.ireturn, 1) := by decide +kernel
theorem dX0_removeFile_10 : decode cX0_removeFile 10 = .ok (.aload_n 0, 1) := by decide +kernel
theorem dX0_removeFile_11 : decode cX0_removeFile 11 = .ok (.iload_n 1, 1) := by decide +kernel
theorem dX0_removeFile_12 : decode cX0_removeFile 12 = .ok (.invokevirtual 62, 3) := by decide +kernel
theorem dX0_removeFile_15 : decode cX0_removeFile 15 = .ok (.ifCond .eq 6, 3) := by decide +kernel
theorem dX0_removeFile_18 : decode cX0_removeFile 18 = .ok (.bipush (-4), 2) := by decide +kernel
theorem dX0_removeFile_20 : decode cX0_removeFile 20 = .ok (.ireturn, 1) := by decide +kernel
theorem dX0_removeFile_21 : decode cX0_removeFile 21 = .ok (.aload_n 0, 1) := by decide +kernel
theorem dX0_removeFile_22 : decode cX0_removeFile 22 = .ok (.getfield 29, 3) := by decide +kernel
theorem dX0_removeFile_25 : decode cX0_removeFile 25 = .ok (.iload_n 1, 1) := by decide +kernel
theorem dX0_removeFile_26 : decode cX0_removeFile 26 = .ok (.invokevirtual 72, 3) := by decide +kernel
theorem dX0_removeFile_29 : decode cX0_removeFile 29 = .ok (.istore_n 2, 1) := by decide +kernel
theorem dX0_removeFile_30 : decode cX0_removeFile 30 = .ok (.aload_n 0, 1) := by decide +kernel
theorem dX0_removeFile_31 : decode cX0_removeFile 31 = .ok (.iload_n 1, 1) := by decide +kernel
theorem dX0_removeFile_32 : decode cX0_removeFile 32 = .ok (.iconst 0, 1) := by decide +kernel
theorem dX0_removeFile_33 : decode cX0_removeFile 33 = .ok (.invokevirtual 75, 3) := by decide +kernel
theorem dX0_removeFile_36 : decode cX0_removeFile 36 = .ok (.aload_n 0, 1) := by decide +kernel
theorem dX0_removeFile_37 : decode cX0_removeFile 37 = .ok (.getfield 32, 3) := by decide +kernel
theorem dX0_removeFile_40 : decode cX0_removeFile 40 = .ok (.iload_n 1, 1) := by decide +kernel
theorem dX0_removeFile_41 : decode cX0_removeFile 41 = .ok (.iconst 0, 1) := by decide +kernel
theorem dX0_removeFile_42 : decode cX0_removeFile 42 = .ok (.invokevirtual 47, 3) := by decide +kernel
theorem dX0_removeFile_45 : decode cX0_removeFile 45 = .ok (.aload_n 0, 1) := by decide +kernel
theorem dX0_removeFile_46 : decode cX0_removeFile 46 = .ok (.getfield 26, 3) := by decide +kernel
theorem dX0_removeFile_49 : decode cX0_removeFile 49 = .ok (.iload_n 1, 1) := by decide +kernel
theorem dX0_removeFile_50 : decode cX0_removeFile 50 = .ok (.iconst 0, 1) := by decide +kernel
theorem dX0_removeFile_51 : decode cX0_removeFile 51 = .ok (.invokevirtual 47, 3) := by decide +kernel
theorem dX0_removeFile_54 : decode cX0_removeFile 54 = .ok (.iload_n 2, 1) := by decide +kernel
theorem dX0_removeFile_55 : decode cX0_removeFile 55 = .ok (.ireturn, 1) := by decide +kernel
set_option maxRecDepth 20000 in
theorem ggX0_syncFile_X0_isFile : GoodIn wsX0_syncFile wsX0_isFile := goodIn_r _ [7, 8, 9, 10, 11, 12, 13, 14, 27, 28, 29, 30, 31, 32, 33, 34, 35, 36, 37] (by decide +kernel) (by decide +kernel)
set_option maxRecDepth 20000 in
theorem gX0_syncFile_X0_isFile : GoodIn wsX0_syncFile (wsV RX0 58 RX0 yX0_isFile wsX0_isFile) := goodIn_app (goodIn_of _ (by decide +kernel)) ggX0_syncFile_X0_isFile
set_option maxRecDepth 20000 in
theorem ggX0_syncFile_X0_isOpen : GoodIn wsX0_syncFile wsX0_isOpen := goodIn_r _ [18, 8, 9, 10, 11, 12, 13, 14, 27, 28, 29, 30, 31, 32, 33, 34, 35, 36, 37] (by decide +kernel) (by decide +kernel)
set_option maxRecDepth 20000 in
theorem gX0_syncFile_X0_isOpen : GoodIn wsX0_syncFile (wsV RX0 62 RX0 yX0_isOpen wsX0_isOpen) := goodIn_app (goodIn_of _ (by decide +kernel)) ggX0_syncFile_X0_isOpen
set_option maxRecDepth 20000 in
theorem ggX0_syncFile_X3_at : GoodIn wsX0_syncFile wsX3_at := goodIn_r _ [22, 14, 37] (by decide +kernel) (by decide +kernel)
set_option maxRecDepth 20000 in
theorem gX0_syncFile_X3_at : GoodIn wsX0_syncFile (wsV RX0 72 RX3 yX3_at wsX3_at) := goodIn_app (goodIn_of _ (by decide +kernel)) ggX0_syncFile_X3_at
set_option maxRecDepth 20000 in
theorem ggX0_syncFile_X3_put : GoodIn wsX0_syncFile wsX3_put := goodIn_r _ [26, 14, 37] (by decide +kernel) (by decide +kernel)
set_option maxRecDepth 20000 in
theorem gX0_syncFile_X3_put : GoodIn wsX0_syncFile (wsV RX0 47 RX3 yX3_put wsX3_put) := goodIn_app (goodIn_of _ (by decide +kernel)) ggX0_syncFile_X3_put
theorem dX0_syncFile_0 : decode cX0_syncFile 0 = .ok (.aload_n 0, 1) := by decide +kernel
theorem dX0_syncFile_1 : decode cX0_syncFile 1 = .ok (.iload_n 1, 1) := by decide +kernel
theorem dX0_syncFile_2 : decode cX0_syncFile 2 = .ok (.invokevirtual 58, 3) := by decide +kernel
theorem dX0_syncFile_5 : decode cX0_syncFile 5 = .ok (.ifCond .ne 5, 3) := by decide +kernel
theorem dX0_syncFile_8 : decode cX0_syncFile 8 = .ok (.iconst (-1), 1) := by decide +kernel
theorem dX0_syncFile_9 : decode cX0_syncFile 9 = .ok (.ireturn, 1) := by decide +kernel
theorem dX0_syncFile_10 : decode cX0_syncFile 10 = .ok (.aload_n 0, 1) := by decide +kernel
theorem dX0_syncFile_11 : decode cX0_syncFile 11 = .ok (.iload_n 1, 1) := by decide +kernel
theorem dX0_syncFile_12 : decode cX0_syncFile 12 = .ok (.invokevirtual 62, 3) := by decide +kernel
theorem dX0_syncFile_15 : decode cX0_syncFile 15 = .ok (.ifCond .ne 6, 3) := by decide +kernel
theorem dX0_syncFile_18 : decode cX0_syncFile 18 = .ok (.bipush (-4), 2) := by decide +kernel
theorem dX0_syncFile_20 : decode cX0_syncFile 20 = .ok (.ireturn, 1) := by decide +kernel
theorem dX0_syncFile_21 : decode cX0_syncFile 21 = .ok (.aload_n 0, 1) := by decide +kernel
theorem dX0_syncFile_22 : decode cX0_syncFile 22 = .ok (.getfield 32, 3) := by decide +kernel
theorem dX0_syncFile_25 : decode cX0_syncFile 25 = .ok (.iload_n 1, 1) := by decide +kernel
theorem dX0_syncFile_26 : decode cX0_syncFile 26 = .ok (.invokevirtual 72, 3) := by decide +kernel
theorem dX0_syncFile_29 : decode cX0_syncFile 29 = .ok (.aload_n 0, 1) := by decide +kernel
theorem dX0_syncFile_30 : decode cX0_syncFile 30 = .ok (.getfield 35, 3) := by decide +kernel
theorem dX0_syncFile_33 : decode cX0_syncFile 33 = .ok (.iload_n 1, 1) := by decide +kernel
theorem dX0_syncFile_34 : decode cX0_syncFile 34 = .ok (.invokevirtual 72, 3) := by decide +kernel
theorem dX0_syncFile_37 : decode cX0_syncFile 37 = .ok (.isub, 1) := by decide +kernel
theorem dX0_syncFile_38 : decode cX0_syncFile 38 = .ok (.istore_n 2, 1) := by decide +kernel
theorem dX0_syncFile_39 : decode cX0_syncFile 39 = .ok (.aload_n 0, 1) := by decide +kernel
theorem dX0_syncFile_40 : decode cX0_syncFile 40 = .ok (.getfield 35, 3) := by decide +kernel
theorem dX0_syncFile_43 : decode cX0_syncFile 43 = .ok (.iload_n 1, 1) := by decide +kernel
theorem dX0_syncFile_44 : decode cX0_syncFile 44 = .ok (.aload_n 0, 1) := by decide +kernel
theorem dX0_syncFile_45 : decode cX0_syncFile 45 = .ok (.getfield 32, 3) := by decide +kernel
theorem dX0_syncFile_48 : decode cX0_syncFile 48 = .ok (.iload_n 1, 1) := by decide +kernel
theorem dX0_syncFile_49 : decode cX0_syncFile 49 = .ok (.invokevirtual 72, 3) := by decide +kernel
theorem dX0_syncFile_52 : decode cX0_syncFile 52 = .ok (.invokevirtual 47, 3) := by decide +kernel
theorem dX0_syncFile_55 : decode cX0_syncFile 55 = .ok (.iload_n 2, 1) := by decide +kernel
theorem dX0_syncFile_56 : decode cX0_syncFile 56 = .ok (.ireturn, 1) := by decide +kernel
set_option maxRecDepth 20000 in
theorem ggX0_appendTo_X0_isFile : GoodIn wsX0_appendTo wsX0_isFile := goodIn_r _ [5, 6, 7, 8, 9, 10, 11, 12, 113, 114, 115, 116, 117, 118, 119, 120, 121, 122, 123] (by decide +kernel) (by decide +kernel)
set_option maxRecDepth 20000 in
theorem gX0_appendTo_X0_isFile : GoodIn wsX0_appendTo (wsV RX0 58 RX0 yX0_isFile wsX0_isFile) := goodIn_app (goodIn_of _ (by decide +kernel)) ggX0_appendTo_X0_isFile
set_option maxRecDepth 20000 in
theorem ggX0_appendTo_X0_isOpen : GoodIn wsX0_appendTo wsX0_isOpen := goodIn_r _ [16, 6, 7, 8, 9, 10, 11, 12, 113, 114, 115, 116, 117, 118, 119, 120, 121, 122, 123] (by decide +kernel) (by decide +kernel)
set_option maxRecDepth 20000 in
theorem gX0_appendTo_X0_isOpen : GoodIn wsX0_appendTo (wsV RX0 62 RX0 yX0_isOpen wsX0_isOpen) := goodIn_app (goodIn_of _ (by decide +kernel)) ggX0_appendTo_X0_isOpen
set_option maxRecDepth 20000 in
theorem ggX0_appendTo_X0_blocksWithoutData : GoodIn wsX0_appendTo wsX0_blocksWithoutData := goodIn_r _ [20, 21, 22, 23, 4, 24, 25, 26, 27, 28, 10, 29, 12, 113, 114, 115, 116, 117, 118, 119, 120, 121, 122, 123] (by decide +kernel) (by decide +kernel)
set_option maxRecDepth 20000 in
theorem gX0_appendTo_X0_blocksWithoutData : GoodIn wsX0_appendTo (wsV RX0 78 RX0 yX0_blocksWithoutData wsX0_blocksWithoutData) := goodIn_app (goodIn_of _ (by decide +kernel)) ggX0_appendTo_X0_blocksWithoutData
set_option maxRecDepth 20000 in
theorem ggX0_appendTo_X0_lentOf : GoodIn wsX0_appendTo wsX0_lentOf := goodIn_r _ [33, 34, 25, 26, 27, 28, 10, 29, 12, 113, 114, 115, 116, 117, 118, 119, 120, 121, 122, 123] (by decide +kernel) (by decide +kernel)
set_option maxRecDepth 20000 in
theorem gX0_appendTo_X0_lentOf : GoodIn wsX0_appendTo (wsV RX0 82 RX0 yX0_lentOf wsX0_lentOf) := goodIn_app (goodIn_of _ (by decide +kernel)) ggX0_appendTo_X0_lentOf
set_option maxRecDepth 20000 in
theorem ggX0_appendTo_X0_takeBack : GoodIn wsX0_appendTo wsX0_takeBack := goodIn_r _ [38, 39, 40, 41, 42, 4, 43, 44, 7, 8, 9, 10, 11, 12, 45, 46, 47, 48, 30, 31, 32, 33, 34, 25, 26, 27, 28, 29, 49, 50, 51, 52, 53, 54, 55, 56, 57, 58, 59, 60, 61, 62, 63, 64, 65, 66, 113, 114, 115, 116, 117, 118, 119, 120, 121, 122, 123] (by decide +kernel) (by decide +kernel)
set_option maxRecDepth 20000 in
theorem gX0_appendTo_X0_takeBack : GoodIn wsX0_appendTo (wsV RX0 85 RX0 yX0_takeBack wsX0_takeBack) := goodIn_app (goodIn_of _ (by decide +kernel)) ggX0_appendTo_X0_takeBack
set_option maxRecDepth 20000 in
theorem ggX0_appendTo_X0_lengthen : GoodIn wsX0_appendTo wsX0_lengthen := goodIn_r _ [70, 53, 71, 72, 73, 74, 75, 34, 26, 27, 28, 10, 29, 12, 40, 41, 42, 4, 43, 44, 7, 8, 9, 11, 76, 77, 78, 79, 58, 80, 81, 82, 83, 59, 60, 61, 62, 63, 64, 65, 66, 84, 85, 86, 87, 88, 89, 90, 91, 92, 93, 94, 95, 113, 114, 115, 116, 117, 118, 119, 120, 121, 122, 123] (by decide +kernel) (by decide +kernel)
set_option maxRecDepth 20000 in
theorem gX0_appendTo_X0_lengthen : GoodIn wsX0_appendTo (wsV RX0 88 RX0 yX0_lengthen wsX0_lengthen) := goodIn_app (goodIn_of _ (by decide +kernel)) ggX0_appendTo_X0_lengthen
set_option maxRecDepth 20000 in
theorem ggX0_appendTo_X0_write : GoodIn wsX0_appendTo wsX0_write := goodIn_r _ [99, 25, 100, 39, 26, 27, 28, 10, 29, 12, 101, 102, 103, 4, 104, 44, 58, 7, 8, 9, 11, 59, 60, 61, 62, 63, 64, 65, 66, 113, 114, 115, 116, 117, 118, 119, 120, 121, 122, 123] (by decide +kernel) (by decide +kernel)
set_option maxRecDepth 20000 in
theorem gX0_appendTo_X0_write : GoodIn wsX0_appendTo (wsV RX0 91 RX0 yX0_write wsX0_write) := goodIn_app (goodIn_of _ (by decide +kernel)) ggX0_appendTo_X0_write
set_option maxRecDepth 20000 in
theorem ggX0_appendTo_X0_extentsOf : GoodIn wsX0_appendTo wsX0_extentsOf := goodIn_r _ [108, 44, 7, 8, 9, 10, 11, 12, 109, 110, 111, 4, 112, 58, 26, 27, 28, 29, 113, 114, 115, 116, 117, 118, 119, 120, 121, 122, 123] (by decide +kernel) (by decide +kernel)
set_option maxRecDepth 20000 in
theorem gX0_appendTo_X0_extentsOf : GoodIn wsX0_appendTo (wsV RX0 95 RX0 yX0_extentsOf wsX0_extentsOf) := goodIn_app (goodIn_of _ (by decide +kernel)) ggX0_appendTo_X0_extentsOf
theorem dX0_appendTo_0 : decode cX0_appendTo 0 = .ok (.aload_n 0, 1) := by decide +kernel
theorem dX0_appendTo_1 : decode cX0_appendTo 1 = .ok (.iload_n 1, 1) := by decide +kernel
theorem dX0_appendTo_2 : decode cX0_appendTo 2 = .ok (.invokevirtual 58, 3) := by decide +kernel
theorem dX0_appendTo_5 : decode cX0_appendTo 5 = .ok (.ifCond .ne 5, 3) := by decide +kernel
theorem dX0_appendTo_8 : decode cX0_appendTo 8 = .ok (.iconst (-1), 1) := by decide +kernel
theorem dX0_appendTo_9 : decode cX0_appendTo 9 = .ok (.ireturn, 1) := by decide +kernel
theorem dX0_appendTo_10 : decode cX0_appendTo 10 = .ok (.iload_n 2, 1) := by decide +kernel
theorem dX0_appendTo_11 : decode cX0_appendTo 11 = .ok (.iconst 1, 1) := by decide +kernel
theorem dX0_appendTo_12 : decode cX0_appendTo 12 = .ok (.if_icmp .lt 19, 3) := by decide +kernel
theorem dX0_appendTo_15 : decode cX0_appendTo 15 = .ok (.iload_n 2, 1) := by decide +kernel
theorem dX0_appendTo_16 : decode cX0_appendTo 16 = .ok (.bipush 64, 2) := by decide +kernel
theorem dX0_appendTo_18 : decode cX0_appendTo 18 = .ok (.if_icmp .gt 13, 3) := by decide +kernel
theorem dX0_appendTo_21 : decode cX0_appendTo 21 = .ok (.iload_n 3, 1) := by decide +kernel
theorem dX0_appendTo_22 : decode cX0_appendTo 22 = .ok (.ifCond .lt 9, 3) := by decide +kernel
theorem dX0_appendTo_25 : decode cX0_appendTo 25 = .ok (.iload_n 3, 1) := by decide +kernel
theorem dX0_appendTo_26 : decode cX0_appendTo 26 = .ok (.bipush 99, 2) := by decide +kernel
theorem dX0_appendTo_28 : decode cX0_appendTo 28 = .ok (.if_icmp .le 6, 3) := by decide +kernel
theorem dX0_appendTo_31 : decode cX0_appendTo 31 = .ok (.bipush (-2), 2) := by decide +kernel
theorem dX0_appendTo_33 : decode cX0_appendTo 33 = .ok (.ireturn, 1) := by decide +kernel
theorem dX0_appendTo_34 : decode cX0_appendTo 34 = .ok (.aload_n 0, 1) := by decide +kernel
theorem dX0_appendTo_35 : decode cX0_appendTo 35 = .ok (.iload_n 1, 1) := by decide +kernel
theorem dX0_appendTo_36 : decode cX0_appendTo 36 = .ok (.invokevirtual 62, 3) := by decide +kernel
theorem dX0_appendTo_39 : decode cX0_appendTo 39 = .ok (.ifCond .eq 11, 3) := by decide +kernel
theorem dX0_appendTo_42 : decode cX0_appendTo 42 = .ok (.iload_n 2, 1) := by decide +kernel
theorem dX0_appendTo_43 : decode cX0_appendTo 43 = .ok (.aload_n 0, 1) := by decide +kernel
theorem dX0_appendTo_44 : decode cX0_appendTo 44 = .ok (.invokevirtual 78, 3) := by decide +kernel
theorem dX0_appendTo_47 : decode cX0_appendTo 47 = .ok (.if_icmp .le 6, 3) := by decide +kernel
theorem dX0_appendTo_50 : decode cX0_appendTo 50 = .ok (.bipush (-4), 2) := by decide +kernel
theorem dX0_appendTo_52 : decode cX0_appendTo 52 = .ok (.ireturn, 1) := by decide +kernel
theorem dX0_appendTo_53 : decode cX0_appendTo 53 = .ok (.iload_n 2, 1) := by decide +kernel
theorem dX0_appendTo_54 : decode cX0_appendTo 54 = .ok (.aload_n 0, 1) := by decide +kernel
theorem dX0_appendTo_55 : decode cX0_appendTo 55 = .ok (.iload_n 1, 1) := by decide +kernel
theorem dX0_appendTo_56 : decode cX0_appendTo 56 = .ok (.invokevirtual 82, 3) := by decide +kernel
theorem dX0_appendTo_59 : decode cX0_appendTo 59 = .ok (.isub, 1) := by decide +kernel
theorem dX0_appendTo_60 : decode cX0_appendTo 60 = .ok (.istore 4, 2) := by decide +kernel
theorem dX0_appendTo_62 : decode cX0_appendTo 62 = .ok (.iload 4, 2) := by decide +kernel
theorem dX0_appendTo_64 : decode cX0_appendTo 64 = .ok (.ifCond .le 17, 3) := by decide +kernel
theorem dX0_appendTo_67 : decode cX0_appendTo 67 = .ok (.aload_n 0, 1) := by decide +kernel
theorem dX0_appendTo_68 : decode cX0_appendTo 68 = .ok (.iload_n 1, 1) := by decide +kernel
theorem dX0_appendTo_69 : decode cX0_appendTo 69 = .ok (.iload 4, 2) := by decide +kernel
theorem dX0_appendTo_71 : decode cX0_appendTo 71 = .ok (.invokevirtual 85, 3) := by decide +kernel
theorem dX0_appendTo_74 : decode cX0_appendTo 74 = .ok (.aload_n 0, 1) := by decide +kernel
theorem dX0_appendTo_75 : decode cX0_appendTo 75 = .ok (.iload_n 1, 1) := by decide +kernel
theorem dX0_appendTo_76 : decode cX0_appendTo 76 = .ok (.iload 4, 2) := by decide +kernel
theorem dX0_appendTo_78 : decode cX0_appendTo 78 = .ok (.invokevirtual 88, 3) := by decide +kernel
theorem dX0_appendTo_81 : decode cX0_appendTo 81 = .ok (.aload_n 0, 1) := by decide +kernel
theorem dX0_appendTo_82 : decode cX0_appendTo 82 = .ok (.iload_n 1, 1) := by decide +kernel
theorem dX0_appendTo_83 : decode cX0_appendTo 83 = .ok (.iload_n 2, 1) := by decide +kernel
theorem dX0_appendTo_84 : decode cX0_appendTo 84 = .ok (.iload_n 3, 1) := by decide +kernel
theorem dX0_appendTo_85 : decode cX0_appendTo 85 = .ok (.invokevirtual 91, 3) := by decide +kernel
theorem dX0_appendTo_88 : decode cX0_appendTo 88 = .ok (.aload_n 0, 1) := by decide +kernel
theorem dX0_appendTo_89 : decode cX0_appendTo 89 = .ok (.iload_n 1, 1) := by decide +kernel
theorem dX0_appendTo_90 : decode cX0_appendTo 90 = .ok (.invokevirtual 95, 3) := by decide +kernel
theorem dX0_appendTo_93 : decode cX0_appendTo 93 = .ok (.ireturn, 1) := by decide +kernel
set_option maxRecDepth 20000 in
theorem ggX0_cutFile_X0_isFile : GoodIn wsX0_cutFile wsX0_isFile := goodIn_r _ [12, 13, 14, 15, 16, 17, 18, 19, 52, 53, 54, 55, 56, 57, 58, 59, 60, 61, 62] (by decide +kernel) (by decide +kernel)
set_option maxRecDepth 20000 in
theorem gX0_cutFile_X0_isFile : GoodIn wsX0_cutFile (wsV RX0 58 RX0 yX0_isFile wsX0_isFile) := goodIn_app (goodIn_of _ (by decide +kernel)) ggX0_cutFile_X0_isFile
set_option maxRecDepth 20000 in
theorem ggX0_cutFile_X0_isOpen : GoodIn wsX0_cutFile wsX0_isOpen := goodIn_r _ [23, 13, 14, 15, 16, 17, 18, 19, 52, 53, 54, 55, 56, 57, 58, 59, 60, 61, 62] (by decide +kernel) (by decide +kernel)
set_option maxRecDepth 20000 in
theorem gX0_cutFile_X0_isOpen : GoodIn wsX0_cutFile (wsV RX0 62 RX0 yX0_isOpen wsX0_isOpen) := goodIn_app (goodIn_of _ (by decide +kernel)) ggX0_cutFile_X0_isOpen
set_option maxRecDepth 20000 in
theorem ggX0_cutFile_X3_at : GoodIn wsX0_cutFile wsX3_at := goodIn_r _ [27, 19, 62] (by decide +kernel) (by decide +kernel)
set_option maxRecDepth 20000 in
theorem gX0_cutFile_X3_at : GoodIn wsX0_cutFile (wsV RX0 72 RX3 yX3_at wsX3_at) := goodIn_app (goodIn_of _ (by decide +kernel)) ggX0_cutFile_X3_at
set_option maxRecDepth 20000 in
theorem ggX0_cutFile_X0_giveBack : GoodIn wsX0_cutFile wsX0_giveBack := goodIn_r _ [31, 1, 32, 33, 34, 35, 36, 11, 37, 2, 24, 25, 26, 17, 27, 19, 38, 39, 40, 41, 42, 43, 14, 15, 16, 18, 44, 45, 46, 47, 48, 49, 50, 51, 52, 53, 54, 55, 56, 57, 58, 59, 60, 61, 62] (by decide +kernel) (by decide +kernel)
set_option maxRecDepth 20000 in
theorem gX0_cutFile_X0_giveBack : GoodIn wsX0_cutFile (wsV RX0 69 RX0 yX0_giveBack wsX0_giveBack) := goodIn_app (goodIn_of _ (by decide +kernel)) ggX0_cutFile_X0_giveBack
set_option maxRecDepth 20000 in
theorem ggX0_cutFile_X0_freeFrom : GoodIn wsX0_cutFile wsX0_freeFrom := goodIn_r _ [41, 42, 43, 2, 14, 15, 16, 17, 18, 19, 24, 25, 26, 27, 44, 45, 46, 47, 52, 53, 54, 55, 56, 57, 58, 59, 60, 61, 62] (by decide +kernel) (by decide +kernel)
set_option maxRecDepth 20000 in
theorem gX0_cutFile_X0_freeFrom : GoodIn wsX0_cutFile (wsV RX0 75 RX0 yX0_freeFrom wsX0_freeFrom) := goodIn_app (goodIn_of _ (by decide +kernel)) ggX0_cutFile_X0_freeFrom
set_option maxRecDepth 20000 in
theorem ggX0_cutFile_X3_put : GoodIn wsX0_cutFile wsX3_put := goodIn_r _ [47, 19, 62] (by decide +kernel) (by decide +kernel)
set_option maxRecDepth 20000 in
theorem gX0_cutFile_X3_put : GoodIn wsX0_cutFile (wsV RX0 47 RX3 yX3_put wsX3_put) := goodIn_app (goodIn_of _ (by decide +kernel)) ggX0_cutFile_X3_put
theorem dX0_cutFile_0 : decode cX0_cutFile 0 = .ok (.aload_n 0, 1) := by decide +kernel
theorem dX0_cutFile_1 : decode cX0_cutFile 1 = .ok (.iload_n 1, 1) := by decide +kernel
theorem dX0_cutFile_2 : decode cX0_cutFile 2 = .ok (.invokevirtual 58, 3) := by decide +kernel
theorem dX0_cutFile_5 : decode cX0_cutFile 5 = .ok (.ifCond .ne 5, 3) := by decide +kernel
theorem dX0_cutFile_8 : decode cX0_cutFile 8 = .ok (.iconst (-1), 1) := by decide +kernel
theorem dX0_cutFile_9 : decode cX0_cutFile 9 = .ok (.ireturn, 1) := by decide +kernel
theorem dX0_cutFile_10 : decode cX0_cutFile 10 = .ok (.iload_n 2, 1) := by decide +kernel
theorem dX0_cutFile_11 : decode cX0_cutFile 11 = .ok (.ifCond .lt 9, 3) := by decide +kernel
theorem dX0_cutFile_14 : decode cX0_cutFile 14 = .ok (.iload_n 2, 1) := by decide +kernel
theorem dX0_cutFile_15 : decode cX0_cutFile 15 = .ok (.bipush 64, 2) := by decide +kernel
theorem dX0_cutFile_17 : decode cX0_cutFile 17 = .ok (.if_icmp .le 6, 3) := by decide +kernel
theorem dX0_cutFile_20 : decode cX0_cutFile 20 = .ok (.bipush (-2), 2) := by decide +kernel
theorem dX0_cutFile_22 : decode cX0_cutFile 22 = .ok (.ireturn, 1) := by decide +kernel
theorem dX0_cutFile_23 : decode cX0_cutFile 23 = .ok (.aload_n 0, 1) := by decide +kernel
theorem dX0_cutFile_24 : decode cX0_cutFile 24 = .ok (.iload_n 1, 1) := by decide +kernel
theorem dX0_cutFile_25 : decode cX0_cutFile 25 = .ok (.invokevirtual 62, 3) := by decide +kernel
theorem dX0_cutFile_28 : decode cX0_cutFile 28 = .ok (.ifCond .eq 15, 3) := by decide +kernel
theorem dX0_cutFile_31 : decode cX0_cutFile 31 = .ok (.iload_n 2, 1) := by decide +kernel
theorem dX0_cutFile_32 : decode cX0_cutFile 32 = .ok (.aload_n 0, 1) := by decide +kernel
theorem dX0_cutFile_33 : decode cX0_cutFile 33 = .ok (.getfield 32, 3) := by decide +kernel
theorem dX0_cutFile_36 : decode cX0_cutFile 36 = .ok (.iload_n 1, 1) := by decide +kernel
theorem dX0_cutFile_37 : decode cX0_cutFile 37 = .ok (.invokevirtual 72, 3) := by decide +kernel
theorem dX0_cutFile_40 : decode cX0_cutFile 40 = .ok (.if_icmp .le 6, 3) := by decide +kernel
theorem dX0_cutFile_43 : decode cX0_cutFile 43 = .ok (.bipush (-4), 2) := by decide +kernel
theorem dX0_cutFile_45 : decode cX0_cutFile 45 = .ok (.ireturn, 1) := by decide +kernel
theorem dX0_cutFile_46 : decode cX0_cutFile 46 = .ok (.aload_n 0, 1) := by decide +kernel
theorem dX0_cutFile_47 : decode cX0_cutFile 47 = .ok (.getfield 29, 3) := by decide +kernel
theorem dX0_cutFile_50 : decode cX0_cutFile 50 = .ok (.iload_n 1, 1) := by decide +kernel
theorem dX0_cutFile_51 : decode cX0_cutFile 51 = .ok (.invokevirtual 72, 3) := by decide +kernel
theorem dX0_cutFile_54 : decode cX0_cutFile 54 = .ok (.iload_n 2, 1) := by decide +kernel
theorem dX0_cutFile_55 : decode cX0_cutFile 55 = .ok (.isub, 1) := by decide +kernel
theorem dX0_cutFile_56 : decode cX0_cutFile 56 = .ok (.istore_n 3, 1) := by decide +kernel
theorem dX0_cutFile_57 : decode cX0_cutFile 57 = .ok (.aload_n 0, 1) := by decide +kernel
theorem dX0_cutFile_58 : decode cX0_cutFile 58 = .ok (.iload_n 1, 1) := by decide +kernel
theorem dX0_cutFile_59 : decode cX0_cutFile 59 = .ok (.invokevirtual 69, 3) := by decide +kernel
theorem dX0_cutFile_62 : decode cX0_cutFile 62 = .ok (.pop, 1) := by decide +kernel
theorem dX0_cutFile_63 : decode cX0_cutFile 63 = .ok (.aload_n 0, 1) := by decide +kernel
theorem dX0_cutFile_64 : decode cX0_cutFile 64 = .ok (.iload_n 1, 1) := by decide +kernel
theorem dX0_cutFile_65 : decode cX0_cutFile 65 = .ok (.iload_n 2, 1) := by decide +kernel
theorem dX0_cutFile_66 : decode cX0_cutFile 66 = .ok (.invokevirtual 75, 3) := by decide +kernel
theorem dX0_cutFile_69 : decode cX0_cutFile 69 = .ok (.aload_n 0, 1) := by decide +kernel
theorem dX0_cutFile_70 : decode cX0_cutFile 70 = .ok (.getfield 32, 3) := by decide +kernel
theorem dX0_cutFile_73 : decode cX0_cutFile 73 = .ok (.iload_n 1, 1) := by decide +kernel
theorem dX0_cutFile_74 : decode cX0_cutFile 74 = .ok (.iload_n 2, 1) := by decide +kernel
theorem dX0_cutFile_75 : decode cX0_cutFile 75 = .ok (.invokevirtual 47, 3) := by decide +kernel
theorem dX0_cutFile_78 : decode cX0_cutFile 78 = .ok (.aload_n 0, 1) := by decide +kernel
theorem dX0_cutFile_79 : decode cX0_cutFile 79 = .ok (.getfield 35, 3) := by decide +kernel
theorem dX0_cutFile_82 : decode cX0_cutFile 82 = .ok (.iload_n 1, 1) := by decide +kernel
theorem dX0_cutFile_83 : decode cX0_cutFile 83 = .ok (.aload_n 0, 1) := by decide +kernel
theorem dX0_cutFile_84 : decode cX0_cutFile 84 = .ok (.getfield 35, 3) := by decide +kernel
theorem dX0_cutFile_87 : decode cX0_cutFile 87 = .ok (.iload_n 1, 1) := by decide +kernel
theorem dX0_cutFile_88 : decode cX0_cutFile 88 = .ok (.invokevirtual 72, 3) := by decide +kernel
theorem dX0_cutFile_91 : decode cX0_cutFile 91 = .ok (.iload_n 2, 1) := by decide +kernel
theorem dX0_cutFile_92 : decode cX0_cutFile 92 = .ok (.invokestatic 98, 3) := by decide +kernel
theorem dX0_cutFile_95 : decode cX0_cutFile 95 = .ok (.invokevirtual 47, 3) := by decide +kernel
theorem dX0_cutFile_98 : decode cX0_cutFile 98 = .ok (.iload_n 3, 1) := by decide +kernel
theorem dX0_cutFile_99 : decode cX0_cutFile 99 = .ok (.ireturn, 1) := by decide +kernel
set_option maxRecDepth 20000 in
theorem ggX0_crashAll_X0_isFile : GoodIn wsX0_crashAll wsX0_isFile := goodIn_r _ [10, 4, 11, 12, 13, 14, 15, 16, 29, 30, 31, 32, 33, 34, 35, 36, 37, 38, 39] (by decide +kernel) (by decide +kernel)
set_option maxRecDepth 20000 in
theorem gX0_crashAll_X0_isFile : GoodIn wsX0_crashAll (wsV RX0 58 RX0 yX0_isFile wsX0_isFile) := goodIn_app (goodIn_of _ (by decide +kernel)) ggX0_crashAll_X0_isFile
set_option maxRecDepth 20000 in
theorem ggX0_crashAll_X3_at : GoodIn wsX0_crashAll wsX3_at := goodIn_r _ [20, 16, 39] (by decide +kernel) (by decide +kernel)
set_option maxRecDepth 20000 in
theorem gX0_crashAll_X3_at : GoodIn wsX0_crashAll (wsV RX0 72 RX3 yX3_at wsX3_at) := goodIn_app (goodIn_of _ (by decide +kernel)) ggX0_crashAll_X3_at
set_option maxRecDepth 20000 in
theorem ggX0_crashAll_X3_put : GoodIn wsX0_crashAll wsX3_put := goodIn_r _ [24, 16, 39] (by decide +kernel) (by decide +kernel)
set_option maxRecDepth 20000 in
theorem gX0_crashAll_X3_put : GoodIn wsX0_crashAll (wsV RX0 47 RX3 yX3_put wsX3_put) := goodIn_app (goodIn_of _ (by decide +kernel)) ggX0_crashAll_X3_put
set_option maxRecDepth 20000 in
theorem ggX0_crashAll_X3_grow : GoodIn wsX0_crashAll wsX3_grow := goodIn_r _ [28, 16, 39] (by decide +kernel) (by decide +kernel)
set_option maxRecDepth 20000 in
theorem gX0_crashAll_X3_grow : GoodIn wsX0_crashAll (wsV RX0 104 RX3 yX3_grow wsX3_grow) := goodIn_app (goodIn_of _ (by decide +kernel)) ggX0_crashAll_X3_grow
theorem dX0_crashAll_0 : decode cX0_crashAll 0 = .ok (.iconst 0, 1) := by decide +kernel
theorem dX0_crashAll_1 : decode cX0_crashAll 1 = .ok (.istore_n 1, 1) := by decide +kernel
theorem dX0_crashAll_2 : decode cX0_crashAll 2 = .ok (.iconst 0, 1) := by decide +kernel
theorem dX0_crashAll_3 : decode cX0_crashAll 3 = .ok (.istore_n 2, 1) := by decide +kernel
theorem dX0_crashAll_4 : decode cX0_crashAll 4 = .ok (.iload_n 2, 1) := by decide +kernel
theorem dX0_crashAll_5 : decode cX0_crashAll 5 = .ok (.bipush 8, 2) := by decide +kernel
theorem dX0_crashAll_7 : decode cX0_crashAll 7 = .ok (.if_icmp .ge 71, 3) := by decide +kernel
theorem dX0_crashAll_10 : decode cX0_crashAll 10 = .ok (.aload_n 0, 1) := by decide +kernel
theorem dX0_crashAll_11 : decode cX0_crashAll 11 = .ok (.iload_n 2, 1) := by decide +kernel
theorem dX0_crashAll_12 : decode cX0_crashAll 12 = .ok (.invokevirtual 58, 3) := by decide +kernel
theorem dX0_crashAll_15 : decode cX0_crashAll 15 = .ok (.ifCond .eq 57, 3) := by decide +kernel
theorem dX0_crashAll_18 : decode cX0_crashAll 18 = .ok (.iload_n 1, 1) := by decide +kernel
theorem dX0_crashAll_19 : decode cX0_crashAll 19 = .ok (.aload_n 0, 1) := by decide +kernel
theorem dX0_crashAll_20 : decode cX0_crashAll 20 = .ok (.getfield 32, 3) := by decide +kernel
theorem dX0_crashAll_23 : decode cX0_crashAll 23 = .ok (.iload_n 2, 1) := by decide +kernel
theorem dX0_crashAll_24 : decode cX0_crashAll 24 = .ok (.invokevirtual 72, 3) := by decide +kernel
theorem dX0_crashAll_27 : decode cX0_crashAll 27 = .ok (.aload_n 0, 1) := by decide +kernel
theorem dX0_crashAll_28 : decode cX0_crashAll 28 = .ok (.getfield 35, 3) := by decide +kernel
theorem dX0_crashAll_31 : decode cX0_crashAll 31 = .ok (.iload_n 2, 1) := by decide +kernel
theorem dX0_crashAll_32 : decode cX0_crashAll 32 = .ok (.invokevirtual 72, 3) := by decide +kernel
theorem dX0_crashAll_35 : decode cX0_crashAll 35 = .ok (.isub, 1) := by decide +kernel
theorem dX0_crashAll_36 : decode cX0_crashAll 36 = .ok (.iadd, 1) := by decide +kernel
theorem dX0_crashAll_37 : decode cX0_crashAll 37 = .ok (.istore_n 1, 1) := by decide +kernel
theorem dX0_crashAll_38 : decode cX0_crashAll 38 = .ok (.aload_n 0, 1) := by decide +kernel
theorem dX0_crashAll_39 : decode cX0_crashAll 39 = .ok (.getfield 32, 3) := by decide +kernel
theorem dX0_crashAll_42 : decode cX0_crashAll 42 = .ok (.iload_n 2, 1) := by decide +kernel
theorem dX0_crashAll_43 : decode cX0_crashAll 43 = .ok (.aload_n 0, 1) := by decide +kernel
theorem dX0_crashAll_44 : decode cX0_crashAll 44 = .ok (.getfield 35, 3) := by decide +kernel
theorem dX0_crashAll_47 : decode cX0_crashAll 47 = .ok (.iload_n 2, 1) := by decide +kernel
theorem dX0_crashAll_48 : decode cX0_crashAll 48 = .ok (.invokevirtual 72, 3) := by decide +kernel
theorem dX0_crashAll_51 : decode cX0_crashAll 51 = .ok (.invokevirtual 47, 3) := by decide +kernel
theorem dX0_crashAll_54 : decode cX0_crashAll 54 = .ok (.aload_n 0, 1) := by decide +kernel
theorem dX0_crashAll_55 : decode cX0_crashAll 55 = .ok (.getfield 38, 3) := by decide +kernel
theorem dX0_crashAll_58 : decode cX0_crashAll 58 = .ok (.iload_n 2, 1) := by decide +kernel
theorem dX0_crashAll_59 : decode cX0_crashAll 59 = .ok (.iconst 1, 1) := by decide +kernel
theorem dX0_crashAll_60 : decode cX0_crashAll 60 = .ok (.invokevirtual 47, 3) := by decide +kernel
theorem dX0_crashAll_63 : decode cX0_crashAll 63 = .ok (.aload_n 0, 1) := by decide +kernel
theorem dX0_crashAll_64 : decode cX0_crashAll 64 = .ok (.getfield 26, 3) := by decide +kernel
theorem dX0_crashAll_67 : decode cX0_crashAll 67 = .ok (.iload_n 2, 1) := by decide +kernel
theorem dX0_crashAll_68 : decode cX0_crashAll 68 = .ok (.iconst 1, 1) := by decide +kernel
theorem dX0_crashAll_69 : decode cX0_crashAll 69 = .ok (.invokevirtual 47, 3) := by decide +kernel
theorem dX0_crashAll_72 : decode cX0_crashAll 72 = .ok (.iinc 2 1, 3) := by decide +kernel
theorem dX0_crashAll_75 : decode cX0_crashAll 75 = .ok (.goto (-71), 3) := by decide +kernel
theorem dX0_crashAll_78 : decode cX0_crashAll 78 = .ok (.aload_n 0, 1) := by decide +kernel
theorem dX0_crashAll_79 : decode cX0_crashAll 79 = .ok (.getfield 44, 3) := by decide +kernel
theorem dX0_crashAll_82 : decode cX0_crashAll 82 = .ok (.iconst 3, 1) := by decide +kernel
theorem dX0_crashAll_83 : decode cX0_crashAll 83 = .ok (.iload_n 1, 1) := by decide +kernel
theorem dX0_crashAll_84 : decode cX0_crashAll 84 = .ok (.invokevirtual 104, 3) := by decide +kernel
theorem dX0_crashAll_87 : decode cX0_crashAll 87 = .ok (.iload_n 1, 1) := by decide +kernel
theorem dX0_crashAll_88 : decode cX0_crashAll 88 = .ok (.ireturn, 1) := by decide +kernel
set_option maxRecDepth 20000 in
theorem ggX0_mendAll_X3_holds : GoodIn wsX0_mendAll wsX3_holds := goodIn_r _ [6, 7, 49] (by decide +kernel) (by decide +kernel)
set_option maxRecDepth 20000 in
theorem gX0_mendAll_X3_holds : GoodIn wsX0_mendAll (wsV RX0 54 RX3 yX3_holds wsX3_holds) := goodIn_app (goodIn_of _ (by decide +kernel)) ggX0_mendAll_X3_holds
set_option maxRecDepth 20000 in
theorem ggX0_mendAll_X0_giveBack : GoodIn wsX0_mendAll wsX0_giveBack := goodIn_r _ [12, 13, 14, 15, 16, 17, 18, 11, 19, 20, 21, 22, 23, 5, 24, 7, 25, 26, 27, 28, 29, 30, 2, 3, 4, 6, 31, 32, 33, 34, 35, 36, 37, 38, 39, 40, 41, 42, 43, 44, 45, 46, 47, 48, 49] (by decide +kernel) (by decide +kernel)
set_option maxRecDepth 20000 in
theorem gX0_mendAll_X0_giveBack : GoodIn wsX0_mendAll (wsV RX0 69 RX0 yX0_giveBack wsX0_giveBack) := goodIn_app (goodIn_of _ (by decide +kernel)) ggX0_mendAll_X0_giveBack
theorem dX0_mendAll_0 : decode cX0_mendAll 0 = .ok (.iconst 0, 1) := by decide +kernel
theorem dX0_mendAll_1 : decode cX0_mendAll 1 = .ok (.istore_n 1, 1) := by decide +kernel
theorem dX0_mendAll_2 : decode cX0_mendAll 2 = .ok (.iconst 0, 1) := by decide +kernel
theorem dX0_mendAll_3 : decode cX0_mendAll 3 = .ok (.istore_n 2, 1) := by decide +kernel
theorem dX0_mendAll_4 : decode cX0_mendAll 4 = .ok (.iload_n 2, 1) := by decide +kernel
theorem dX0_mendAll_5 : decode cX0_mendAll 5 = .ok (.bipush 8, 2) := by decide +kernel
theorem dX0_mendAll_7 : decode cX0_mendAll 7 = .ok (.if_icmp .ge 29, 3) := by decide +kernel
theorem dX0_mendAll_10 : decode cX0_mendAll 10 = .ok (.aload_n 0, 1) := by decide +kernel
theorem dX0_mendAll_11 : decode cX0_mendAll 11 = .ok (.getfield 26, 3) := by decide +kernel
theorem dX0_mendAll_14 : decode cX0_mendAll 14 = .ok (.iload_n 2, 1) := by decide +kernel
theorem dX0_mendAll_15 : decode cX0_mendAll 15 = .ok (.iconst 1, 1) := by decide +kernel
theorem dX0_mendAll_16 : decode cX0_mendAll 16 = .ok (.invokevirtual 54, 3) := by decide +kernel
theorem dX0_mendAll_19 : decode cX0_mendAll 19 = .ok (.ifCond .eq 11, 3) := by decide +kernel
theorem dX0_mendAll_22 : decode cX0_mendAll 22 = .ok (.iload_n 1, 1) := by decide +kernel
theorem dX0_mendAll_23 : decode cX0_mendAll 23 = .ok (.aload_n 0, 1) := by decide +kernel
theorem dX0_mendAll_24 : decode cX0_mendAll 24 = .ok (.iload_n 2, 1) := by decide +kernel
theorem dX0_mendAll_25 : decode cX0_mendAll 25 = .ok (.invokevirtual 69, 3) := by decide +kernel
theorem dX0_mendAll_28 : decode cX0_mendAll 28 = .ok (.iadd, 1) := by decide +kernel
theorem dX0_mendAll_29 : decode cX0_mendAll 29 = .ok (.istore_n 1, 1) := by decide +kernel
theorem dX0_mendAll_30 : decode cX0_mendAll 30 = .ok (.iinc 2 1, 3) := by decide +kernel
theorem dX0_mendAll_33 : decode cX0_mendAll 33 = .ok (.goto (-29), 3) := by decide +kernel
theorem dX0_mendAll_36 : decode cX0_mendAll 36 = .ok (.iload_n 1, 1) := by decide +kernel
theorem dX0_mendAll_37 : decode cX0_mendAll 37 = .ok (.ireturn, 1) := by decide +kernel
set_option maxRecDepth 20000 in
theorem ggX0_changeSetting_X3_at : GoodIn wsX0_changeSetting wsX3_at := goodIn_r _ [6, 7, 22] (by decide +kernel) (by decide +kernel)
set_option maxRecDepth 20000 in
theorem gX0_changeSetting_X3_at : GoodIn wsX0_changeSetting (wsV RX0 72 RX3 yX3_at wsX3_at) := goodIn_app (goodIn_of _ (by decide +kernel)) ggX0_changeSetting_X3_at
set_option maxRecDepth 20000 in
theorem ggX0_changeSetting_X3_put : GoodIn wsX0_changeSetting wsX3_put := goodIn_r _ [11, 7, 22] (by decide +kernel) (by decide +kernel)
set_option maxRecDepth 20000 in
theorem gX0_changeSetting_X3_put : GoodIn wsX0_changeSetting (wsV RX0 47 RX3 yX3_put wsX3_put) := goodIn_app (goodIn_of _ (by decide +kernel)) ggX0_changeSetting_X3_put
theorem dX0_changeSetting_0 : decode cX0_changeSetting 0 = .ok (.iload_n 1, 1) := by decide +kernel
theorem dX0_changeSetting_1 : decode cX0_changeSetting 1 = .ok (.ifCond .eq 10, 3) := by decide +kernel
theorem dX0_changeSetting_4 : decode cX0_changeSetting 4 = .ok (.iload_n 1, 1) := by decide +kernel
theorem dX0_changeSetting_5 : decode cX0_changeSetting 5 = .ok (.iconst 1, 1) := by decide +kernel
theorem dX0_changeSetting_6 : decode cX0_changeSetting 6 = .ok (.if_icmp .eq 5, 3) := by decide +kernel
theorem dX0_changeSetting_9 : decode cX0_changeSetting 9 = .ok (.iconst (-1), 1) := by decide +kernel
theorem dX0_changeSetting_10 : decode cX0_changeSetting 10 = .ok (.ireturn, 1) := by decide +kernel
theorem dX0_changeSetting_11 : decode cX0_changeSetting 11 = .ok (.iload_n 1, 1) := by decide +kernel
theorem dX0_changeSetting_12 : decode cX0_changeSetting 12 = .ok (.ifCond .ne 8, 3) := by decide +kernel
theorem dX0_changeSetting_15 : decode cX0_changeSetting 15 = .ok (.bipush 16, 2) := by decide +kernel
theorem dX0_changeSetting_17 : decode cX0_changeSetting 17 = .ok (.goto 4, 3) := by decide +kernel
theorem dX0_changeSetting_20 : decode cX0_changeSetting 20 = .ok (.iconst 1, 1) := by decide +kernel
theorem dX0_changeSetting_21 : decode cX0_changeSetting 21 = .ok (.istore_n 3, 1) := by decide +kernel
theorem dX0_changeSetting_22 : decode cX0_changeSetting 22 = .ok (.iload_n 2, 1) := by decide +kernel
theorem dX0_changeSetting_23 : decode cX0_changeSetting 23 = .ok (.ifCond .lt 8, 3) := by decide +kernel
theorem dX0_changeSetting_26 : decode cX0_changeSetting 26 = .ok (.iload_n 2, 1) := by decide +kernel
theorem dX0_changeSetting_27 : decode cX0_changeSetting 27 = .ok (.iload_n 3, 1) := by decide +kernel
theorem dX0_changeSetting_28 : decode cX0_changeSetting 28 = .ok (.if_icmp .le 6, 3) := by decide +kernel
theorem dX0_changeSetting_31 : decode cX0_changeSetting 31 = .ok (.bipush (-2), 2) := by decide +kernel
theorem dX0_changeSetting_33 : decode cX0_changeSetting 33 = .ok (.ireturn, 1) := by decide +kernel
theorem dX0_changeSetting_34 : decode cX0_changeSetting 34 = .ok (.aload_n 0, 1) := by decide +kernel
theorem dX0_changeSetting_35 : decode cX0_changeSetting 35 = .ok (.getfield 41, 3) := by decide +kernel
theorem dX0_changeSetting_38 : decode cX0_changeSetting 38 = .ok (.iload_n 1, 1) := by decide +kernel
theorem dX0_changeSetting_39 : decode cX0_changeSetting 39 = .ok (.invokevirtual 72, 3) := by decide +kernel
theorem dX0_changeSetting_42 : decode cX0_changeSetting 42 = .ok (.istore 4, 2) := by decide +kernel
theorem dX0_changeSetting_44 : decode cX0_changeSetting 44 = .ok (.aload_n 0, 1) := by decide +kernel
theorem dX0_changeSetting_45 : decode cX0_changeSetting 45 = .ok (.getfield 41, 3) := by decide +kernel
theorem dX0_changeSetting_48 : decode cX0_changeSetting 48 = .ok (.iload_n 1, 1) := by decide +kernel
theorem dX0_changeSetting_49 : decode cX0_changeSetting 49 = .ok (.iload_n 2, 1) := by decide +kernel
theorem dX0_changeSetting_50 : decode cX0_changeSetting 50 = .ok (.invokevirtual 47, 3) := by decide +kernel
theorem dX0_changeSetting_53 : decode cX0_changeSetting 53 = .ok (.iload 4, 2) := by decide +kernel
theorem dX0_changeSetting_55 : decode cX0_changeSetting 55 = .ok (.ireturn, 1) := by decide +kernel
set_option maxRecDepth 20000 in
theorem ggX0_takeBack_X0_freeBlocks : GoodIn wsX0_takeBack wsX0_freeBlocks := goodIn_r _ [6, 7, 8, 9, 10, 11, 12, 13, 46, 47, 48, 49, 50, 51, 52, 53, 54, 55, 56] (by decide +kernel) (by decide +kernel)
set_option maxRecDepth 20000 in
theorem gX0_takeBack_X0_freeBlocks : GoodIn wsX0_takeBack (wsV RX0 107 RX0 yX0_freeBlocks wsX0_freeBlocks) := goodIn_app (goodIn_of _ (by decide +kernel)) ggX0_takeBack_X0_freeBlocks
set_option maxRecDepth 20000 in
theorem ggX0_takeBack_X0_greatestLender : GoodIn wsX0_takeBack wsX0_greatestLender := goodIn_r _ [17, 18, 19, 20, 5, 21, 22, 23, 24, 25, 26, 11, 27, 13, 46, 47, 48, 49, 50, 51, 52, 53, 54, 55, 56] (by decide +kernel) (by decide +kernel)
set_option maxRecDepth 20000 in
theorem gX0_takeBack_X0_greatestLender : GoodIn wsX0_takeBack (wsV RX0 110 RX0 yX0_greatestLender wsX0_greatestLender) := goodIn_app (goodIn_of _ (by decide +kernel)) ggX0_takeBack_X0_greatestLender
set_option maxRecDepth 20000 in
theorem ggX0_takeBack_X0_giveBack : GoodIn wsX0_takeBack wsX0_giveBack := goodIn_r _ [31, 23, 32, 1, 18, 19, 20, 5, 21, 22, 24, 25, 26, 11, 27, 13, 33, 34, 35, 36, 7, 37, 8, 9, 10, 12, 38, 39, 40, 41, 42, 43, 44, 45, 46, 47, 48, 49, 50, 51, 52, 53, 54, 55, 56] (by decide +kernel) (by decide +kernel)
set_option maxRecDepth 20000 in
theorem gX0_takeBack_X0_giveBack : GoodIn wsX0_takeBack (wsV RX0 69 RX0 yX0_giveBack wsX0_giveBack) := goodIn_app (goodIn_of _ (by decide +kernel)) ggX0_takeBack_X0_giveBack
set_option maxRecDepth 20000 in
theorem ggX0_takeBack_X3_grow : GoodIn wsX0_takeBack wsX3_grow := goodIn_r _ [45, 13, 56] (by decide +kernel) (by decide +kernel)
set_option maxRecDepth 20000 in
theorem gX0_takeBack_X3_grow : GoodIn wsX0_takeBack (wsV RX0 104 RX3 yX3_grow wsX3_grow) := goodIn_app (goodIn_of _ (by decide +kernel)) ggX0_takeBack_X3_grow
theorem dX0_takeBack_0 : decode cX0_takeBack 0 = .ok (.iconst 0, 1) := by decide +kernel
theorem dX0_takeBack_1 : decode cX0_takeBack 1 = .ok (.istore_n 3, 1) := by decide +kernel
theorem dX0_takeBack_2 : decode cX0_takeBack 2 = .ok (.iload_n 3, 1) := by decide +kernel
theorem dX0_takeBack_3 : decode cX0_takeBack 3 = .ok (.bipush 8, 2) := by decide +kernel
theorem dX0_takeBack_5 : decode cX0_takeBack 5 = .ok (.if_icmp .ge 48, 3) := by decide +kernel
theorem dX0_takeBack_8 : decode cX0_takeBack 8 = .ok (.aload_n 0, 1) := by decide +kernel
theorem dX0_takeBack_9 : decode cX0_takeBack 9 = .ok (.invokevirtual 107, 3) := by decide +kernel
theorem dX0_takeBack_12 : decode cX0_takeBack 12 = .ok (.iload_n 2, 1) := by decide +kernel
theorem dX0_takeBack_13 : decode cX0_takeBack 13 = .ok (.if_icmp .ge 40, 3) := by decide +kernel
theorem dX0_takeBack_16 : decode cX0_takeBack 16 = .ok (.aload_n 0, 1) := by decide +kernel
theorem dX0_takeBack_17 : decode cX0_takeBack 17 = .ok (.iload_n 1, 1) := by decide +kernel
theorem dX0_takeBack_18 : decode cX0_takeBack 18 = .ok (.invokevirtual 110, 3) := by decide +kernel
theorem dX0_takeBack_21 : decode cX0_takeBack 21 = .ok (.istore 4, 2) := by decide +kernel
theorem dX0_takeBack_23 : decode cX0_takeBack 23 = .ok (.iload 4, 2) := by decide +kernel
theorem dX0_takeBack_25 : decode cX0_takeBack 25 = .ok (.bipush (-5), 2) := by decide +kernel
theorem dX0_takeBack_27 : decode cX0_takeBack 27 = .ok (.if_icmp .ne 4, 3) := by decide +kernel
theorem dX0_takeBack_30 : decode cX0_takeBack 30 = .ok (.return_, 1) := by decide +kernel
theorem dX0_takeBack_31 : decode cX0_takeBack 31 = .ok (.aload_n 0, 1) := by decide +kernel
theorem dX0_takeBack_32 : decode cX0_takeBack 32 = .ok (.iload 4, 2) := by decide +kernel
theorem dX0_takeBack_34 : decode cX0_takeBack 34 = .ok (.invokevirtual 69, 3) := by decide +kernel
theorem dX0_takeBack_37 : decode cX0_takeBack 37 = .ok (.pop, 1) := by decide +kernel
theorem dX0_takeBack_38 : decode cX0_takeBack 38 = .ok (.aload_n 0, 1) := by decide +kernel
theorem dX0_takeBack_39 : decode cX0_takeBack 39 = .ok (.getfield 44, 3) := by decide +kernel
theorem dX0_takeBack_42 : decode cX0_takeBack 42 = .ok (.iconst 2, 1) := by decide +kernel
theorem dX0_takeBack_43 : decode cX0_takeBack 43 = .ok (.iconst 1, 1) := by decide +kernel
theorem dX0_takeBack_44 : decode cX0_takeBack 44 = .ok (.invokevirtual 104, 3) := by decide +kernel
theorem dX0_takeBack_47 : decode cX0_takeBack 47 = .ok (.iinc 3 1, 3) := by decide +kernel
theorem dX0_takeBack_50 : decode cX0_takeBack 50 = .ok (.goto (-48), 3) := by decide +kernel
theorem dX0_takeBack_53 : decode cX0_takeBack 53 = .ok (.return_, 1) := by decide +kernel
set_option maxRecDepth 20000 in
theorem ggX0_greatestLender_X0_lentOf : GoodIn wsX0_greatestLender wsX0_lentOf := goodIn_r _ [5, 6, 7, 8, 9, 10, 11, 12, 13, 14, 15, 16, 17, 18, 19, 20, 21, 22, 23, 24] (by decide +kernel) (by decide +kernel)
set_option maxRecDepth 20000 in
theorem gX0_greatestLender_X0_lentOf : GoodIn wsX0_greatestLender (wsV RX0 82 RX0 yX0_lentOf wsX0_lentOf) := goodIn_app (goodIn_of _ (by decide +kernel)) ggX0_greatestLender_X0_lentOf
theorem dX0_greatestLender_0 : decode cX0_greatestLender 0 = .ok (.bipush (-5), 2) := by decide +kernel
theorem dX0_greatestLender_2 : decode cX0_greatestLender 2 = .ok (.istore_n 2, 1) := by decide +kernel
theorem dX0_greatestLender_3 : decode cX0_greatestLender 3 = .ok (.iconst 0, 1) := by decide +kernel
theorem dX0_greatestLender_4 : decode cX0_greatestLender 4 = .ok (.istore_n 3, 1) := by decide +kernel
theorem dX0_greatestLender_5 : decode cX0_greatestLender 5 = .ok (.iconst 0, 1) := by decide +kernel
theorem dX0_greatestLender_6 : decode cX0_greatestLender 6 = .ok (.istore 4, 2) := by decide +kernel
theorem dX0_greatestLender_8 : decode cX0_greatestLender 8 = .ok (.iload 4, 2) := by decide +kernel
theorem dX0_greatestLender_10 : decode cX0_greatestLender 10 = .ok (.bipush 8, 2) := by decide +kernel
theorem dX0_greatestLender_12 : decode cX0_greatestLender 12 = .ok (.if_icmp .ge 35, 3) := by decide +kernel
theorem dX0_greatestLender_15 : decode cX0_greatestLender 15 = .ok (.iload 4, 2) := by decide +kernel
theorem dX0_greatestLender_17 : decode cX0_greatestLender 17 = .ok (.iload_n 1, 1) := by decide +kernel
theorem dX0_greatestLender_18 : decode cX0_greatestLender 18 = .ok (.if_icmp .eq 23, 3) := by decide +kernel
theorem dX0_greatestLender_21 : decode cX0_greatestLender 21 = .ok (.aload_n 0, 1) := by decide +kernel
theorem dX0_greatestLender_22 : decode cX0_greatestLender 22 = .ok (.iload 4, 2) := by decide +kernel
theorem dX0_greatestLender_24 : decode cX0_greatestLender 24 = .ok (.invokevirtual 82, 3) := by decide +kernel
theorem dX0_greatestLender_27 : decode cX0_greatestLender 27 = .ok (.iload_n 3, 1) := by decide +kernel
theorem dX0_greatestLender_28 : decode cX0_greatestLender 28 = .ok (.if_icmp .le 13, 3) := by decide +kernel
theorem dX0_greatestLender_31 : decode cX0_greatestLender 31 = .ok (.iload 4, 2) := by decide +kernel
theorem dX0_greatestLender_33 : decode cX0_greatestLender 33 = .ok (.istore_n 2, 1) := by decide +kernel
theorem dX0_greatestLender_34 : decode cX0_greatestLender 34 = .ok (.aload_n 0, 1) := by decide +kernel
theorem dX0_greatestLender_35 : decode cX0_greatestLender 35 = .ok (.iload 4, 2) := by decide +kernel
theorem dX0_greatestLender_37 : decode cX0_greatestLender 37 = .ok (.invokevirtual 82, 3) := by decide +kernel
theorem dX0_greatestLender_40 : decode cX0_greatestLender 40 = .ok (.istore_n 3, 1) := by decide +kernel
theorem dX0_greatestLender_41 : decode cX0_greatestLender 41 = .ok (.iinc 4 1, 3) := by decide +kernel
theorem dX0_greatestLender_44 : decode cX0_greatestLender 44 = .ok (.goto (-36), 3) := by decide +kernel
theorem dX0_greatestLender_47 : decode cX0_greatestLender 47 = .ok (.iload_n 2, 1) := by decide +kernel
theorem dX0_greatestLender_48 : decode cX0_greatestLender 48 = .ok (.ireturn, 1) := by decide +kernel
set_option maxRecDepth 20000 in
theorem ggX0_lengthen_X3_at : GoodIn wsX0_lengthen wsX3_at := goodIn_r _ [12, 13, 63] (by decide +kernel) (by decide +kernel)
set_option maxRecDepth 20000 in
theorem gX0_lengthen_X3_at : GoodIn wsX0_lengthen (wsV RX0 72 RX3 yX3_at wsX3_at) := goodIn_app (goodIn_of _ (by decide +kernel)) ggX0_lengthen_X3_at
set_option maxRecDepth 20000 in
theorem ggX0_lengthen_X0_freeBlocks : GoodIn wsX0_lengthen wsX0_freeBlocks := goodIn_r _ [18, 19, 20, 21, 22, 11, 23, 13, 53, 54, 55, 56, 57, 58, 59, 60, 61, 62, 63] (by decide +kernel) (by decide +kernel)
set_option maxRecDepth 20000 in
theorem gX0_lengthen_X0_freeBlocks : GoodIn wsX0_lengthen (wsV RX0 107 RX0 yX0_freeBlocks wsX0_freeBlocks) := goodIn_app (goodIn_of _ (by decide +kernel)) ggX0_lengthen_X0_freeBlocks
set_option maxRecDepth 20000 in
theorem ggX0_lengthen_X0_blockAt : GoodIn wsX0_lengthen wsX0_blockAt := goodIn_r _ [27, 19, 28, 20, 21, 22, 11, 23, 13, 53, 54, 55, 56, 57, 58, 59, 60, 61, 62, 63] (by decide +kernel) (by decide +kernel)
set_option maxRecDepth 20000 in
theorem gX0_lengthen_X0_blockAt : GoodIn wsX0_lengthen (wsV RX0 113 RX0 yX0_blockAt wsX0_blockAt) := goodIn_app (goodIn_of _ (by decide +kernel)) ggX0_lengthen_X0_blockAt
set_option maxRecDepth 20000 in
theorem ggX0_lengthen_X0_addFrom : GoodIn wsX0_lengthen wsX0_addFrom := goodIn_r _ [32, 19, 28, 7, 20, 21, 22, 11, 23, 13, 33, 34, 35, 36, 8, 9, 10, 12, 37, 38, 39, 40, 53, 54, 55, 56, 57, 58, 59, 60, 61, 62, 63] (by decide +kernel) (by decide +kernel)
set_option maxRecDepth 20000 in
theorem gX0_lengthen_X0_addFrom : GoodIn wsX0_lengthen (wsV RX0 116 RX0 yX0_addFrom wsX0_addFrom) := goodIn_app (goodIn_of _ (by decide +kernel)) ggX0_lengthen_X0_addFrom
set_option maxRecDepth 20000 in
theorem ggX0_lengthen_X0_chosenRun : GoodIn wsX0_lengthen wsX0_chosenRun := goodIn_r _ [44, 45, 46, 47, 17, 48, 19, 20, 21, 22, 11, 23, 13, 49, 50, 51, 52, 2, 53, 54, 55, 56, 57, 58, 59, 60, 61, 62, 63] (by decide +kernel) (by decide +kernel)
set_option maxRecDepth 20000 in
theorem gX0_lengthen_X0_chosenRun : GoodIn wsX0_lengthen (wsV RX0 120 RX0 yX0_chosenRun wsX0_chosenRun) := goodIn_app (goodIn_of _ (by decide +kernel)) ggX0_lengthen_X0_chosenRun
set_option maxRecDepth 20000 in
theorem ggX0_lengthen_X3_put : GoodIn wsX0_lengthen wsX3_put := goodIn_r _ [36, 13, 63] (by decide +kernel) (by decide +kernel)
set_option maxRecDepth 20000 in
theorem gX0_lengthen_X3_put : GoodIn wsX0_lengthen (wsV RX0 47 RX3 yX3_put wsX3_put) := goodIn_app (goodIn_of _ (by decide +kernel)) ggX0_lengthen_X3_put
theorem dX0_lengthen_0 : decode cX0_lengthen 0 = .ok (.aload_n 0, 1) := by decide +kernel
theorem dX0_lengthen_1 : decode cX0_lengthen 1 = .ok (.getfield 38, 3) := by decide +kernel
theorem dX0_lengthen_4 : decode cX0_lengthen 4 = .ok (.iload_n 1, 1) := by decide +kernel
theorem dX0_lengthen_5 : decode cX0_lengthen 5 = .ok (.invokevirtual 72, 3) := by decide +kernel
theorem dX0_lengthen_8 : decode cX0_lengthen 8 = .ok (.istore_n 3, 1) := by decide +kernel
theorem dX0_lengthen_9 : decode cX0_lengthen 9 = .ok (.iload_n 2, 1) := by decide +kernel
theorem dX0_lengthen_10 : decode cX0_lengthen 10 = .ok (.iload_n 3, 1) := by decide +kernel
theorem dX0_lengthen_11 : decode cX0_lengthen 11 = .ok (.aload_n 0, 1) := by decide +kernel
theorem dX0_lengthen_12 : decode cX0_lengthen 12 = .ok (.getfield 41, 3) := by decide +kernel
theorem dX0_lengthen_15 : decode cX0_lengthen 15 = .ok (.iconst 0, 1) := by decide +kernel
theorem dX0_lengthen_16 : decode cX0_lengthen 16 = .ok (.invokevirtual 72, 3) := by decide +kernel
theorem dX0_lengthen_19 : decode cX0_lengthen 19 = .ok (.invokestatic 98, 3) := by decide +kernel
theorem dX0_lengthen_22 : decode cX0_lengthen 22 = .ok (.iadd, 1) := by decide +kernel
theorem dX0_lengthen_23 : decode cX0_lengthen 23 = .ok (.istore 4, 2) := by decide +kernel
theorem dX0_lengthen_25 : decode cX0_lengthen 25 = .ok (.iload 4, 2) := by decide +kernel
theorem dX0_lengthen_27 : decode cX0_lengthen 27 = .ok (.aload_n 0, 1) := by decide +kernel
theorem dX0_lengthen_28 : decode cX0_lengthen 28 = .ok (.invokevirtual 107, 3) := by decide +kernel
theorem dX0_lengthen_31 : decode cX0_lengthen 31 = .ok (.invokestatic 98, 3) := by decide +kernel
theorem dX0_lengthen_34 : decode cX0_lengthen 34 = .ok (.istore 5, 2) := by decide +kernel
theorem dX0_lengthen_36 : decode cX0_lengthen 36 = .ok (.iload 5, 2) := by decide +kernel
theorem dX0_lengthen_38 : decode cX0_lengthen 38 = .ok (.istore 6, 2) := by decide +kernel
theorem dX0_lengthen_40 : decode cX0_lengthen 40 = .ok (.aload_n 0, 1) := by decide +kernel
theorem dX0_lengthen_41 : decode cX0_lengthen 41 = .ok (.getfield 29, 3) := by decide +kernel
theorem dX0_lengthen_44 : decode cX0_lengthen 44 = .ok (.iload_n 1, 1) := by decide +kernel
theorem dX0_lengthen_45 : decode cX0_lengthen 45 = .ok (.invokevirtual 72, 3) := by decide +kernel
theorem dX0_lengthen_48 : decode cX0_lengthen 48 = .ok (.ifCond .le 36, 3) := by decide +kernel
theorem dX0_lengthen_51 : decode cX0_lengthen 51 = .ok (.aload_n 0, 1) := by decide +kernel
theorem dX0_lengthen_52 : decode cX0_lengthen 52 = .ok (.iload_n 1, 1) := by decide +kernel
theorem dX0_lengthen_53 : decode cX0_lengthen 53 = .ok (.aload_n 0, 1) := by decide +kernel
theorem dX0_lengthen_54 : decode cX0_lengthen 54 = .ok (.getfield 29, 3) := by decide +kernel
theorem dX0_lengthen_57 : decode cX0_lengthen 57 = .ok (.iload_n 1, 1) := by decide +kernel
theorem dX0_lengthen_58 : decode cX0_lengthen 58 = .ok (.invokevirtual 72, 3) := by decide +kernel
theorem dX0_lengthen_61 : decode cX0_lengthen 61 = .ok (.iconst 1, 1) := by decide +kernel
theorem dX0_lengthen_62 : decode cX0_lengthen 62 = .ok (.isub, 1) := by decide +kernel
theorem dX0_lengthen_63 : decode cX0_lengthen 63 = .ok (.invokevirtual 113, 3) := by decide +kernel
theorem dX0_lengthen_66 : decode cX0_lengthen 66 = .ok (.istore 7, 2) := by decide +kernel
theorem dX0_lengthen_68 : decode cX0_lengthen 68 = .ok (.iload 6, 2) := by decide +kernel
theorem dX0_lengthen_70 : decode cX0_lengthen 70 = .ok (.aload_n 0, 1) := by decide +kernel
theorem dX0_lengthen_71 : decode cX0_lengthen 71 = .ok (.iload_n 1, 1) := by decide +kernel
theorem dX0_lengthen_72 : decode cX0_lengthen 72 = .ok (.iload 7, 2) := by decide +kernel
theorem dX0_lengthen_74 : decode cX0_lengthen 74 = .ok (.iconst 1, 1) := by decide +kernel
theorem dX0_lengthen_75 : decode cX0_lengthen 75 = .ok (.iadd, 1) := by decide +kernel
theorem dX0_lengthen_76 : decode cX0_lengthen 76 = .ok (.iload 6, 2) := by decide +kernel
theorem dX0_lengthen_78 : decode cX0_lengthen 78 = .ok (.invokevirtual 116, 3) := by decide +kernel
theorem dX0_lengthen_81 : decode cX0_lengthen 81 = .ok (.isub, 1) := by decide +kernel
theorem dX0_lengthen_82 : decode cX0_lengthen 82 = .ok (.istore 6, 2) := by decide +kernel
theorem dX0_lengthen_84 : decode cX0_lengthen 84 = .ok (.iconst 0, 1) := by decide +kernel
theorem dX0_lengthen_85 : decode cX0_lengthen 85 = .ok (.istore 7, 2) := by decide +kernel
theorem dX0_lengthen_87 : decode cX0_lengthen 87 = .ok (.iload 7, 2) := by decide +kernel
theorem dX0_lengthen_89 : decode cX0_lengthen 89 = .ok (.bipush 64, 2) := by decide +kernel
theorem dX0_lengthen_91 : decode cX0_lengthen 91 = .ok (.if_icmp .ge 32, 3) := by decide +kernel
theorem dX0_lengthen_94 : decode cX0_lengthen 94 = .ok (.iload 6, 2) := by decide +kernel
theorem dX0_lengthen_96 : decode cX0_lengthen 96 = .ok (.ifCond .le 27, 3) := by decide +kernel
theorem dX0_lengthen_99 : decode cX0_lengthen 99 = .ok (.iload 6, 2) := by decide +kernel
theorem dX0_lengthen_101 : decode cX0_lengthen 101 = .ok (.aload_n 0, 1) := by decide +kernel
theorem dX0_lengthen_102 : decode cX0_lengthen 102 = .ok (.iload_n 1, 1) := by decide +kernel
theorem dX0_lengthen_103 : decode cX0_lengthen 103 = .ok (.aload_n 0, 1) := by decide +kernel
theorem dX0_lengthen_104 : decode cX0_lengthen 104 = .ok (.iload 6, 2) := by decide +kernel
theorem dX0_lengthen_106 : decode cX0_lengthen 106 = .ok (.invokevirtual 120, 3) := by decide +kernel
theorem dX0_lengthen_109 : decode cX0_lengthen 109 = .ok (.iload 6, 2) := by decide +kernel
theorem dX0_lengthen_111 : decode cX0_lengthen 111 = .ok (.invokevirtual 116, 3) := by decide +kernel
theorem dX0_lengthen_114 : decode cX0_lengthen 114 = .ok (.isub, 1) := by decide +kernel
theorem dX0_lengthen_115 : decode cX0_lengthen 115 = .ok (.istore 6, 2) := by decide +kernel
theorem dX0_lengthen_117 : decode cX0_lengthen 117 = .ok (.iinc 7 1, 3) := by decide +kernel
theorem dX0_lengthen_120 : decode cX0_lengthen 120 = .ok (.goto (-33), 3) := by decide +kernel
theorem dX0_lengthen_123 : decode cX0_lengthen 123 = .ok (.iload 5, 2) := by decide +kernel
theorem dX0_lengthen_125 : decode cX0_lengthen 125 = .ok (.iload_n 2, 1) := by decide +kernel
theorem dX0_lengthen_126 : decode cX0_lengthen 126 = .ok (.if_icmp .le 19, 3) := by decide +kernel
theorem dX0_lengthen_129 : decode cX0_lengthen 129 = .ok (.aload_n 0, 1) := by decide +kernel
theorem dX0_lengthen_130 : decode cX0_lengthen 130 = .ok (.getfield 38, 3) := by decide +kernel
theorem dX0_lengthen_133 : decode cX0_lengthen 133 = .ok (.iload_n 1, 1) := by decide +kernel
theorem dX0_lengthen_134 : decode cX0_lengthen 134 = .ok (.iconst 2, 1) := by decide +kernel
theorem dX0_lengthen_135 : decode cX0_lengthen 135 = .ok (.iload_n 3, 1) := by decide +kernel
theorem dX0_lengthen_136 : decode cX0_lengthen 136 = .ok (.imul, 1) := by decide +kernel
theorem dX0_lengthen_137 : decode cX0_lengthen 137 = .ok (.bipush 16, 2) := by decide +kernel
theorem dX0_lengthen_139 : decode cX0_lengthen 139 = .ok (.invokestatic 98, 3) := by decide +kernel
theorem dX0_lengthen_142 : decode cX0_lengthen 142 = .ok (.invokevirtual 47, 3) := by decide +kernel
theorem dX0_lengthen_145 : decode cX0_lengthen 145 = .ok (.return_, 1) := by decide +kernel
set_option maxRecDepth 20000 in
theorem ggX0_addFrom_X3_holds : GoodIn wsX0_addFrom wsX3_holds := goodIn_r _ [8, 9, 32] (by decide +kernel) (by decide +kernel)
set_option maxRecDepth 20000 in
theorem gX0_addFrom_X3_holds : GoodIn wsX0_addFrom (wsV RX0 54 RX3 yX3_holds wsX3_holds) := goodIn_app (goodIn_of _ (by decide +kernel)) ggX0_addFrom_X3_holds
set_option maxRecDepth 20000 in
theorem ggX0_addFrom_X3_put : GoodIn wsX0_addFrom wsX3_put := goodIn_r _ [13, 9, 32] (by decide +kernel) (by decide +kernel)
set_option maxRecDepth 20000 in
theorem gX0_addFrom_X3_put : GoodIn wsX0_addFrom (wsV RX0 47 RX3 yX3_put wsX3_put) := goodIn_app (goodIn_of _ (by decide +kernel)) ggX0_addFrom_X3_put
set_option maxRecDepth 20000 in
theorem ggX0_addFrom_X3_at : GoodIn wsX0_addFrom wsX3_at := goodIn_r _ [17, 9, 32] (by decide +kernel) (by decide +kernel)
set_option maxRecDepth 20000 in
theorem gX0_addFrom_X3_at : GoodIn wsX0_addFrom (wsV RX0 72 RX3 yX3_at wsX3_at) := goodIn_app (goodIn_of _ (by decide +kernel)) ggX0_addFrom_X3_at
set_option maxRecDepth 20000 in
theorem ggX0_addFrom_X3_grow : GoodIn wsX0_addFrom wsX3_grow := goodIn_r _ [21, 9, 32] (by decide +kernel) (by decide +kernel)
set_option maxRecDepth 20000 in
theorem gX0_addFrom_X3_grow : GoodIn wsX0_addFrom (wsV RX0 104 RX3 yX3_grow wsX3_grow) := goodIn_app (goodIn_of _ (by decide +kernel)) ggX0_addFrom_X3_grow
theorem dX0_addFrom_0 : decode cX0_addFrom 0 = .ok (.iconst 0, 1) := by decide +kernel
theorem dX0_addFrom_1 : decode cX0_addFrom 1 = .ok (.istore 4, 2) := by decide +kernel
theorem dX0_addFrom_3 : decode cX0_addFrom 3 = .ok (.iload 4, 2) := by decide +kernel
theorem dX0_addFrom_5 : decode cX0_addFrom 5 = .ok (.iload_n 3, 1) := by decide +kernel
theorem dX0_addFrom_6 : decode cX0_addFrom 6 = .ok (.if_icmp .ge 65, 3) := by decide +kernel
theorem dX0_addFrom_9 : decode cX0_addFrom 9 = .ok (.aload_n 0, 1) := by decide +kernel
theorem dX0_addFrom_10 : decode cX0_addFrom 10 = .ok (.getfield 20, 3) := by decide +kernel
theorem dX0_addFrom_13 : decode cX0_addFrom 13 = .ok (.iload_n 2, 1) := by decide +kernel
theorem dX0_addFrom_14 : decode cX0_addFrom 14 = .ok (.iload 4, 2) := by decide +kernel
theorem dX0_addFrom_16 : decode cX0_addFrom 16 = .ok (.iadd, 1) := by decide +kernel
theorem dX0_addFrom_17 : decode cX0_addFrom 17 = .ok (.bipush (-5), 2) := by decide +kernel
theorem dX0_addFrom_19 : decode cX0_addFrom 19 = .ok (.invokevirtual 54, 3) := by decide +kernel
theorem dX0_addFrom_22 : decode cX0_addFrom 22 = .ok (.ifCond .eq 49, 3) := by decide +kernel
theorem dX0_addFrom_25 : decode cX0_addFrom 25 = .ok (.aload_n 0, 1) := by decide +kernel
theorem dX0_addFrom_26 : decode cX0_addFrom 26 = .ok (.getfield 20, 3) := by decide +kernel
theorem dX0_addFrom_29 : decode cX0_addFrom 29 = .ok (.iload_n 2, 1) := by decide +kernel
theorem dX0_addFrom_30 : decode cX0_addFrom 30 = .ok (.iload 4, 2) := by decide +kernel
theorem dX0_addFrom_32 : decode cX0_addFrom 32 = .ok (.iadd, 1) := by decide +kernel
theorem dX0_addFrom_33 : decode cX0_addFrom 33 = .ok (.iload_n 1, 1) := by decide +kernel
theorem dX0_addFrom_34 : decode cX0_addFrom 34 = .ok (.invokevirtual 47, 3) := by decide +kernel
theorem dX0_addFrom_37 : decode cX0_addFrom 37 = .ok (.aload_n 0, 1) := by decide +kernel
theorem dX0_addFrom_38 : decode cX0_addFrom 38 = .ok (.getfield 23, 3) := by decide +kernel
theorem dX0_addFrom_41 : decode cX0_addFrom 41 = .ok (.iload_n 2, 1) := by decide +kernel
theorem dX0_addFrom_42 : decode cX0_addFrom 42 = .ok (.iload 4, 2) := by decide +kernel
theorem dX0_addFrom_44 : decode cX0_addFrom 44 = .ok (.iadd, 1) := by decide +kernel
theorem dX0_addFrom_45 : decode cX0_addFrom 45 = .ok (.aload_n 0, 1) := by decide +kernel
theorem dX0_addFrom_46 : decode cX0_addFrom 46 = .ok (.getfield 29, 3) := by decide +kernel
theorem dX0_addFrom_49 : decode cX0_addFrom 49 = .ok (.iload_n 1, 1) := by decide +kernel
theorem dX0_addFrom_50 : decode cX0_addFrom 50 = .ok (.invokevirtual 72, 3) := by decide +kernel
theorem dX0_addFrom_53 : decode cX0_addFrom 53 = .ok (.invokevirtual 47, 3) := by decide +kernel
theorem dX0_addFrom_56 : decode cX0_addFrom 56 = .ok (.aload_n 0, 1) := by decide +kernel
theorem dX0_addFrom_57 : decode cX0_addFrom 57 = .ok (.getfield 29, 3) := by decide +kernel
theorem dX0_addFrom_60 : decode cX0_addFrom 60 = .ok (.iload_n 1, 1) := by decide +kernel
theorem dX0_addFrom_61 : decode cX0_addFrom 61 = .ok (.iconst 1, 1) := by decide +kernel
theorem dX0_addFrom_62 : decode cX0_addFrom 62 = .ok (.invokevirtual 104, 3) := by decide +kernel
theorem dX0_addFrom_65 : decode cX0_addFrom 65 = .ok (.iinc 4 1, 3) := by decide +kernel
theorem dX0_addFrom_68 : decode cX0_addFrom 68 = .ok (.goto (-65), 3) := by decide +kernel
theorem dX0_addFrom_71 : decode cX0_addFrom 71 = .ok (.iload 4, 2) := by decide +kernel
theorem dX0_addFrom_73 : decode cX0_addFrom 73 = .ok (.ireturn, 1) := by decide +kernel
set_option maxRecDepth 20000 in
theorem ggX0_chosenRun_X0_runFrom : GoodIn wsX0_chosenRun wsX0_runFrom := goodIn_r _ [5, 6, 7, 8, 9, 10, 11, 12, 18, 19, 20, 21, 22, 23, 24, 25, 26, 27, 28] (by decide +kernel) (by decide +kernel)
set_option maxRecDepth 20000 in
theorem gX0_chosenRun_X0_runFrom : GoodIn wsX0_chosenRun (wsV RX0 123 RX0 yX0_runFrom wsX0_runFrom) := goodIn_app (goodIn_of _ (by decide +kernel)) ggX0_chosenRun_X0_runFrom
set_option maxRecDepth 20000 in
theorem ggX0_chosenRun_X0_isBetter : GoodIn wsX0_chosenRun wsX0_isBetter := goodIn_r _ [16, 17, 7, 8, 9, 10, 11, 12, 18, 19, 20, 21, 22, 23, 24, 25, 26, 27, 28] (by decide +kernel) (by decide +kernel)
set_option maxRecDepth 20000 in
theorem gX0_chosenRun_X0_isBetter : GoodIn wsX0_chosenRun (wsV RX0 126 RX0 yX0_isBetter wsX0_isBetter) := goodIn_app (goodIn_of _ (by decide +kernel)) ggX0_chosenRun_X0_isBetter
theorem dX0_chosenRun_0 : decode cX0_chosenRun 0 = .ok (.bipush (-5), 2) := by decide +kernel
theorem dX0_chosenRun_2 : decode cX0_chosenRun 2 = .ok (.istore_n 2, 1) := by decide +kernel
theorem dX0_chosenRun_3 : decode cX0_chosenRun 3 = .ok (.iconst 0, 1) := by decide +kernel
theorem dX0_chosenRun_4 : decode cX0_chosenRun 4 = .ok (.istore_n 3, 1) := by decide +kernel
theorem dX0_chosenRun_5 : decode cX0_chosenRun 5 = .ok (.iconst 0, 1) := by decide +kernel
theorem dX0_chosenRun_6 : decode cX0_chosenRun 6 = .ok (.istore 4, 2) := by decide +kernel
theorem dX0_chosenRun_8 : decode cX0_chosenRun 8 = .ok (.iload 4, 2) := by decide +kernel
theorem dX0_chosenRun_10 : decode cX0_chosenRun 10 = .ok (.bipush 64, 2) := by decide +kernel
theorem dX0_chosenRun_12 : decode cX0_chosenRun 12 = .ok (.if_icmp .ge 34, 3) := by decide +kernel
theorem dX0_chosenRun_15 : decode cX0_chosenRun 15 = .ok (.aload_n 0, 1) := by decide +kernel
theorem dX0_chosenRun_16 : decode cX0_chosenRun 16 = .ok (.iload 4, 2) := by decide +kernel
theorem dX0_chosenRun_18 : decode cX0_chosenRun 18 = .ok (.invokevirtual 123, 3) := by decide +kernel
theorem dX0_chosenRun_21 : decode cX0_chosenRun 21 = .ok (.istore 5, 2) := by decide +kernel
theorem dX0_chosenRun_23 : decode cX0_chosenRun 23 = .ok (.aload_n 0, 1) := by decide +kernel
theorem dX0_chosenRun_24 : decode cX0_chosenRun 24 = .ok (.iload 5, 2) := by decide +kernel
theorem dX0_chosenRun_26 : decode cX0_chosenRun 26 = .ok (.iload_n 3, 1) := by decide +kernel
theorem dX0_chosenRun_27 : decode cX0_chosenRun 27 = .ok (.iload_n 1, 1) := by decide +kernel
theorem dX0_chosenRun_28 : decode cX0_chosenRun 28 = .ok (.invokevirtual 126, 3) := by decide +kernel
theorem dX0_chosenRun_31 : decode cX0_chosenRun 31 = .ok (.ifCond .eq 9, 3) := by decide +kernel
theorem dX0_chosenRun_34 : decode cX0_chosenRun 34 = .ok (.iload 4, 2) := by decide +kernel
theorem dX0_chosenRun_36 : decode cX0_chosenRun 36 = .ok (.istore_n 2, 1) := by decide +kernel
theorem dX0_chosenRun_37 : decode cX0_chosenRun 37 = .ok (.iload 5, 2) := by decide +kernel
theorem dX0_chosenRun_39 : decode cX0_chosenRun 39 = .ok (.istore_n 3, 1) := by decide +kernel
theorem dX0_chosenRun_40 : decode cX0_chosenRun 40 = .ok (.iinc 4 1, 3) := by decide +kernel
theorem dX0_chosenRun_43 : decode cX0_chosenRun 43 = .ok (.goto (-35), 3) := by decide +kernel
theorem dX0_chosenRun_46 : decode cX0_chosenRun 46 = .ok (.iload_n 2, 1) := by decide +kernel
theorem dX0_chosenRun_47 : decode cX0_chosenRun 47 = .ok (.ireturn, 1) := by decide +kernel
set_option maxRecDepth 20000 in
theorem ggX0_isBetter_X3_holds : GoodIn wsX0_isBetter wsX3_holds := goodIn_r _ [6, 7, 18] (by decide +kernel) (by decide +kernel)
set_option maxRecDepth 20000 in
theorem gX0_isBetter_X3_holds : GoodIn wsX0_isBetter (wsV RX0 54 RX3 yX3_holds wsX3_holds) := goodIn_app (goodIn_of _ (by decide +kernel)) ggX0_isBetter_X3_holds
theorem dX0_isBetter_0 : decode cX0_isBetter 0 = .ok (.iload_n 2, 1) := by decide +kernel
theorem dX0_isBetter_1 : decode cX0_isBetter 1 = .ok (.iload_n 3, 1) := by decide +kernel
theorem dX0_isBetter_2 : decode cX0_isBetter 2 = .ok (.if_icmp .ge 14, 3) := by decide +kernel
theorem dX0_isBetter_5 : decode cX0_isBetter 5 = .ok (.iload_n 1, 1) := by decide +kernel
theorem dX0_isBetter_6 : decode cX0_isBetter 6 = .ok (.iload_n 2, 1) := by decide +kernel
theorem dX0_isBetter_7 : decode cX0_isBetter 7 = .ok (.if_icmp .le 7, 3) := by decide +kernel
theorem dX0_isBetter_10 : decode cX0_isBetter 10 = .ok (.iconst 1, 1) := by decide +kernel
theorem dX0_isBetter_11 : decode cX0_isBetter 11 = .ok (.goto 4, 3) := by decide +kernel
theorem dX0_isBetter_14 : decode cX0_isBetter 14 = .ok (.iconst 0, 1) := by decide +kernel
theorem dX0_isBetter_15 : decode cX0_isBetter 15 = .ok (.ireturn, 1) := by decide +kernel
theorem dX0_isBetter_16 : decode cX0_isBetter 16 = .ok (.aload_n 0, 1) := by decide +kernel
theorem dX0_isBetter_17 : decode cX0_isBetter 17 = .ok (.getfield 41, 3) := by decide +kernel
theorem dX0_isBetter_20 : decode cX0_isBetter 20 = .ok (.iconst 1, 1) := by decide +kernel
theorem dX0_isBetter_21 : decode cX0_isBetter 21 = .ok (.iconst 0, 1) := by decide +kernel
theorem dX0_isBetter_22 : decode cX0_isBetter 22 = .ok (.invokevirtual 54, 3) := by decide +kernel
theorem dX0_isBetter_25 : decode cX0_isBetter 25 = .ok (.ifCond .eq 17, 3) := by decide +kernel
theorem dX0_isBetter_28 : decode cX0_isBetter 28 = .ok (.iload_n 1, 1) := by decide +kernel
theorem dX0_isBetter_29 : decode cX0_isBetter 29 = .ok (.iload_n 3, 1) := by decide +kernel
theorem dX0_isBetter_30 : decode cX0_isBetter 30 = .ok (.if_icmp .lt 12, 3) := by decide +kernel
theorem dX0_isBetter_33 : decode cX0_isBetter 33 = .ok (.iload_n 1, 1) := by decide +kernel
theorem dX0_isBetter_34 : decode cX0_isBetter 34 = .ok (.iload_n 2, 1) := by decide +kernel
theorem dX0_isBetter_35 : decode cX0_isBetter 35 = .ok (.if_icmp .ge 7, 3) := by decide +kernel
theorem dX0_isBetter_38 : decode cX0_isBetter 38 = .ok (.iconst 1, 1) := by decide +kernel
theorem dX0_isBetter_39 : decode cX0_isBetter 39 = .ok (.goto 4, 3) := by decide +kernel
theorem dX0_isBetter_42 : decode cX0_isBetter 42 = .ok (.iconst 0, 1) := by decide +kernel
theorem dX0_isBetter_43 : decode cX0_isBetter 43 = .ok (.ireturn, 1) := by decide +kernel
set_option maxRecDepth 20000 in
theorem ggX0_write_X3_at : GoodIn wsX0_write wsX3_at := goodIn_r _ [8, 9, 39] (by decide +kernel) (by decide +kernel)
set_option maxRecDepth 20000 in
theorem gX0_write_X3_at : GoodIn wsX0_write (wsV RX0 72 RX3 yX3_at wsX3_at) := goodIn_app (goodIn_of _ (by decide +kernel)) ggX0_write_X3_at
set_option maxRecDepth 20000 in
theorem ggX0_write_X0_isPart : GoodIn wsX0_write wsX0_isPart := goodIn_r _ [14, 15, 16, 17, 18, 19, 7, 20, 9, 4, 5, 6, 8, 29, 30, 31, 32, 33, 34, 35, 36, 37, 38, 39] (by decide +kernel) (by decide +kernel)
set_option maxRecDepth 20000 in
theorem gX0_write_X0_isPart : GoodIn wsX0_write (wsV RX0 130 RX0 yX0_isPart wsX0_isPart) := goodIn_app (goodIn_of _ (by decide +kernel)) ggX0_write_X0_isPart
set_option maxRecDepth 20000 in
theorem ggX0_write_X3_put : GoodIn wsX0_write wsX3_put := goodIn_r _ [24, 9, 39] (by decide +kernel) (by decide +kernel)
set_option maxRecDepth 20000 in
theorem gX0_write_X3_put : GoodIn wsX0_write (wsV RX0 47 RX3 yX3_put wsX3_put) := goodIn_app (goodIn_of _ (by decide +kernel)) ggX0_write_X3_put
set_option maxRecDepth 20000 in
theorem ggX0_write_X3_grow : GoodIn wsX0_write wsX3_grow := goodIn_r _ [28, 9, 39] (by decide +kernel) (by decide +kernel)
set_option maxRecDepth 20000 in
theorem gX0_write_X3_grow : GoodIn wsX0_write (wsV RX0 104 RX3 yX3_grow wsX3_grow) := goodIn_app (goodIn_of _ (by decide +kernel)) ggX0_write_X3_grow
theorem dX0_write_0 : decode cX0_write 0 = .ok (.aload_n 0, 1) := by decide +kernel
theorem dX0_write_1 : decode cX0_write 1 = .ok (.getfield 32, 3) := by decide +kernel
theorem dX0_write_4 : decode cX0_write 4 = .ok (.iload_n 1, 1) := by decide +kernel
theorem dX0_write_5 : decode cX0_write 5 = .ok (.invokevirtual 72, 3) := by decide +kernel
theorem dX0_write_8 : decode cX0_write 8 = .ok (.istore 4, 2) := by decide +kernel
theorem dX0_write_10 : decode cX0_write 10 = .ok (.iconst 0, 1) := by decide +kernel
theorem dX0_write_11 : decode cX0_write 11 = .ok (.istore 5, 2) := by decide +kernel
theorem dX0_write_13 : decode cX0_write 13 = .ok (.iload 5, 2) := by decide +kernel
theorem dX0_write_15 : decode cX0_write 15 = .ok (.bipush 64, 2) := by decide +kernel
theorem dX0_write_17 : decode cX0_write 17 = .ok (.if_icmp .ge 35, 3) := by decide +kernel
theorem dX0_write_20 : decode cX0_write 20 = .ok (.aload_n 0, 1) := by decide +kernel
theorem dX0_write_21 : decode cX0_write 21 = .ok (.iload 5, 2) := by decide +kernel
theorem dX0_write_23 : decode cX0_write 23 = .ok (.iload_n 1, 1) := by decide +kernel
theorem dX0_write_24 : decode cX0_write 24 = .ok (.iload 4, 2) := by decide +kernel
theorem dX0_write_26 : decode cX0_write 26 = .ok (.iload 4, 2) := by decide +kernel
theorem dX0_write_28 : decode cX0_write 28 = .ok (.iload_n 2, 1) := by decide +kernel
theorem dX0_write_29 : decode cX0_write 29 = .ok (.iadd, 1) := by decide +kernel
theorem dX0_write_30 : decode cX0_write 30 = .ok (.invokevirtual 130, 3) := by decide +kernel
theorem dX0_write_33 : decode cX0_write 33 = .ok (.ifCond .eq 13, 3) := by decide +kernel
theorem dX0_write_36 : decode cX0_write 36 = .ok (.aload_n 0, 1) := by decide +kernel
theorem dX0_write_37 : decode cX0_write 37 = .ok (.getfield 14, 3) := by decide +kernel
theorem dX0_write_40 : decode cX0_write 40 = .ok (.iload 5, 2) := by decide +kernel
theorem dX0_write_42 : decode cX0_write 42 = .ok (.iload_n 3, 1) := by decide +kernel
theorem dX0_write_43 : decode cX0_write 43 = .ok (.invokevirtual 47, 3) := by decide +kernel
theorem dX0_write_46 : decode cX0_write 46 = .ok (.iinc 5 1, 3) := by decide +kernel
theorem dX0_write_49 : decode cX0_write 49 = .ok (.goto (-36), 3) := by decide +kernel
theorem dX0_write_52 : decode cX0_write 52 = .ok (.aload_n 0, 1) := by decide +kernel
theorem dX0_write_53 : decode cX0_write 53 = .ok (.getfield 32, 3) := by decide +kernel
theorem dX0_write_56 : decode cX0_write 56 = .ok (.iload_n 1, 1) := by decide +kernel
theorem dX0_write_57 : decode cX0_write 57 = .ok (.iload_n 2, 1) := by decide +kernel
theorem dX0_write_58 : decode cX0_write 58 = .ok (.invokevirtual 104, 3) := by decide +kernel
theorem dX0_write_61 : decode cX0_write 61 = .ok (.aload_n 0, 1) := by decide +kernel
theorem dX0_write_62 : decode cX0_write 62 = .ok (.getfield 44, 3) := by decide +kernel
theorem dX0_write_65 : decode cX0_write 65 = .ok (.iconst 0, 1) := by decide +kernel
theorem dX0_write_66 : decode cX0_write 66 = .ok (.iload_n 2, 1) := by decide +kernel
theorem dX0_write_67 : decode cX0_write 67 = .ok (.invokevirtual 104, 3) := by decide +kernel
theorem dX0_write_70 : decode cX0_write 70 = .ok (.return_, 1) := by decide +kernel
set_option maxRecDepth 20000 in
theorem ggX0_giveBack_X0_lentOf : GoodIn wsX0_giveBack wsX0_lentOf := goodIn_r _ [8, 9, 1, 10, 11, 12, 13, 14, 15, 34, 35, 36, 37, 38, 39, 40, 41, 42, 43, 44] (by decide +kernel) (by decide +kernel)
set_option maxRecDepth 20000 in
theorem gX0_giveBack_X0_lentOf : GoodIn wsX0_giveBack (wsV RX0 82 RX0 yX0_lentOf wsX0_lentOf) := goodIn_app (goodIn_of _ (by decide +kernel)) ggX0_giveBack_X0_lentOf
set_option maxRecDepth 20000 in
theorem ggX0_giveBack_X3_at : GoodIn wsX0_giveBack wsX3_at := goodIn_r _ [14, 15, 44] (by decide +kernel) (by decide +kernel)
set_option maxRecDepth 20000 in
theorem gX0_giveBack_X3_at : GoodIn wsX0_giveBack (wsV RX0 72 RX3 yX3_at wsX3_at) := goodIn_app (goodIn_of _ (by decide +kernel)) ggX0_giveBack_X3_at
set_option maxRecDepth 20000 in
theorem ggX0_giveBack_X0_freeFrom : GoodIn wsX0_giveBack wsX0_freeFrom := goodIn_r _ [19, 20, 21, 9, 22, 23, 24, 13, 25, 15, 10, 11, 12, 14, 26, 27, 28, 29, 34, 35, 36, 37, 38, 39, 40, 41, 42, 43, 44] (by decide +kernel) (by decide +kernel)
set_option maxRecDepth 20000 in
theorem gX0_giveBack_X0_freeFrom : GoodIn wsX0_giveBack (wsV RX0 75 RX0 yX0_freeFrom wsX0_freeFrom) := goodIn_app (goodIn_of _ (by decide +kernel)) ggX0_giveBack_X0_freeFrom
set_option maxRecDepth 20000 in
theorem ggX0_giveBack_X3_put : GoodIn wsX0_giveBack wsX3_put := goodIn_r _ [29, 15, 44] (by decide +kernel) (by decide +kernel)
set_option maxRecDepth 20000 in
theorem gX0_giveBack_X3_put : GoodIn wsX0_giveBack (wsV RX0 47 RX3 yX3_put wsX3_put) := goodIn_app (goodIn_of _ (by decide +kernel)) ggX0_giveBack_X3_put
set_option maxRecDepth 20000 in
theorem ggX0_giveBack_X3_grow : GoodIn wsX0_giveBack wsX3_grow := goodIn_r _ [33, 15, 44] (by decide +kernel) (by decide +kernel)
set_option maxRecDepth 20000 in
theorem gX0_giveBack_X3_grow : GoodIn wsX0_giveBack (wsV RX0 104 RX3 yX3_grow wsX3_grow) := goodIn_app (goodIn_of _ (by decide +kernel)) ggX0_giveBack_X3_grow
theorem dX0_giveBack_0 : decode cX0_giveBack 0 = .ok (.aload_n 0, 1) := by decide +kernel
theorem dX0_giveBack_1 : decode cX0_giveBack 1 = .ok (.iload_n 1, 1) := by decide +kernel
theorem dX0_giveBack_2 : decode cX0_giveBack 2 = .ok (.invokevirtual 82, 3) := by decide +kernel
theorem dX0_giveBack_5 : decode cX0_giveBack 5 = .ok (.istore_n 2, 1) := by decide +kernel
theorem dX0_giveBack_6 : decode cX0_giveBack 6 = .ok (.aload_n 0, 1) := by decide +kernel
theorem dX0_giveBack_7 : decode cX0_giveBack 7 = .ok (.iload_n 1, 1) := by decide +kernel
theorem dX0_giveBack_8 : decode cX0_giveBack 8 = .ok (.aload_n 0, 1) := by decide +kernel
theorem dX0_giveBack_9 : decode cX0_giveBack 9 = .ok (.getfield 32, 3) := by decide +kernel
theorem dX0_giveBack_12 : decode cX0_giveBack 12 = .ok (.iload_n 1, 1) := by decide +kernel
theorem dX0_giveBack_13 : decode cX0_giveBack 13 = .ok (.invokevirtual 72, 3) := by decide +kernel
theorem dX0_giveBack_16 : decode cX0_giveBack 16 = .ok (.invokevirtual 75, 3) := by decide +kernel
theorem dX0_giveBack_19 : decode cX0_giveBack 19 = .ok (.aload_n 0, 1) := by decide +kernel
theorem dX0_giveBack_20 : decode cX0_giveBack 20 = .ok (.getfield 38, 3) := by decide +kernel
theorem dX0_giveBack_23 : decode cX0_giveBack 23 = .ok (.iload_n 1, 1) := by decide +kernel
theorem dX0_giveBack_24 : decode cX0_giveBack 24 = .ok (.iconst 1, 1) := by decide +kernel
theorem dX0_giveBack_25 : decode cX0_giveBack 25 = .ok (.invokevirtual 47, 3) := by decide +kernel
theorem dX0_giveBack_28 : decode cX0_giveBack 28 = .ok (.aload_n 0, 1) := by decide +kernel
theorem dX0_giveBack_29 : decode cX0_giveBack 29 = .ok (.getfield 44, 3) := by decide +kernel
theorem dX0_giveBack_32 : decode cX0_giveBack 32 = .ok (.iconst 1, 1) := by decide +kernel
theorem dX0_giveBack_33 : decode cX0_giveBack 33 = .ok (.iload_n 2, 1) := by decide +kernel
theorem dX0_giveBack_34 : decode cX0_giveBack 34 = .ok (.invokevirtual 104, 3) := by decide +kernel
theorem dX0_giveBack_37 : decode cX0_giveBack 37 = .ok (.iload_n 2, 1) := by decide +kernel
theorem dX0_giveBack_38 : decode cX0_giveBack 38 = .ok (.ireturn, 1) := by decide +kernel
set_option maxRecDepth 20000 in
theorem ggX0_freeFrom_X3_holds : GoodIn wsX0_freeFrom wsX3_holds := goodIn_r _ [8, 9, 28] (by decide +kernel) (by decide +kernel)
set_option maxRecDepth 20000 in
theorem gX0_freeFrom_X3_holds : GoodIn wsX0_freeFrom (wsV RX0 54 RX3 yX3_holds wsX3_holds) := goodIn_app (goodIn_of _ (by decide +kernel)) ggX0_freeFrom_X3_holds
set_option maxRecDepth 20000 in
theorem ggX0_freeFrom_X3_at : GoodIn wsX0_freeFrom wsX3_at := goodIn_r _ [13, 9, 28] (by decide +kernel) (by decide +kernel)
set_option maxRecDepth 20000 in
theorem gX0_freeFrom_X3_at : GoodIn wsX0_freeFrom (wsV RX0 72 RX3 yX3_at wsX3_at) := goodIn_app (goodIn_of _ (by decide +kernel)) ggX0_freeFrom_X3_at
set_option maxRecDepth 20000 in
theorem ggX0_freeFrom_X3_put : GoodIn wsX0_freeFrom wsX3_put := goodIn_r _ [17, 9, 28] (by decide +kernel) (by decide +kernel)
set_option maxRecDepth 20000 in
theorem gX0_freeFrom_X3_put : GoodIn wsX0_freeFrom (wsV RX0 47 RX3 yX3_put wsX3_put) := goodIn_app (goodIn_of _ (by decide +kernel)) ggX0_freeFrom_X3_put
theorem dX0_freeFrom_0 : decode cX0_freeFrom 0 = .ok (.iconst 0, 1) := by decide +kernel
theorem dX0_freeFrom_1 : decode cX0_freeFrom 1 = .ok (.istore_n 3, 1) := by decide +kernel
theorem dX0_freeFrom_2 : decode cX0_freeFrom 2 = .ok (.iload_n 3, 1) := by decide +kernel
theorem dX0_freeFrom_3 : decode cX0_freeFrom 3 = .ok (.bipush 64, 2) := by decide +kernel
theorem dX0_freeFrom_5 : decode cX0_freeFrom 5 = .ok (.if_icmp .ge 53, 3) := by decide +kernel
theorem dX0_freeFrom_8 : decode cX0_freeFrom 8 = .ok (.aload_n 0, 1) := by decide +kernel
theorem dX0_freeFrom_9 : decode cX0_freeFrom 9 = .ok (.getfield 20, 3) := by decide +kernel
theorem dX0_freeFrom_12 : decode cX0_freeFrom 12 = .ok (.iload_n 3, 1) := by decide +kernel
theorem dX0_freeFrom_13 : decode cX0_freeFrom 13 = .ok (.iload_n 1, 1) := by decide +kernel
theorem dX0_freeFrom_14 : decode cX0_freeFrom 14 = .ok (.invokevirtual 54, 3) := by decide +kernel
theorem dX0_freeFrom_17 : decode cX0_freeFrom 17 = .ok (.ifCond .eq 35, 3) := by decide +kernel
theorem dX0_freeFrom_20 : decode cX0_freeFrom 20 = .ok (.aload_n 0, 1) := by decide +kernel
theorem dX0_freeFrom_21 : decode cX0_freeFrom 21 = .ok (.getfield 23, 3) := by decide +kernel
theorem dX0_freeFrom_24 : decode cX0_freeFrom 24 = .ok (.iload_n 3, 1) := by decide +kernel
theorem dX0_freeFrom_25 : decode cX0_freeFrom 25 = .ok (.invokevirtual 72, 3) := by decide +kernel
theorem dX0_freeFrom_28 : decode cX0_freeFrom 28 = .ok (.iload_n 2, 1) := by decide +kernel
theorem dX0_freeFrom_29 : decode cX0_freeFrom 29 = .ok (.if_icmp .lt 23, 3) := by decide +kernel
theorem dX0_freeFrom_32 : decode cX0_freeFrom 32 = .ok (.aload_n 0, 1) := by decide +kernel
theorem dX0_freeFrom_33 : decode cX0_freeFrom 33 = .ok (.getfield 20, 3) := by decide +kernel
theorem dX0_freeFrom_36 : decode cX0_freeFrom 36 = .ok (.iload_n 3, 1) := by decide +kernel
theorem dX0_freeFrom_37 : decode cX0_freeFrom 37 = .ok (.bipush (-5), 2) := by decide +kernel
theorem dX0_freeFrom_39 : decode cX0_freeFrom 39 = .ok (.invokevirtual 47, 3) := by decide +kernel
theorem dX0_freeFrom_42 : decode cX0_freeFrom 42 = .ok (.aload_n 0, 1) := by decide +kernel
theorem dX0_freeFrom_43 : decode cX0_freeFrom 43 = .ok (.getfield 23, 3) := by decide +kernel
theorem dX0_freeFrom_46 : decode cX0_freeFrom 46 = .ok (.iload_n 3, 1) := by decide +kernel
theorem dX0_freeFrom_47 : decode cX0_freeFrom 47 = .ok (.bipush (-5), 2) := by decide +kernel
theorem dX0_freeFrom_49 : decode cX0_freeFrom 49 = .ok (.invokevirtual 47, 3) := by decide +kernel
theorem dX0_freeFrom_52 : decode cX0_freeFrom 52 = .ok (.iinc 3 1, 3) := by decide +kernel
theorem dX0_freeFrom_55 : decode cX0_freeFrom 55 = .ok (.goto (-53), 3) := by decide +kernel
theorem dX0_freeFrom_58 : decode cX0_freeFrom 58 = .ok (.aload_n 0, 1) := by decide +kernel
theorem dX0_freeFrom_59 : decode cX0_freeFrom 59 = .ok (.getfield 29, 3) := by decide +kernel
theorem dX0_freeFrom_62 : decode cX0_freeFrom 62 = .ok (.iload_n 1, 1) := by decide +kernel
theorem dX0_freeFrom_63 : decode cX0_freeFrom 63 = .ok (.iload_n 2, 1) := by decide +kernel
theorem dX0_freeFrom_64 : decode cX0_freeFrom 64 = .ok (.invokevirtual 47, 3) := by decide +kernel
theorem dX0_freeFrom_67 : decode cX0_freeFrom 67 = .ok (.return_, 1) := by decide +kernel
set_option maxRecDepth 20000 in
theorem ggX0_ownerOf_X3_at : GoodIn wsX0_ownerOf wsX3_at := goodIn_r _ [6, 7, 18] (by decide +kernel) (by decide +kernel)
set_option maxRecDepth 20000 in
theorem gX0_ownerOf_X3_at : GoodIn wsX0_ownerOf (wsV RX0 72 RX3 yX3_at wsX3_at) := goodIn_app (goodIn_of _ (by decide +kernel)) ggX0_ownerOf_X3_at
theorem dX0_ownerOf_0 : decode cX0_ownerOf 0 = .ok (.aload_n 0, 1) := by decide +kernel
theorem dX0_ownerOf_1 : decode cX0_ownerOf 1 = .ok (.getfield 20, 3) := by decide +kernel
theorem dX0_ownerOf_4 : decode cX0_ownerOf 4 = .ok (.iload_n 1, 1) := by decide +kernel
theorem dX0_ownerOf_5 : decode cX0_ownerOf 5 = .ok (.invokevirtual 72, 3) := by decide +kernel
theorem dX0_ownerOf_8 : decode cX0_ownerOf 8 = .ok (.ireturn, 1) := by decide +kernel
set_option maxRecDepth 20000 in
theorem ggX0_placeOf_X3_at : GoodIn wsX0_placeOf wsX3_at := goodIn_r _ [6, 7, 18] (by decide +kernel) (by decide +kernel)
set_option maxRecDepth 20000 in
theorem gX0_placeOf_X3_at : GoodIn wsX0_placeOf (wsV RX0 72 RX3 yX3_at wsX3_at) := goodIn_app (goodIn_of _ (by decide +kernel)) ggX0_placeOf_X3_at
theorem dX0_placeOf_0 : decode cX0_placeOf 0 = .ok (.aload_n 0, 1) := by decide +kernel
theorem dX0_placeOf_1 : decode cX0_placeOf 1 = .ok (.getfield 23, 3) := by decide +kernel
theorem dX0_placeOf_4 : decode cX0_placeOf 4 = .ok (.iload_n 1, 1) := by decide +kernel
theorem dX0_placeOf_5 : decode cX0_placeOf 5 = .ok (.invokevirtual 72, 3) := by decide +kernel
theorem dX0_placeOf_8 : decode cX0_placeOf 8 = .ok (.ireturn, 1) := by decide +kernel
set_option maxRecDepth 20000 in
theorem ggX0_stampOf_X3_at : GoodIn wsX0_stampOf wsX3_at := goodIn_r _ [6, 7, 18] (by decide +kernel) (by decide +kernel)
set_option maxRecDepth 20000 in
theorem gX0_stampOf_X3_at : GoodIn wsX0_stampOf (wsV RX0 72 RX3 yX3_at wsX3_at) := goodIn_app (goodIn_of _ (by decide +kernel)) ggX0_stampOf_X3_at
theorem dX0_stampOf_0 : decode cX0_stampOf 0 = .ok (.aload_n 0, 1) := by decide +kernel
theorem dX0_stampOf_1 : decode cX0_stampOf 1 = .ok (.getfield 14, 3) := by decide +kernel
theorem dX0_stampOf_4 : decode cX0_stampOf 4 = .ok (.iload_n 1, 1) := by decide +kernel
theorem dX0_stampOf_5 : decode cX0_stampOf 5 = .ok (.invokevirtual 72, 3) := by decide +kernel
theorem dX0_stampOf_8 : decode cX0_stampOf 8 = .ok (.ireturn, 1) := by decide +kernel
set_option maxRecDepth 20000 in
theorem ggX0_useOf_X3_holds : GoodIn wsX0_useOf wsX3_holds := goodIn_r _ [8, 9, 24] (by decide +kernel) (by decide +kernel)
set_option maxRecDepth 20000 in
theorem gX0_useOf_X3_holds : GoodIn wsX0_useOf (wsV RX0 54 RX3 yX3_holds wsX3_holds) := goodIn_app (goodIn_of _ (by decide +kernel)) ggX0_useOf_X3_holds
set_option maxRecDepth 20000 in
theorem ggX0_useOf_X3_at : GoodIn wsX0_useOf wsX3_at := goodIn_r _ [13, 9, 24] (by decide +kernel) (by decide +kernel)
set_option maxRecDepth 20000 in
theorem gX0_useOf_X3_at : GoodIn wsX0_useOf (wsV RX0 72 RX3 yX3_at wsX3_at) := goodIn_app (goodIn_of _ (by decide +kernel)) ggX0_useOf_X3_at
theorem dX0_useOf_0 : decode cX0_useOf 0 = .ok (.aload_n 0, 1) := by decide +kernel
theorem dX0_useOf_1 : decode cX0_useOf 1 = .ok (.getfield 20, 3) := by decide +kernel
theorem dX0_useOf_4 : decode cX0_useOf 4 = .ok (.iload_n 1, 1) := by decide +kernel
theorem dX0_useOf_5 : decode cX0_useOf 5 = .ok (.bipush (-5), 2) := by decide +kernel
theorem dX0_useOf_7 : decode cX0_useOf 7 = .ok (.invokevirtual 54, 3) := by decide +kernel
theorem dX0_useOf_10 : decode cX0_useOf 10 = .ok (.ifCond .eq 5, 3) := by decide +kernel
theorem dX0_useOf_13 : decode cX0_useOf 13 = .ok (.iconst 0, 1) := by decide +kernel
theorem dX0_useOf_14 : decode cX0_useOf 14 = .ok (.ireturn, 1) := by decide +kernel
theorem dX0_useOf_15 : decode cX0_useOf 15 = .ok (.aload_n 0, 1) := by decide +kernel
theorem dX0_useOf_16 : decode cX0_useOf 16 = .ok (.getfield 23, 3) := by decide +kernel
theorem dX0_useOf_19 : decode cX0_useOf 19 = .ok (.iload_n 1, 1) := by decide +kernel
theorem dX0_useOf_20 : decode cX0_useOf 20 = .ok (.invokevirtual 72, 3) := by decide +kernel
theorem dX0_useOf_23 : decode cX0_useOf 23 = .ok (.aload_n 0, 1) := by decide +kernel
theorem dX0_useOf_24 : decode cX0_useOf 24 = .ok (.getfield 32, 3) := by decide +kernel
theorem dX0_useOf_27 : decode cX0_useOf 27 = .ok (.aload_n 0, 1) := by decide +kernel
theorem dX0_useOf_28 : decode cX0_useOf 28 = .ok (.getfield 20, 3) := by decide +kernel
theorem dX0_useOf_31 : decode cX0_useOf 31 = .ok (.iload_n 1, 1) := by decide +kernel
theorem dX0_useOf_32 : decode cX0_useOf 32 = .ok (.invokevirtual 72, 3) := by decide +kernel
theorem dX0_useOf_35 : decode cX0_useOf 35 = .ok (.invokevirtual 72, 3) := by decide +kernel
theorem dX0_useOf_38 : decode cX0_useOf 38 = .ok (.if_icmp .ge 7, 3) := by decide +kernel
theorem dX0_useOf_41 : decode cX0_useOf 41 = .ok (.iconst 1, 1) := by decide +kernel
theorem dX0_useOf_42 : decode cX0_useOf 42 = .ok (.goto 4, 3) := by decide +kernel
theorem dX0_useOf_45 : decode cX0_useOf 45 = .ok (.iconst 2, 1) := by decide +kernel
theorem dX0_useOf_46 : decode cX0_useOf 46 = .ok (.ireturn, 1) := by decide +kernel
set_option maxRecDepth 20000 in
theorem ggX0_isPart_X3_holds : GoodIn wsX0_isPart wsX3_holds := goodIn_r _ [7, 8, 23] (by decide +kernel) (by decide +kernel)
set_option maxRecDepth 20000 in
theorem gX0_isPart_X3_holds : GoodIn wsX0_isPart (wsV RX0 54 RX3 yX3_holds wsX3_holds) := goodIn_app (goodIn_of _ (by decide +kernel)) ggX0_isPart_X3_holds
set_option maxRecDepth 20000 in
theorem ggX0_isPart_X3_at : GoodIn wsX0_isPart wsX3_at := goodIn_r _ [12, 8, 23] (by decide +kernel) (by decide +kernel)
set_option maxRecDepth 20000 in
theorem gX0_isPart_X3_at : GoodIn wsX0_isPart (wsV RX0 72 RX3 yX3_at wsX3_at) := goodIn_app (goodIn_of _ (by decide +kernel)) ggX0_isPart_X3_at
theorem dX0_isPart_0 : decode cX0_isPart 0 = .ok (.aload_n 0, 1) := by decide +kernel
theorem dX0_isPart_1 : decode cX0_isPart 1 = .ok (.getfield 20, 3) := by decide +kernel
theorem dX0_isPart_4 : decode cX0_isPart 4 = .ok (.iload_n 1, 1) := by decide +kernel
theorem dX0_isPart_5 : decode cX0_isPart 5 = .ok (.iload_n 2, 1) := by decide +kernel
theorem dX0_isPart_6 : decode cX0_isPart 6 = .ok (.invokevirtual 54, 3) := by decide +kernel
theorem dX0_isPart_9 : decode cX0_isPart 9 = .ok (.ifCond .eq 32, 3) := by decide +kernel
theorem dX0_isPart_12 : decode cX0_isPart 12 = .ok (.aload_n 0, 1) := by decide +kernel
theorem dX0_isPart_13 : decode cX0_isPart 13 = .ok (.getfield 23, 3) := by decide +kernel
theorem dX0_isPart_16 : decode cX0_isPart 16 = .ok (.iload_n 1, 1) := by decide +kernel
theorem dX0_isPart_17 : decode cX0_isPart 17 = .ok (.invokevirtual 72, 3) := by decide +kernel
theorem dX0_isPart_20 : decode cX0_isPart 20 = .ok (.iload_n 3, 1) := by decide +kernel
theorem dX0_isPart_21 : decode cX0_isPart 21 = .ok (.if_icmp .lt 20, 3) := by decide +kernel
theorem dX0_isPart_24 : decode cX0_isPart 24 = .ok (.aload_n 0, 1) := by decide +kernel
theorem dX0_isPart_25 : decode cX0_isPart 25 = .ok (.getfield 23, 3) := by decide +kernel
theorem dX0_isPart_28 : decode cX0_isPart 28 = .ok (.iload_n 1, 1) := by decide +kernel
theorem dX0_isPart_29 : decode cX0_isPart 29 = .ok (.invokevirtual 72, 3) := by decide +kernel
theorem dX0_isPart_32 : decode cX0_isPart 32 = .ok (.iload 4, 2) := by decide +kernel
theorem dX0_isPart_34 : decode cX0_isPart 34 = .ok (.if_icmp .ge 7, 3) := by decide +kernel
theorem dX0_isPart_37 : decode cX0_isPart 37 = .ok (.iconst 1, 1) := by decide +kernel
theorem dX0_isPart_38 : decode cX0_isPart 38 = .ok (.goto 4, 3) := by decide +kernel
theorem dX0_isPart_41 : decode cX0_isPart 41 = .ok (.iconst 0, 1) := by decide +kernel
theorem dX0_isPart_42 : decode cX0_isPart 42 = .ok (.ireturn, 1) := by decide +kernel
set_option maxRecDepth 20000 in
theorem ggX0_isFile_X3_holds : GoodIn wsX0_isFile wsX3_holds := goodIn_r _ [6, 7, 18] (by decide +kernel) (by decide +kernel)
set_option maxRecDepth 20000 in
theorem gX0_isFile_X3_holds : GoodIn wsX0_isFile (wsV RX0 54 RX3 yX3_holds wsX3_holds) := goodIn_app (goodIn_of _ (by decide +kernel)) ggX0_isFile_X3_holds
theorem dX0_isFile_0 : decode cX0_isFile 0 = .ok (.aload_n 0, 1) := by decide +kernel
theorem dX0_isFile_1 : decode cX0_isFile 1 = .ok (.getfield 26, 3) := by decide +kernel
theorem dX0_isFile_4 : decode cX0_isFile 4 = .ok (.iload_n 1, 1) := by decide +kernel
theorem dX0_isFile_5 : decode cX0_isFile 5 = .ok (.iconst 2, 1) := by decide +kernel
theorem dX0_isFile_6 : decode cX0_isFile 6 = .ok (.invokevirtual 54, 3) := by decide +kernel
theorem dX0_isFile_9 : decode cX0_isFile 9 = .ok (.ifCond .ne 15, 3) := by decide +kernel
theorem dX0_isFile_12 : decode cX0_isFile 12 = .ok (.aload_n 0, 1) := by decide +kernel
theorem dX0_isFile_13 : decode cX0_isFile 13 = .ok (.getfield 26, 3) := by decide +kernel
theorem dX0_isFile_16 : decode cX0_isFile 16 = .ok (.iload_n 1, 1) := by decide +kernel
theorem dX0_isFile_17 : decode cX0_isFile 17 = .ok (.iconst 1, 1) := by decide +kernel
theorem dX0_isFile_18 : decode cX0_isFile 18 = .ok (.invokevirtual 54, 3) := by decide +kernel
theorem dX0_isFile_21 : decode cX0_isFile 21 = .ok (.ifCond .eq 7, 3) := by decide +kernel
theorem dX0_isFile_24 : decode cX0_isFile 24 = .ok (.iconst 1, 1) := by decide +kernel
theorem dX0_isFile_25 : decode cX0_isFile 25 = .ok (.goto 4, 3) := by decide +kernel
theorem dX0_isFile_28 : decode cX0_isFile 28 = .ok (.iconst 0, 1) := by decide +kernel
theorem dX0_isFile_29 : decode cX0_isFile 29 = .ok (.ireturn, 1) := by decide +kernel
set_option maxRecDepth 20000 in
theorem ggX0_isOpen_X3_holds : GoodIn wsX0_isOpen wsX3_holds := goodIn_r _ [6, 7, 18] (by decide +kernel) (by decide +kernel)
set_option maxRecDepth 20000 in
theorem gX0_isOpen_X3_holds : GoodIn wsX0_isOpen (wsV RX0 54 RX3 yX3_holds wsX3_holds) := goodIn_app (goodIn_of _ (by decide +kernel)) ggX0_isOpen_X3_holds
theorem dX0_isOpen_0 : decode cX0_isOpen 0 = .ok (.aload_n 0, 1) := by decide +kernel
theorem dX0_isOpen_1 : decode cX0_isOpen 1 = .ok (.getfield 26, 3) := by decide +kernel
theorem dX0_isOpen_4 : decode cX0_isOpen 4 = .ok (.iload_n 1, 1) := by decide +kernel
theorem dX0_isOpen_5 : decode cX0_isOpen 5 = .ok (.iconst 2, 1) := by decide +kernel
theorem dX0_isOpen_6 : decode cX0_isOpen 6 = .ok (.invokevirtual 54, 3) := by decide +kernel
theorem dX0_isOpen_9 : decode cX0_isOpen 9 = .ok (.ireturn, 1) := by decide +kernel
set_option maxRecDepth 20000 in
theorem ggX0_sizeOf_X3_at : GoodIn wsX0_sizeOf wsX3_at := goodIn_r _ [6, 7, 18] (by decide +kernel) (by decide +kernel)
set_option maxRecDepth 20000 in
theorem gX0_sizeOf_X3_at : GoodIn wsX0_sizeOf (wsV RX0 72 RX3 yX3_at wsX3_at) := goodIn_app (goodIn_of _ (by decide +kernel)) ggX0_sizeOf_X3_at
theorem dX0_sizeOf_0 : decode cX0_sizeOf 0 = .ok (.aload_n 0, 1) := by decide +kernel
theorem dX0_sizeOf_1 : decode cX0_sizeOf 1 = .ok (.getfield 32, 3) := by decide +kernel
theorem dX0_sizeOf_4 : decode cX0_sizeOf 4 = .ok (.iload_n 1, 1) := by decide +kernel
theorem dX0_sizeOf_5 : decode cX0_sizeOf 5 = .ok (.invokevirtual 72, 3) := by decide +kernel
theorem dX0_sizeOf_8 : decode cX0_sizeOf 8 = .ok (.ireturn, 1) := by decide +kernel
set_option maxRecDepth 20000 in
theorem ggX0_lentOf_X3_at : GoodIn wsX0_lentOf wsX3_at := goodIn_r _ [7, 8, 19] (by decide +kernel) (by decide +kernel)
set_option maxRecDepth 20000 in
theorem gX0_lentOf_X3_at : GoodIn wsX0_lentOf (wsV RX0 72 RX3 yX3_at wsX3_at) := goodIn_app (goodIn_of _ (by decide +kernel)) ggX0_lentOf_X3_at
theorem dX0_lentOf_0 : decode cX0_lentOf 0 = .ok (.aload_n 0, 1) := by decide +kernel
theorem dX0_lentOf_1 : decode cX0_lentOf 1 = .ok (.getfield 29, 3) := by decide +kernel
theorem dX0_lentOf_4 : decode cX0_lentOf 4 = .ok (.iload_n 1, 1) := by decide +kernel
theorem dX0_lentOf_5 : decode cX0_lentOf 5 = .ok (.invokevirtual 72, 3) := by decide +kernel
theorem dX0_lentOf_8 : decode cX0_lentOf 8 = .ok (.aload_n 0, 1) := by decide +kernel
theorem dX0_lentOf_9 : decode cX0_lentOf 9 = .ok (.getfield 32, 3) := by decide +kernel
theorem dX0_lentOf_12 : decode cX0_lentOf 12 = .ok (.iload_n 1, 1) := by decide +kernel
theorem dX0_lentOf_13 : decode cX0_lentOf 13 = .ok (.invokevirtual 72, 3) := by decide +kernel
theorem dX0_lentOf_16 : decode cX0_lentOf 16 = .ok (.isub, 1) := by decide +kernel
theorem dX0_lentOf_17 : decode cX0_lentOf 17 = .ok (.ireturn, 1) := by decide +kernel
set_option maxRecDepth 20000 in
theorem ggX0_safeSizeOf_X3_at : GoodIn wsX0_safeSizeOf wsX3_at := goodIn_r _ [6, 7, 18] (by decide +kernel) (by decide +kernel)
set_option maxRecDepth 20000 in
theorem gX0_safeSizeOf_X3_at : GoodIn wsX0_safeSizeOf (wsV RX0 72 RX3 yX3_at wsX3_at) := goodIn_app (goodIn_of _ (by decide +kernel)) ggX0_safeSizeOf_X3_at
theorem dX0_safeSizeOf_0 : decode cX0_safeSizeOf 0 = .ok (.aload_n 0, 1) := by decide +kernel
theorem dX0_safeSizeOf_1 : decode cX0_safeSizeOf 1 = .ok (.getfield 35, 3) := by decide +kernel
theorem dX0_safeSizeOf_4 : decode cX0_safeSizeOf 4 = .ok (.iload_n 1, 1) := by decide +kernel
theorem dX0_safeSizeOf_5 : decode cX0_safeSizeOf 5 = .ok (.invokevirtual 72, 3) := by decide +kernel
theorem dX0_safeSizeOf_8 : decode cX0_safeSizeOf 8 = .ok (.ireturn, 1) := by decide +kernel
set_option maxRecDepth 20000 in
theorem ggX0_lendOf_X3_at : GoodIn wsX0_lendOf wsX3_at := goodIn_r _ [6, 7, 18] (by decide +kernel) (by decide +kernel)
set_option maxRecDepth 20000 in
theorem gX0_lendOf_X3_at : GoodIn wsX0_lendOf (wsV RX0 72 RX3 yX3_at wsX3_at) := goodIn_app (goodIn_of _ (by decide +kernel)) ggX0_lendOf_X3_at
theorem dX0_lendOf_0 : decode cX0_lendOf 0 = .ok (.aload_n 0, 1) := by decide +kernel
theorem dX0_lendOf_1 : decode cX0_lendOf 1 = .ok (.getfield 38, 3) := by decide +kernel
theorem dX0_lendOf_4 : decode cX0_lendOf 4 = .ok (.iload_n 1, 1) := by decide +kernel
theorem dX0_lendOf_5 : decode cX0_lendOf 5 = .ok (.invokevirtual 72, 3) := by decide +kernel
theorem dX0_lendOf_8 : decode cX0_lendOf 8 = .ok (.ireturn, 1) := by decide +kernel
set_option maxRecDepth 20000 in
theorem ggX0_blockAt_X3_holds : GoodIn wsX0_blockAt wsX3_holds := goodIn_r _ [7, 8, 19] (by decide +kernel) (by decide +kernel)
set_option maxRecDepth 20000 in
theorem gX0_blockAt_X3_holds : GoodIn wsX0_blockAt (wsV RX0 54 RX3 yX3_holds wsX3_holds) := goodIn_app (goodIn_of _ (by decide +kernel)) ggX0_blockAt_X3_holds
theorem dX0_blockAt_0 : decode cX0_blockAt 0 = .ok (.iconst 0, 1) := by decide +kernel
theorem dX0_blockAt_1 : decode cX0_blockAt 1 = .ok (.istore_n 3, 1) := by decide +kernel
theorem dX0_blockAt_2 : decode cX0_blockAt 2 = .ok (.iload_n 3, 1) := by decide +kernel
theorem dX0_blockAt_3 : decode cX0_blockAt 3 = .ok (.bipush 64, 2) := by decide +kernel
theorem dX0_blockAt_5 : decode cX0_blockAt 5 = .ok (.if_icmp .ge 35, 3) := by decide +kernel
theorem dX0_blockAt_8 : decode cX0_blockAt 8 = .ok (.aload_n 0, 1) := by decide +kernel
theorem dX0_blockAt_9 : decode cX0_blockAt 9 = .ok (.getfield 20, 3) := by decide +kernel
theorem dX0_blockAt_12 : decode cX0_blockAt 12 = .ok (.iload_n 3, 1) := by decide +kernel
theorem dX0_blockAt_13 : decode cX0_blockAt 13 = .ok (.iload_n 1, 1) := by decide +kernel
theorem dX0_blockAt_14 : decode cX0_blockAt 14 = .ok (.invokevirtual 54, 3) := by decide +kernel
theorem dX0_blockAt_17 : decode cX0_blockAt 17 = .ok (.ifCond .eq 17, 3) := by decide +kernel
theorem dX0_blockAt_20 : decode cX0_blockAt 20 = .ok (.aload_n 0, 1) := by decide +kernel
theorem dX0_blockAt_21 : decode cX0_blockAt 21 = .ok (.getfield 23, 3) := by decide +kernel
theorem dX0_blockAt_24 : decode cX0_blockAt 24 = .ok (.iload_n 3, 1) := by decide +kernel
theorem dX0_blockAt_25 : decode cX0_blockAt 25 = .ok (.iload_n 2, 1) := by decide +kernel
theorem dX0_blockAt_26 : decode cX0_blockAt 26 = .ok (.invokevirtual 54, 3) := by decide +kernel
theorem dX0_blockAt_29 : decode cX0_blockAt 29 = .ok (.ifCond .eq 5, 3) := by decide +kernel
theorem dX0_blockAt_32 : decode cX0_blockAt 32 = .ok (.iload_n 3, 1) := by decide +kernel
theorem dX0_blockAt_33 : decode cX0_blockAt 33 = .ok (.ireturn, 1) := by decide +kernel
theorem dX0_blockAt_34 : decode cX0_blockAt 34 = .ok (.iinc 3 1, 3) := by decide +kernel
theorem dX0_blockAt_37 : decode cX0_blockAt 37 = .ok (.goto (-35), 3) := by decide +kernel
theorem dX0_blockAt_40 : decode cX0_blockAt 40 = .ok (.bipush (-5), 2) := by decide +kernel
theorem dX0_blockAt_42 : decode cX0_blockAt 42 = .ok (.ireturn, 1) := by decide +kernel
set_option maxRecDepth 20000 in
theorem ggX0_extentsOf_X3_holds : GoodIn wsX0_extentsOf wsX3_holds := goodIn_r _ [6, 7, 28] (by decide +kernel) (by decide +kernel)
set_option maxRecDepth 20000 in
theorem gX0_extentsOf_X3_holds : GoodIn wsX0_extentsOf (wsV RX0 54 RX3 yX3_holds wsX3_holds) := goodIn_app (goodIn_of _ (by decide +kernel)) ggX0_extentsOf_X3_holds
set_option maxRecDepth 20000 in
theorem ggX0_extentsOf_X0_beginsExtent : GoodIn wsX0_extentsOf wsX0_beginsExtent := goodIn_r _ [12, 1, 13, 14, 15, 16, 5, 17, 7, 2, 3, 4, 6, 18, 19, 20, 21, 22, 23, 24, 25, 26, 27, 28] (by decide +kernel) (by decide +kernel)
set_option maxRecDepth 20000 in
theorem gX0_extentsOf_X0_beginsExtent : GoodIn wsX0_extentsOf (wsV RX0 134 RX0 yX0_beginsExtent wsX0_beginsExtent) := goodIn_app (goodIn_of _ (by decide +kernel)) ggX0_extentsOf_X0_beginsExtent
theorem dX0_extentsOf_0 : decode cX0_extentsOf 0 = .ok (.iconst 0, 1) := by decide +kernel
theorem dX0_extentsOf_1 : decode cX0_extentsOf 1 = .ok (.istore_n 2, 1) := by decide +kernel
theorem dX0_extentsOf_2 : decode cX0_extentsOf 2 = .ok (.iconst 0, 1) := by decide +kernel
theorem dX0_extentsOf_3 : decode cX0_extentsOf 3 = .ok (.istore_n 3, 1) := by decide +kernel
theorem dX0_extentsOf_4 : decode cX0_extentsOf 4 = .ok (.iload_n 3, 1) := by decide +kernel
theorem dX0_extentsOf_5 : decode cX0_extentsOf 5 = .ok (.bipush 64, 2) := by decide +kernel
theorem dX0_extentsOf_7 : decode cX0_extentsOf 7 = .ok (.if_icmp .ge 32, 3) := by decide +kernel
theorem dX0_extentsOf_10 : decode cX0_extentsOf 10 = .ok (.aload_n 0, 1) := by decide +kernel
theorem dX0_extentsOf_11 : decode cX0_extentsOf 11 = .ok (.getfield 20, 3) := by decide +kernel
theorem dX0_extentsOf_14 : decode cX0_extentsOf 14 = .ok (.iload_n 3, 1) := by decide +kernel
theorem dX0_extentsOf_15 : decode cX0_extentsOf 15 = .ok (.iload_n 1, 1) := by decide +kernel
theorem dX0_extentsOf_16 : decode cX0_extentsOf 16 = .ok (.invokevirtual 54, 3) := by decide +kernel
theorem dX0_extentsOf_19 : decode cX0_extentsOf 19 = .ok (.ifCond .eq 14, 3) := by decide +kernel
theorem dX0_extentsOf_22 : decode cX0_extentsOf 22 = .ok (.aload_n 0, 1) := by decide +kernel
theorem dX0_extentsOf_23 : decode cX0_extentsOf 23 = .ok (.iload_n 3, 1) := by decide +kernel
theorem dX0_extentsOf_24 : decode cX0_extentsOf 24 = .ok (.invokevirtual 134, 3) := by decide +kernel
theorem dX0_extentsOf_27 : decode cX0_extentsOf 27 = .ok (.ifCond .eq 6, 3) := by decide +kernel
theorem dX0_extentsOf_30 : decode cX0_extentsOf 30 = .ok (.iinc 2 1, 3) := by decide +kernel
theorem dX0_extentsOf_33 : decode cX0_extentsOf 33 = .ok (.iinc 3 1, 3) := by decide +kernel
theorem dX0_extentsOf_36 : decode cX0_extentsOf 36 = .ok (.goto (-32), 3) := by decide +kernel
theorem dX0_extentsOf_39 : decode cX0_extentsOf 39 = .ok (.iload_n 2, 1) := by decide +kernel
theorem dX0_extentsOf_40 : decode cX0_extentsOf 40 = .ok (.ireturn, 1) := by decide +kernel
set_option maxRecDepth 20000 in
theorem ggX0_beginsExtent_X3_at : GoodIn wsX0_beginsExtent wsX3_at := goodIn_r _ [7, 8, 23] (by decide +kernel) (by decide +kernel)
set_option maxRecDepth 20000 in
theorem gX0_beginsExtent_X3_at : GoodIn wsX0_beginsExtent (wsV RX0 72 RX3 yX3_at wsX3_at) := goodIn_app (goodIn_of _ (by decide +kernel)) ggX0_beginsExtent_X3_at
set_option maxRecDepth 20000 in
theorem ggX0_beginsExtent_X3_holds : GoodIn wsX0_beginsExtent wsX3_holds := goodIn_r _ [12, 8, 23] (by decide +kernel) (by decide +kernel)
set_option maxRecDepth 20000 in
theorem gX0_beginsExtent_X3_holds : GoodIn wsX0_beginsExtent (wsV RX0 54 RX3 yX3_holds wsX3_holds) := goodIn_app (goodIn_of _ (by decide +kernel)) ggX0_beginsExtent_X3_holds
theorem dX0_beginsExtent_0 : decode cX0_beginsExtent 0 = .ok (.aload_n 0, 1) := by decide +kernel
theorem dX0_beginsExtent_1 : decode cX0_beginsExtent 1 = .ok (.getfield 20, 3) := by decide +kernel
theorem dX0_beginsExtent_4 : decode cX0_beginsExtent 4 = .ok (.iload_n 1, 1) := by decide +kernel
theorem dX0_beginsExtent_5 : decode cX0_beginsExtent 5 = .ok (.iconst 1, 1) := by decide +kernel
theorem dX0_beginsExtent_6 : decode cX0_beginsExtent 6 = .ok (.isub, 1) := by decide +kernel
theorem dX0_beginsExtent_7 : decode cX0_beginsExtent 7 = .ok (.aload_n 0, 1) := by decide +kernel
theorem dX0_beginsExtent_8 : decode cX0_beginsExtent 8 = .ok (.getfield 20, 3) := by decide +kernel
theorem dX0_beginsExtent_11 : decode cX0_beginsExtent 11 = .ok (.iload_n 1, 1) := by decide +kernel
theorem dX0_beginsExtent_12 : decode cX0_beginsExtent 12 = .ok (.invokevirtual 72, 3) := by decide +kernel
theorem dX0_beginsExtent_15 : decode cX0_beginsExtent 15 = .ok (.invokevirtual 54, 3) := by decide +kernel
theorem dX0_beginsExtent_18 : decode cX0_beginsExtent 18 = .ok (.ifCond .eq 26, 3) := by decide +kernel
theorem dX0_beginsExtent_21 : decode cX0_beginsExtent 21 = .ok (.aload_n 0, 1) := by decide +kernel
theorem dX0_beginsExtent_22 : decode cX0_beginsExtent 22 = .ok (.getfield 23, 3) := by decide +kernel
theorem dX0_beginsExtent_25 : decode cX0_beginsExtent 25 = .ok (.iload_n 1, 1) := by decide +kernel
theorem dX0_beginsExtent_26 : decode cX0_beginsExtent 26 = .ok (.iconst 1, 1) := by decide +kernel
theorem dX0_beginsExtent_27 : decode cX0_beginsExtent 27 = .ok (.isub, 1) := by decide +kernel
theorem dX0_beginsExtent_28 : decode cX0_beginsExtent 28 = .ok (.aload_n 0, 1) := by decide +kernel
theorem dX0_beginsExtent_29 : decode cX0_beginsExtent 29 = .ok (.getfield 23, 3) := by decide +kernel
theorem dX0_beginsExtent_32 : decode cX0_beginsExtent 32 = .ok (.iload_n 1, 1) := by decide +kernel
theorem dX0_beginsExtent_33 : decode cX0_beginsExtent 33 = .ok (.invokevirtual 72, 3) := by decide +kernel
theorem dX0_beginsExtent_36 : decode cX0_beginsExtent 36 = .ok (.iconst 1, 1) := by decide +kernel
theorem dX0_beginsExtent_37 : decode cX0_beginsExtent 37 = .ok (.isub, 1) := by decide +kernel
theorem dX0_beginsExtent_38 : decode cX0_beginsExtent 38 = .ok (.invokevirtual 54, 3) := by decide +kernel
theorem dX0_beginsExtent_41 : decode cX0_beginsExtent 41 = .ok (.ifCond .ne 7, 3) := by decide +kernel
theorem dX0_beginsExtent_44 : decode cX0_beginsExtent 44 = .ok (.iconst 1, 1) := by decide +kernel
theorem dX0_beginsExtent_45 : decode cX0_beginsExtent 45 = .ok (.goto 4, 3) := by decide +kernel
theorem dX0_beginsExtent_48 : decode cX0_beginsExtent 48 = .ok (.iconst 0, 1) := by decide +kernel
theorem dX0_beginsExtent_49 : decode cX0_beginsExtent 49 = .ok (.ireturn, 1) := by decide +kernel
set_option maxRecDepth 20000 in
theorem ggX0_placeOfExtent_X3_at : GoodIn wsX0_placeOfExtent wsX3_at := goodIn_r _ [6, 7, 33] (by decide +kernel) (by decide +kernel)
set_option maxRecDepth 20000 in
theorem gX0_placeOfExtent_X3_at : GoodIn wsX0_placeOfExtent (wsV RX0 72 RX3 yX3_at wsX3_at) := goodIn_app (goodIn_of _ (by decide +kernel)) ggX0_placeOfExtent_X3_at
set_option maxRecDepth 20000 in
theorem ggX0_placeOfExtent_X0_blockAt : GoodIn wsX0_placeOfExtent wsX0_blockAt := goodIn_r _ [12, 13, 14, 15, 16, 17, 5, 18, 7, 23, 24, 25, 26, 27, 28, 29, 30, 31, 32, 33] (by decide +kernel) (by decide +kernel)
set_option maxRecDepth 20000 in
theorem gX0_placeOfExtent_X0_blockAt : GoodIn wsX0_placeOfExtent (wsV RX0 113 RX0 yX0_blockAt wsX0_blockAt) := goodIn_app (goodIn_of _ (by decide +kernel)) ggX0_placeOfExtent_X0_blockAt
set_option maxRecDepth 20000 in
theorem ggX0_placeOfExtent_X0_beginsExtent : GoodIn wsX0_placeOfExtent wsX0_beginsExtent := goodIn_r _ [22, 13, 14, 2, 3, 4, 5, 6, 7, 15, 16, 17, 18, 23, 24, 25, 26, 27, 28, 29, 30, 31, 32, 33] (by decide +kernel) (by decide +kernel)
set_option maxRecDepth 20000 in
theorem gX0_placeOfExtent_X0_beginsExtent : GoodIn wsX0_placeOfExtent (wsV RX0 134 RX0 yX0_beginsExtent wsX0_beginsExtent) := goodIn_app (goodIn_of _ (by decide +kernel)) ggX0_placeOfExtent_X0_beginsExtent
theorem dX0_placeOfExtent_0 : decode cX0_placeOfExtent 0 = .ok (.iconst 0, 1) := by decide +kernel
theorem dX0_placeOfExtent_1 : decode cX0_placeOfExtent 1 = .ok (.istore_n 3, 1) := by decide +kernel
theorem dX0_placeOfExtent_2 : decode cX0_placeOfExtent 2 = .ok (.iconst 0, 1) := by decide +kernel
theorem dX0_placeOfExtent_3 : decode cX0_placeOfExtent 3 = .ok (.istore 4, 2) := by decide +kernel
theorem dX0_placeOfExtent_5 : decode cX0_placeOfExtent 5 = .ok (.iload 4, 2) := by decide +kernel
theorem dX0_placeOfExtent_7 : decode cX0_placeOfExtent 7 = .ok (.aload_n 0, 1) := by decide +kernel
theorem dX0_placeOfExtent_8 : decode cX0_placeOfExtent 8 = .ok (.getfield 29, 3) := by decide +kernel
theorem dX0_placeOfExtent_11 : decode cX0_placeOfExtent 11 = .ok (.iload_n 1, 1) := by decide +kernel
theorem dX0_placeOfExtent_12 : decode cX0_placeOfExtent 12 = .ok (.invokevirtual 72, 3) := by decide +kernel
theorem dX0_placeOfExtent_15 : decode cX0_placeOfExtent 15 = .ok (.if_icmp .ge 34, 3) := by decide +kernel
theorem dX0_placeOfExtent_18 : decode cX0_placeOfExtent 18 = .ok (.aload_n 0, 1) := by decide +kernel
theorem dX0_placeOfExtent_19 : decode cX0_placeOfExtent 19 = .ok (.aload_n 0, 1) := by decide +kernel
theorem dX0_placeOfExtent_20 : decode cX0_placeOfExtent 20 = .ok (.iload_n 1, 1) := by decide +kernel
theorem dX0_placeOfExtent_21 : decode cX0_placeOfExtent 21 = .ok (.iload 4, 2) := by decide +kernel
theorem dX0_placeOfExtent_23 : decode cX0_placeOfExtent 23 = .ok (.invokevirtual 113, 3) := by decide +kernel
theorem dX0_placeOfExtent_26 : decode cX0_placeOfExtent 26 = .ok (.invokevirtual 134, 3) := by decide +kernel
theorem dX0_placeOfExtent_29 : decode cX0_placeOfExtent 29 = .ok (.ifCond .eq 14, 3) := by decide +kernel
theorem dX0_placeOfExtent_32 : decode cX0_placeOfExtent 32 = .ok (.iload_n 3, 1) := by decide +kernel
theorem dX0_placeOfExtent_33 : decode cX0_placeOfExtent 33 = .ok (.iload_n 2, 1) := by decide +kernel
theorem dX0_placeOfExtent_34 : decode cX0_placeOfExtent 34 = .ok (.if_icmp .ne 6, 3) := by decide +kernel
theorem dX0_placeOfExtent_37 : decode cX0_placeOfExtent 37 = .ok (.iload 4, 2) := by decide +kernel
theorem dX0_placeOfExtent_39 : decode cX0_placeOfExtent 39 = .ok (.ireturn, 1) := by decide +kernel
theorem dX0_placeOfExtent_40 : decode cX0_placeOfExtent 40 = .ok (.iinc 3 1, 3) := by decide +kernel
theorem dX0_placeOfExtent_43 : decode cX0_placeOfExtent 43 = .ok (.iinc 4 1, 3) := by decide +kernel
theorem dX0_placeOfExtent_46 : decode cX0_placeOfExtent 46 = .ok (.goto (-41), 3) := by decide +kernel
theorem dX0_placeOfExtent_49 : decode cX0_placeOfExtent 49 = .ok (.bipush (-5), 2) := by decide +kernel
theorem dX0_placeOfExtent_51 : decode cX0_placeOfExtent 51 = .ok (.ireturn, 1) := by decide +kernel
set_option maxRecDepth 20000 in
theorem ggX0_extentFrom_X3_at : GoodIn wsX0_extentFrom wsX3_at := goodIn_r _ [6, 7, 33] (by decide +kernel) (by decide +kernel)
set_option maxRecDepth 20000 in
theorem gX0_extentFrom_X3_at : GoodIn wsX0_extentFrom (wsV RX0 72 RX3 yX3_at wsX3_at) := goodIn_app (goodIn_of _ (by decide +kernel)) ggX0_extentFrom_X3_at
set_option maxRecDepth 20000 in
theorem ggX0_extentFrom_X0_blockAt : GoodIn wsX0_extentFrom wsX0_blockAt := goodIn_r _ [12, 13, 14, 15, 16, 17, 5, 18, 7, 23, 24, 25, 26, 27, 28, 29, 30, 31, 32, 33] (by decide +kernel) (by decide +kernel)
set_option maxRecDepth 20000 in
theorem gX0_extentFrom_X0_blockAt : GoodIn wsX0_extentFrom (wsV RX0 113 RX0 yX0_blockAt wsX0_blockAt) := goodIn_app (goodIn_of _ (by decide +kernel)) ggX0_extentFrom_X0_blockAt
set_option maxRecDepth 20000 in
theorem ggX0_extentFrom_X0_beginsExtent : GoodIn wsX0_extentFrom wsX0_beginsExtent := goodIn_r _ [22, 13, 14, 2, 3, 4, 5, 6, 7, 15, 16, 17, 18, 23, 24, 25, 26, 27, 28, 29, 30, 31, 32, 33] (by decide +kernel) (by decide +kernel)
set_option maxRecDepth 20000 in
theorem gX0_extentFrom_X0_beginsExtent : GoodIn wsX0_extentFrom (wsV RX0 134 RX0 yX0_beginsExtent wsX0_beginsExtent) := goodIn_app (goodIn_of _ (by decide +kernel)) ggX0_extentFrom_X0_beginsExtent
theorem dX0_extentFrom_0 : decode cX0_extentFrom 0 = .ok (.iload_n 2, 1) := by decide +kernel
theorem dX0_extentFrom_1 : decode cX0_extentFrom 1 = .ok (.iconst 1, 1) := by decide +kernel
theorem dX0_extentFrom_2 : decode cX0_extentFrom 2 = .ok (.iadd, 1) := by decide +kernel
theorem dX0_extentFrom_3 : decode cX0_extentFrom 3 = .ok (.istore_n 3, 1) := by decide +kernel
theorem dX0_extentFrom_4 : decode cX0_extentFrom 4 = .ok (.iload_n 3, 1) := by decide +kernel
theorem dX0_extentFrom_5 : decode cX0_extentFrom 5 = .ok (.aload_n 0, 1) := by decide +kernel
theorem dX0_extentFrom_6 : decode cX0_extentFrom 6 = .ok (.getfield 29, 3) := by decide +kernel
theorem dX0_extentFrom_9 : decode cX0_extentFrom 9 = .ok (.iload_n 1, 1) := by decide +kernel
theorem dX0_extentFrom_10 : decode cX0_extentFrom 10 = .ok (.invokevirtual 72, 3) := by decide +kernel
theorem dX0_extentFrom_13 : decode cX0_extentFrom 13 = .ok (.if_icmp .ge 22, 3) := by decide +kernel
theorem dX0_extentFrom_16 : decode cX0_extentFrom 16 = .ok (.aload_n 0, 1) := by decide +kernel
theorem dX0_extentFrom_17 : decode cX0_extentFrom 17 = .ok (.aload_n 0, 1) := by decide +kernel
theorem dX0_extentFrom_18 : decode cX0_extentFrom 18 = .ok (.iload_n 1, 1) := by decide +kernel
theorem dX0_extentFrom_19 : decode cX0_extentFrom 19 = .ok (.iload_n 3, 1) := by decide +kernel
theorem dX0_extentFrom_20 : decode cX0_extentFrom 20 = .ok (.invokevirtual 113, 3) := by decide +kernel
theorem dX0_extentFrom_23 : decode cX0_extentFrom 23 = .ok (.invokevirtual 134, 3) := by decide +kernel
theorem dX0_extentFrom_26 : decode cX0_extentFrom 26 = .ok (.ifCond .ne 9, 3) := by decide +kernel
theorem dX0_extentFrom_29 : decode cX0_extentFrom 29 = .ok (.iinc 3 1, 3) := by decide +kernel
theorem dX0_extentFrom_32 : decode cX0_extentFrom 32 = .ok (.goto (-28), 3) := by decide +kernel
theorem dX0_extentFrom_35 : decode cX0_extentFrom 35 = .ok (.iload_n 3, 1) := by decide +kernel
theorem dX0_extentFrom_36 : decode cX0_extentFrom 36 = .ok (.iload_n 2, 1) := by decide +kernel
theorem dX0_extentFrom_37 : decode cX0_extentFrom 37 = .ok (.isub, 1) := by decide +kernel
theorem dX0_extentFrom_38 : decode cX0_extentFrom 38 = .ok (.ireturn, 1) := by decide +kernel
set_option maxRecDepth 20000 in
theorem ggX0_sumOfStamps_X0_isPart : GoodIn wsX0_sumOfStamps wsX0_isPart := goodIn_r _ [6, 7, 8, 9, 10, 11, 12, 13, 14, 15, 16, 17, 18, 19, 20, 21, 22, 23, 24, 25, 26, 27, 28, 29] (by decide +kernel) (by decide +kernel)
set_option maxRecDepth 20000 in
theorem gX0_sumOfStamps_X0_isPart : GoodIn wsX0_sumOfStamps (wsV RX0 130 RX0 yX0_isPart wsX0_isPart) := goodIn_app (goodIn_of _ (by decide +kernel)) ggX0_sumOfStamps_X0_isPart
set_option maxRecDepth 20000 in
theorem ggX0_sumOfStamps_X3_at : GoodIn wsX0_sumOfStamps wsX3_at := goodIn_r _ [18, 14, 29] (by decide +kernel) (by decide +kernel)
set_option maxRecDepth 20000 in
theorem gX0_sumOfStamps_X3_at : GoodIn wsX0_sumOfStamps (wsV RX0 72 RX3 yX3_at wsX3_at) := goodIn_app (goodIn_of _ (by decide +kernel)) ggX0_sumOfStamps_X3_at
theorem dX0_sumOfStamps_0 : decode cX0_sumOfStamps 0 = .ok (.iconst 0, 1) := by decide +kernel
theorem dX0_sumOfStamps_1 : decode cX0_sumOfStamps 1 = .ok (.istore 4, 2) := by decide +kernel
theorem dX0_sumOfStamps_3 : decode cX0_sumOfStamps 3 = .ok (.iconst 0, 1) := by decide +kernel
theorem dX0_sumOfStamps_4 : decode cX0_sumOfStamps 4 = .ok (.istore 5, 2) := by decide +kernel
theorem dX0_sumOfStamps_6 : decode cX0_sumOfStamps 6 = .ok (.iload 5, 2) := by decide +kernel
theorem dX0_sumOfStamps_8 : decode cX0_sumOfStamps 8 = .ok (.bipush 64, 2) := by decide +kernel
theorem dX0_sumOfStamps_10 : decode cX0_sumOfStamps 10 = .ok (.if_icmp .ge 35, 3) := by decide +kernel
theorem dX0_sumOfStamps_13 : decode cX0_sumOfStamps 13 = .ok (.aload_n 0, 1) := by decide +kernel
theorem dX0_sumOfStamps_14 : decode cX0_sumOfStamps 14 = .ok (.iload 5, 2) := by decide +kernel
theorem dX0_sumOfStamps_16 : decode cX0_sumOfStamps 16 = .ok (.iload_n 1, 1) := by decide +kernel
theorem dX0_sumOfStamps_17 : decode cX0_sumOfStamps 17 = .ok (.iload_n 2, 1) := by decide +kernel
theorem dX0_sumOfStamps_18 : decode cX0_sumOfStamps 18 = .ok (.iload_n 3, 1) := by decide +kernel
theorem dX0_sumOfStamps_19 : decode cX0_sumOfStamps 19 = .ok (.invokevirtual 130, 3) := by decide +kernel
theorem dX0_sumOfStamps_22 : decode cX0_sumOfStamps 22 = .ok (.ifCond .eq 17, 3) := by decide +kernel
theorem dX0_sumOfStamps_25 : decode cX0_sumOfStamps 25 = .ok (.iload 4, 2) := by decide +kernel
theorem dX0_sumOfStamps_27 : decode cX0_sumOfStamps 27 = .ok (.aload_n 0, 1) := by decide +kernel
theorem dX0_sumOfStamps_28 : decode cX0_sumOfStamps 28 = .ok (.getfield 14, 3) := by decide +kernel
theorem dX0_sumOfStamps_31 : decode cX0_sumOfStamps 31 = .ok (.iload 5, 2) := by decide +kernel
theorem dX0_sumOfStamps_33 : decode cX0_sumOfStamps 33 = .ok (.invokevirtual 72, 3) := by decide +kernel
theorem dX0_sumOfStamps_36 : decode cX0_sumOfStamps 36 = .ok (.iadd, 1) := by decide +kernel
theorem dX0_sumOfStamps_37 : decode cX0_sumOfStamps 37 = .ok (.istore 4, 2) := by decide +kernel
theorem dX0_sumOfStamps_39 : decode cX0_sumOfStamps 39 = .ok (.iinc 5 1, 3) := by decide +kernel
theorem dX0_sumOfStamps_42 : decode cX0_sumOfStamps 42 = .ok (.goto (-36), 3) := by decide +kernel
theorem dX0_sumOfStamps_45 : decode cX0_sumOfStamps 45 = .ok (.iload 4, 2) := by decide +kernel
theorem dX0_sumOfStamps_47 : decode cX0_sumOfStamps 47 = .ok (.ireturn, 1) := by decide +kernel
set_option maxRecDepth 20000 in
theorem ggX0_runFrom_X3_holds : GoodIn wsX0_runFrom wsX3_holds := goodIn_r _ [6, 7, 18] (by decide +kernel) (by decide +kernel)
set_option maxRecDepth 20000 in
theorem gX0_runFrom_X3_holds : GoodIn wsX0_runFrom (wsV RX0 54 RX3 yX3_holds wsX3_holds) := goodIn_app (goodIn_of _ (by decide +kernel)) ggX0_runFrom_X3_holds
theorem dX0_runFrom_0 : decode cX0_runFrom 0 = .ok (.aload_n 0, 1) := by decide +kernel
theorem dX0_runFrom_1 : decode cX0_runFrom 1 = .ok (.getfield 20, 3) := by decide +kernel
theorem dX0_runFrom_4 : decode cX0_runFrom 4 = .ok (.iload_n 1, 1) := by decide +kernel
theorem dX0_runFrom_5 : decode cX0_runFrom 5 = .ok (.iconst 1, 1) := by decide +kernel
theorem dX0_runFrom_6 : decode cX0_runFrom 6 = .ok (.isub, 1) := by decide +kernel
theorem dX0_runFrom_7 : decode cX0_runFrom 7 = .ok (.bipush (-5), 2) := by decide +kernel
theorem dX0_runFrom_9 : decode cX0_runFrom 9 = .ok (.invokevirtual 54, 3) := by decide +kernel
theorem dX0_runFrom_12 : decode cX0_runFrom 12 = .ok (.ifCond .eq 5, 3) := by decide +kernel
theorem dX0_runFrom_15 : decode cX0_runFrom 15 = .ok (.iconst 0, 1) := by decide +kernel
theorem dX0_runFrom_16 : decode cX0_runFrom 16 = .ok (.ireturn, 1) := by decide +kernel
theorem dX0_runFrom_17 : decode cX0_runFrom 17 = .ok (.iconst 0, 1) := by decide +kernel
theorem dX0_runFrom_18 : decode cX0_runFrom 18 = .ok (.istore_n 2, 1) := by decide +kernel
theorem dX0_runFrom_19 : decode cX0_runFrom 19 = .ok (.iload_n 2, 1) := by decide +kernel
theorem dX0_runFrom_20 : decode cX0_runFrom 20 = .ok (.bipush 64, 2) := by decide +kernel
theorem dX0_runFrom_22 : decode cX0_runFrom 22 = .ok (.if_icmp .ge 24, 3) := by decide +kernel
theorem dX0_runFrom_25 : decode cX0_runFrom 25 = .ok (.aload_n 0, 1) := by decide +kernel
theorem dX0_runFrom_26 : decode cX0_runFrom 26 = .ok (.getfield 20, 3) := by decide +kernel
theorem dX0_runFrom_29 : decode cX0_runFrom 29 = .ok (.iload_n 1, 1) := by decide +kernel
theorem dX0_runFrom_30 : decode cX0_runFrom 30 = .ok (.iload_n 2, 1) := by decide +kernel
theorem dX0_runFrom_31 : decode cX0_runFrom 31 = .ok (.iadd, 1) := by decide +kernel
theorem dX0_runFrom_32 : decode cX0_runFrom 32 = .ok (.bipush (-5), 2) := by decide +kernel
theorem dX0_runFrom_34 : decode cX0_runFrom 34 = .ok (.invokevirtual 54, 3) := by decide +kernel
theorem dX0_runFrom_37 : decode cX0_runFrom 37 = .ok (.ifCond .eq 9, 3) := by decide +kernel
theorem dX0_runFrom_40 : decode cX0_runFrom 40 = .ok (.iinc 2 1, 3) := by decide +kernel
theorem dX0_runFrom_43 : decode cX0_runFrom 43 = .ok (.goto (-24), 3) := by decide +kernel
theorem dX0_runFrom_46 : decode cX0_runFrom 46 = .ok (.iload_n 2, 1) := by decide +kernel
theorem dX0_runFrom_47 : decode cX0_runFrom 47 = .ok (.ireturn, 1) := by decide +kernel
set_option maxRecDepth 20000 in
theorem ggX0_firstOfRun_X0_runFrom : GoodIn wsX0_firstOfRun wsX0_runFrom := goodIn_r _ [5, 6, 7, 8, 9, 10, 11, 12, 13, 14, 15, 16, 17, 18, 19, 20, 21, 22, 23] (by decide +kernel) (by decide +kernel)
set_option maxRecDepth 20000 in
theorem gX0_firstOfRun_X0_runFrom : GoodIn wsX0_firstOfRun (wsV RX0 123 RX0 yX0_runFrom wsX0_runFrom) := goodIn_app (goodIn_of _ (by decide +kernel)) ggX0_firstOfRun_X0_runFrom
theorem dX0_firstOfRun_0 : decode cX0_firstOfRun 0 = .ok (.iconst 0, 1) := by decide +kernel
theorem dX0_firstOfRun_1 : decode cX0_firstOfRun 1 = .ok (.istore_n 2, 1) := by decide +kernel
theorem dX0_firstOfRun_2 : decode cX0_firstOfRun 2 = .ok (.iconst 0, 1) := by decide +kernel
theorem dX0_firstOfRun_3 : decode cX0_firstOfRun 3 = .ok (.istore_n 3, 1) := by decide +kernel
theorem dX0_firstOfRun_4 : decode cX0_firstOfRun 4 = .ok (.iload_n 3, 1) := by decide +kernel
theorem dX0_firstOfRun_5 : decode cX0_firstOfRun 5 = .ok (.bipush 64, 2) := by decide +kernel
theorem dX0_firstOfRun_7 : decode cX0_firstOfRun 7 = .ok (.if_icmp .ge 27, 3) := by decide +kernel
theorem dX0_firstOfRun_10 : decode cX0_firstOfRun 10 = .ok (.aload_n 0, 1) := by decide +kernel
theorem dX0_firstOfRun_11 : decode cX0_firstOfRun 11 = .ok (.iload_n 3, 1) := by decide +kernel
theorem dX0_firstOfRun_12 : decode cX0_firstOfRun 12 = .ok (.invokevirtual 123, 3) := by decide +kernel
theorem dX0_firstOfRun_15 : decode cX0_firstOfRun 15 = .ok (.ifCond .le 13, 3) := by decide +kernel
theorem dX0_firstOfRun_18 : decode cX0_firstOfRun 18 = .ok (.iload_n 2, 1) := by decide +kernel
theorem dX0_firstOfRun_19 : decode cX0_firstOfRun 19 = .ok (.iload_n 1, 1) := by decide +kernel
theorem dX0_firstOfRun_20 : decode cX0_firstOfRun 20 = .ok (.if_icmp .ne 5, 3) := by decide +kernel
theorem dX0_firstOfRun_23 : decode cX0_firstOfRun 23 = .ok (.iload_n 3, 1) := by decide +kernel
theorem dX0_firstOfRun_24 : decode cX0_firstOfRun 24 = .ok (.ireturn, 1) := by decide +kernel
theorem dX0_firstOfRun_25 : decode cX0_firstOfRun 25 = .ok (.iinc 2 1, 3) := by decide +kernel
theorem dX0_firstOfRun_28 : decode cX0_firstOfRun 28 = .ok (.iinc 3 1, 3) := by decide +kernel
theorem dX0_firstOfRun_31 : decode cX0_firstOfRun 31 = .ok (.goto (-27), 3) := by decide +kernel
theorem dX0_firstOfRun_34 : decode cX0_firstOfRun 34 = .ok (.bipush (-5), 2) := by decide +kernel
theorem dX0_firstOfRun_36 : decode cX0_firstOfRun 36 = .ok (.ireturn, 1) := by decide +kernel
set_option maxRecDepth 20000 in
theorem ggX0_freeRuns_X0_runFrom : GoodIn wsX0_freeRuns wsX0_runFrom := goodIn_r _ [5, 6, 7, 8, 9, 10, 11, 12, 13, 14, 15, 16, 17, 18, 19, 20, 21, 22, 23] (by decide +kernel) (by decide +kernel)
set_option maxRecDepth 20000 in
theorem gX0_freeRuns_X0_runFrom : GoodIn wsX0_freeRuns (wsV RX0 123 RX0 yX0_runFrom wsX0_runFrom) := goodIn_app (goodIn_of _ (by decide +kernel)) ggX0_freeRuns_X0_runFrom
theorem dX0_freeRuns_0 : decode cX0_freeRuns 0 = .ok (.iconst 0, 1) := by decide +kernel
theorem dX0_freeRuns_1 : decode cX0_freeRuns 1 = .ok (.istore_n 1, 1) := by decide +kernel
theorem dX0_freeRuns_2 : decode cX0_freeRuns 2 = .ok (.iconst 0, 1) := by decide +kernel
theorem dX0_freeRuns_3 : decode cX0_freeRuns 3 = .ok (.istore_n 2, 1) := by decide +kernel
theorem dX0_freeRuns_4 : decode cX0_freeRuns 4 = .ok (.iload_n 2, 1) := by decide +kernel
theorem dX0_freeRuns_5 : decode cX0_freeRuns 5 = .ok (.bipush 64, 2) := by decide +kernel
theorem dX0_freeRuns_7 : decode cX0_freeRuns 7 = .ok (.if_icmp .ge 20, 3) := by decide +kernel
theorem dX0_freeRuns_10 : decode cX0_freeRuns 10 = .ok (.aload_n 0, 1) := by decide +kernel
theorem dX0_freeRuns_11 : decode cX0_freeRuns 11 = .ok (.iload_n 2, 1) := by decide +kernel
theorem dX0_freeRuns_12 : decode cX0_freeRuns 12 = .ok (.invokevirtual 123, 3) := by decide +kernel
theorem dX0_freeRuns_15 : decode cX0_freeRuns 15 = .ok (.ifCond .le 6, 3) := by decide +kernel
theorem dX0_freeRuns_18 : decode cX0_freeRuns 18 = .ok (.iinc 1 1, 3) := by decide +kernel
theorem dX0_freeRuns_21 : decode cX0_freeRuns 21 = .ok (.iinc 2 1, 3) := by decide +kernel
theorem dX0_freeRuns_24 : decode cX0_freeRuns 24 = .ok (.goto (-20), 3) := by decide +kernel
theorem dX0_freeRuns_27 : decode cX0_freeRuns 27 = .ok (.iload_n 1, 1) := by decide +kernel
theorem dX0_freeRuns_28 : decode cX0_freeRuns 28 = .ok (.ireturn, 1) := by decide +kernel
set_option maxRecDepth 20000 in
theorem ggX0_longestRun_X0_runFrom : GoodIn wsX0_longestRun wsX0_runFrom := goodIn_r _ [9, 10, 11, 12, 13, 14, 15, 16, 17, 18, 19, 20, 21, 22, 23, 24, 25, 26, 27] (by decide +kernel) (by decide +kernel)
set_option maxRecDepth 20000 in
theorem gX0_longestRun_X0_runFrom : GoodIn wsX0_longestRun (wsV RX0 123 RX0 yX0_runFrom wsX0_runFrom) := goodIn_app (goodIn_of _ (by decide +kernel)) ggX0_longestRun_X0_runFrom
theorem dX0_longestRun_0 : decode cX0_longestRun 0 = .ok (.iconst 0, 1) := by decide +kernel
theorem dX0_longestRun_1 : decode cX0_longestRun 1 = .ok (.istore_n 1, 1) := by decide +kernel
theorem dX0_longestRun_2 : decode cX0_longestRun 2 = .ok (.iconst 0, 1) := by decide +kernel
theorem dX0_longestRun_3 : decode cX0_longestRun 3 = .ok (.istore_n 2, 1) := by decide +kernel
theorem dX0_longestRun_4 : decode cX0_longestRun 4 = .ok (.iload_n 2, 1) := by decide +kernel
theorem dX0_longestRun_5 : decode cX0_longestRun 5 = .ok (.bipush 64, 2) := by decide +kernel
theorem dX0_longestRun_7 : decode cX0_longestRun 7 = .ok (.if_icmp .ge 19, 3) := by decide +kernel
theorem dX0_longestRun_10 : decode cX0_longestRun 10 = .ok (.iload_n 1, 1) := by decide +kernel
theorem dX0_longestRun_11 : decode cX0_longestRun 11 = .ok (.aload_n 0, 1) := by decide +kernel
theorem dX0_longestRun_12 : decode cX0_longestRun 12 = .ok (.iload_n 2, 1) := by decide +kernel
theorem dX0_longestRun_13 : decode cX0_longestRun 13 = .ok (.invokevirtual 123, 3) := by decide +kernel
theorem dX0_longestRun_16 : decode cX0_longestRun 16 = .ok (.invokestatic 137, 3) := by decide +kernel
theorem dX0_longestRun_19 : decode cX0_longestRun 19 = .ok (.istore_n 1, 1) := by decide +kernel
theorem dX0_longestRun_20 : decode cX0_longestRun 20 = .ok (.iinc 2 1, 3) := by decide +kernel
theorem dX0_longestRun_23 : decode cX0_longestRun 23 = .ok (.goto (-19), 3) := by decide +kernel
theorem dX0_longestRun_26 : decode cX0_longestRun 26 = .ok (.iload_n 1, 1) := by decide +kernel
theorem dX0_longestRun_27 : decode cX0_longestRun 27 = .ok (.ireturn, 1) := by decide +kernel
set_option maxRecDepth 20000 in
theorem ggX0_totalOf_X3_at : GoodIn wsX0_totalOf wsX3_at := goodIn_r _ [6, 7, 18] (by decide +kernel) (by decide +kernel)
set_option maxRecDepth 20000 in
theorem gX0_totalOf_X3_at : GoodIn wsX0_totalOf (wsV RX0 72 RX3 yX3_at wsX3_at) := goodIn_app (goodIn_of _ (by decide +kernel)) ggX0_totalOf_X3_at
theorem dX0_totalOf_0 : decode cX0_totalOf 0 = .ok (.aload_n 0, 1) := by decide +kernel
theorem dX0_totalOf_1 : decode cX0_totalOf 1 = .ok (.getfield 44, 3) := by decide +kernel
theorem dX0_totalOf_4 : decode cX0_totalOf 4 = .ok (.iload_n 1, 1) := by decide +kernel
theorem dX0_totalOf_5 : decode cX0_totalOf 5 = .ok (.invokevirtual 72, 3) := by decide +kernel
theorem dX0_totalOf_8 : decode cX0_totalOf 8 = .ok (.ireturn, 1) := by decide +kernel
set_option maxRecDepth 20000 in
theorem ggX0_freeBlocks_X3_holds : GoodIn wsX0_freeBlocks wsX3_holds := goodIn_r _ [6, 7, 18] (by decide +kernel) (by decide +kernel)
set_option maxRecDepth 20000 in
theorem gX0_freeBlocks_X3_holds : GoodIn wsX0_freeBlocks (wsV RX0 54 RX3 yX3_holds wsX3_holds) := goodIn_app (goodIn_of _ (by decide +kernel)) ggX0_freeBlocks_X3_holds
theorem dX0_freeBlocks_0 : decode cX0_freeBlocks 0 = .ok (.iconst 0, 1) := by decide +kernel
theorem dX0_freeBlocks_1 : decode cX0_freeBlocks 1 = .ok (.istore_n 1, 1) := by decide +kernel
theorem dX0_freeBlocks_2 : decode cX0_freeBlocks 2 = .ok (.iconst 0, 1) := by decide +kernel
theorem dX0_freeBlocks_3 : decode cX0_freeBlocks 3 = .ok (.istore_n 2, 1) := by decide +kernel
theorem dX0_freeBlocks_4 : decode cX0_freeBlocks 4 = .ok (.iload_n 2, 1) := by decide +kernel
theorem dX0_freeBlocks_5 : decode cX0_freeBlocks 5 = .ok (.bipush 64, 2) := by decide +kernel
theorem dX0_freeBlocks_7 : decode cX0_freeBlocks 7 = .ok (.if_icmp .ge 25, 3) := by decide +kernel
theorem dX0_freeBlocks_10 : decode cX0_freeBlocks 10 = .ok (.aload_n 0, 1) := by decide +kernel
theorem dX0_freeBlocks_11 : decode cX0_freeBlocks 11 = .ok (.getfield 20, 3) := by decide +kernel
theorem dX0_freeBlocks_14 : decode cX0_freeBlocks 14 = .ok (.iload_n 2, 1) := by decide +kernel
theorem dX0_freeBlocks_15 : decode cX0_freeBlocks 15 = .ok (.bipush (-5), 2) := by decide +kernel
theorem dX0_freeBlocks_17 : decode cX0_freeBlocks 17 = .ok (.invokevirtual 54, 3) := by decide +kernel
theorem dX0_freeBlocks_20 : decode cX0_freeBlocks 20 = .ok (.ifCond .eq 6, 3) := by decide +kernel
theorem dX0_freeBlocks_23 : decode cX0_freeBlocks 23 = .ok (.iinc 1 1, 3) := by decide +kernel
theorem dX0_freeBlocks_26 : decode cX0_freeBlocks 26 = .ok (.iinc 2 1, 3) := by decide +kernel
theorem dX0_freeBlocks_29 : decode cX0_freeBlocks 29 = .ok (.goto (-25), 3) := by decide +kernel
theorem dX0_freeBlocks_32 : decode cX0_freeBlocks 32 = .ok (.iload_n 1, 1) := by decide +kernel
theorem dX0_freeBlocks_33 : decode cX0_freeBlocks 33 = .ok (.ireturn, 1) := by decide +kernel
set_option maxRecDepth 20000 in
theorem ggX0_dataBlocks_X3_at : GoodIn wsX0_dataBlocks wsX3_at := goodIn_r _ [6, 7, 18] (by decide +kernel) (by decide +kernel)
set_option maxRecDepth 20000 in
theorem gX0_dataBlocks_X3_at : GoodIn wsX0_dataBlocks (wsV RX0 72 RX3 yX3_at wsX3_at) := goodIn_app (goodIn_of _ (by decide +kernel)) ggX0_dataBlocks_X3_at
theorem dX0_dataBlocks_0 : decode cX0_dataBlocks 0 = .ok (.iconst 0, 1) := by decide +kernel
theorem dX0_dataBlocks_1 : decode cX0_dataBlocks 1 = .ok (.istore_n 1, 1) := by decide +kernel
theorem dX0_dataBlocks_2 : decode cX0_dataBlocks 2 = .ok (.iconst 0, 1) := by decide +kernel
theorem dX0_dataBlocks_3 : decode cX0_dataBlocks 3 = .ok (.istore_n 2, 1) := by decide +kernel
theorem dX0_dataBlocks_4 : decode cX0_dataBlocks 4 = .ok (.iload_n 2, 1) := by decide +kernel
theorem dX0_dataBlocks_5 : decode cX0_dataBlocks 5 = .ok (.bipush 8, 2) := by decide +kernel
theorem dX0_dataBlocks_7 : decode cX0_dataBlocks 7 = .ok (.if_icmp .ge 20, 3) := by decide +kernel
theorem dX0_dataBlocks_10 : decode cX0_dataBlocks 10 = .ok (.iload_n 1, 1) := by decide +kernel
theorem dX0_dataBlocks_11 : decode cX0_dataBlocks 11 = .ok (.aload_n 0, 1) := by decide +kernel
theorem dX0_dataBlocks_12 : decode cX0_dataBlocks 12 = .ok (.getfield 32, 3) := by decide +kernel
theorem dX0_dataBlocks_15 : decode cX0_dataBlocks 15 = .ok (.iload_n 2, 1) := by decide +kernel
theorem dX0_dataBlocks_16 : decode cX0_dataBlocks 16 = .ok (.invokevirtual 72, 3) := by decide +kernel
theorem dX0_dataBlocks_19 : decode cX0_dataBlocks 19 = .ok (.iadd, 1) := by decide +kernel
theorem dX0_dataBlocks_20 : decode cX0_dataBlocks 20 = .ok (.istore_n 1, 1) := by decide +kernel
theorem dX0_dataBlocks_21 : decode cX0_dataBlocks 21 = .ok (.iinc 2 1, 3) := by decide +kernel
theorem dX0_dataBlocks_24 : decode cX0_dataBlocks 24 = .ok (.goto (-20), 3) := by decide +kernel
theorem dX0_dataBlocks_27 : decode cX0_dataBlocks 27 = .ok (.iload_n 1, 1) := by decide +kernel
theorem dX0_dataBlocks_28 : decode cX0_dataBlocks 28 = .ok (.ireturn, 1) := by decide +kernel
set_option maxRecDepth 20000 in
theorem ggX0_blocksWithoutData_X0_dataBlocks : GoodIn wsX0_blocksWithoutData wsX0_dataBlocks := goodIn_r _ [5, 6, 7, 8, 9, 10, 11, 12, 13, 14, 15, 16, 17, 18, 19, 20, 21, 22, 23] (by decide +kernel) (by decide +kernel)
set_option maxRecDepth 20000 in
theorem gX0_blocksWithoutData_X0_dataBlocks : GoodIn wsX0_blocksWithoutData (wsV RX0 140 RX0 yX0_dataBlocks wsX0_dataBlocks) := goodIn_app (goodIn_of _ (by decide +kernel)) ggX0_blocksWithoutData_X0_dataBlocks
theorem dX0_blocksWithoutData_0 : decode cX0_blocksWithoutData 0 = .ok (.bipush 64, 2) := by decide +kernel
theorem dX0_blocksWithoutData_2 : decode cX0_blocksWithoutData 2 = .ok (.aload_n 0, 1) := by decide +kernel
theorem dX0_blocksWithoutData_3 : decode cX0_blocksWithoutData 3 = .ok (.invokevirtual 140, 3) := by decide +kernel
theorem dX0_blocksWithoutData_6 : decode cX0_blocksWithoutData 6 = .ok (.isub, 1) := by decide +kernel
theorem dX0_blocksWithoutData_7 : decode cX0_blocksWithoutData 7 = .ok (.ireturn, 1) := by decide +kernel
set_option maxRecDepth 20000 in
theorem ggX0_filesThatAre_X3_holds : GoodIn wsX0_filesThatAre wsX3_holds := goodIn_r _ [6, 7, 18] (by decide +kernel) (by decide +kernel)
set_option maxRecDepth 20000 in
theorem gX0_filesThatAre_X3_holds : GoodIn wsX0_filesThatAre (wsV RX0 54 RX3 yX3_holds wsX3_holds) := goodIn_app (goodIn_of _ (by decide +kernel)) ggX0_filesThatAre_X3_holds
theorem dX0_filesThatAre_0 : decode cX0_filesThatAre 0 = .ok (.iconst 0, 1) := by decide +kernel
theorem dX0_filesThatAre_1 : decode cX0_filesThatAre 1 = .ok (.istore_n 2, 1) := by decide +kernel
theorem dX0_filesThatAre_2 : decode cX0_filesThatAre 2 = .ok (.iconst 0, 1) := by decide +kernel
theorem dX0_filesThatAre_3 : decode cX0_filesThatAre 3 = .ok (.istore_n 3, 1) := by decide +kernel
theorem dX0_filesThatAre_4 : decode cX0_filesThatAre 4 = .ok (.iload_n 3, 1) := by decide +kernel
theorem dX0_filesThatAre_5 : decode cX0_filesThatAre 5 = .ok (.bipush 8, 2) := by decide +kernel
theorem dX0_filesThatAre_7 : decode cX0_filesThatAre 7 = .ok (.if_icmp .ge 24, 3) := by decide +kernel
theorem dX0_filesThatAre_10 : decode cX0_filesThatAre 10 = .ok (.aload_n 0, 1) := by decide +kernel
theorem dX0_filesThatAre_11 : decode cX0_filesThatAre 11 = .ok (.getfield 26, 3) := by decide +kernel
theorem dX0_filesThatAre_14 : decode cX0_filesThatAre 14 = .ok (.iload_n 3, 1) := by decide +kernel
theorem dX0_filesThatAre_15 : decode cX0_filesThatAre 15 = .ok (.iload_n 1, 1) := by decide +kernel
theorem dX0_filesThatAre_16 : decode cX0_filesThatAre 16 = .ok (.invokevirtual 54, 3) := by decide +kernel
theorem dX0_filesThatAre_19 : decode cX0_filesThatAre 19 = .ok (.ifCond .eq 6, 3) := by decide +kernel
theorem dX0_filesThatAre_22 : decode cX0_filesThatAre 22 = .ok (.iinc 2 1, 3) := by decide +kernel
theorem dX0_filesThatAre_25 : decode cX0_filesThatAre 25 = .ok (.iinc 3 1, 3) := by decide +kernel
theorem dX0_filesThatAre_28 : decode cX0_filesThatAre 28 = .ok (.goto (-24), 3) := by decide +kernel
theorem dX0_filesThatAre_31 : decode cX0_filesThatAre 31 = .ok (.iload_n 2, 1) := by decide +kernel
theorem dX0_filesThatAre_32 : decode cX0_filesThatAre 32 = .ok (.ireturn, 1) := by decide +kernel
set_option maxRecDepth 20000 in
theorem ggX0_lentToFilesThatAre_X3_holds : GoodIn wsX0_lentToFilesThatAre wsX3_holds := goodIn_r _ [6, 7, 29] (by decide +kernel) (by decide +kernel)
set_option maxRecDepth 20000 in
theorem gX0_lentToFilesThatAre_X3_holds : GoodIn wsX0_lentToFilesThatAre (wsV RX0 54 RX3 yX3_holds wsX3_holds) := goodIn_app (goodIn_of _ (by decide +kernel)) ggX0_lentToFilesThatAre_X3_holds
set_option maxRecDepth 20000 in
theorem ggX0_lentToFilesThatAre_X0_lentOf : GoodIn wsX0_lentToFilesThatAre wsX0_lentOf := goodIn_r _ [12, 13, 14, 15, 16, 17, 5, 18, 7, 19, 20, 21, 22, 23, 24, 25, 26, 27, 28, 29] (by decide +kernel) (by decide +kernel)
set_option maxRecDepth 20000 in
theorem gX0_lentToFilesThatAre_X0_lentOf : GoodIn wsX0_lentToFilesThatAre (wsV RX0 82 RX0 yX0_lentOf wsX0_lentOf) := goodIn_app (goodIn_of _ (by decide +kernel)) ggX0_lentToFilesThatAre_X0_lentOf
theorem dX0_lentToFilesThatAre_0 : decode cX0_lentToFilesThatAre 0 = .ok (.iconst 0, 1) := by decide +kernel
theorem dX0_lentToFilesThatAre_1 : decode cX0_lentToFilesThatAre 1 = .ok (.istore_n 2, 1) := by decide +kernel
theorem dX0_lentToFilesThatAre_2 : decode cX0_lentToFilesThatAre 2 = .ok (.iconst 0, 1) := by decide +kernel
theorem dX0_lentToFilesThatAre_3 : decode cX0_lentToFilesThatAre 3 = .ok (.istore_n 3, 1) := by decide +kernel
theorem dX0_lentToFilesThatAre_4 : decode cX0_lentToFilesThatAre 4 = .ok (.iload_n 3, 1) := by decide +kernel
theorem dX0_lentToFilesThatAre_5 : decode cX0_lentToFilesThatAre 5 = .ok (.bipush 8, 2) := by decide +kernel
theorem dX0_lentToFilesThatAre_7 : decode cX0_lentToFilesThatAre 7 = .ok (.if_icmp .ge 29, 3) := by decide +kernel
theorem dX0_lentToFilesThatAre_10 : decode cX0_lentToFilesThatAre 10 = .ok (.aload_n 0, 1) := by decide +kernel
theorem dX0_lentToFilesThatAre_11 : decode cX0_lentToFilesThatAre 11 = .ok (.getfield 26, 3) := by decide +kernel
theorem dX0_lentToFilesThatAre_14 : decode cX0_lentToFilesThatAre 14 = .ok (.iload_n 3, 1) := by decide +kernel
theorem dX0_lentToFilesThatAre_15 : decode cX0_lentToFilesThatAre 15 = .ok (.iload_n 1, 1) := by decide +kernel
theorem dX0_lentToFilesThatAre_16 : decode cX0_lentToFilesThatAre 16 = .ok (.invokevirtual 54, 3) := by decide +kernel
theorem dX0_lentToFilesThatAre_19 : decode cX0_lentToFilesThatAre 19 = .ok (.ifCond .eq 11, 3) := by decide +kernel
theorem dX0_lentToFilesThatAre_22 : decode cX0_lentToFilesThatAre 22 = .ok (.iload_n 2, 1) := by decide +kernel
theorem dX0_lentToFilesThatAre_23 : decode cX0_lentToFilesThatAre 23 = .ok (.aload_n 0, 1) := by decide +kernel
theorem dX0_lentToFilesThatAre_24 : decode cX0_lentToFilesThatAre 24 = .ok (.iload_n 3, 1) := by decide +kernel
theorem dX0_lentToFilesThatAre_25 : decode cX0_lentToFilesThatAre 25 = .ok (.invokevirtual 82, 3) := by decide +kernel
theorem dX0_lentToFilesThatAre_28 : decode cX0_lentToFilesThatAre 28 = .ok (.iadd, 1) := by decide +kernel
theorem dX0_lentToFilesThatAre_29 : decode cX0_lentToFilesThatAre 29 = .ok (.istore_n 2, 1) := by decide +kernel
theorem dX0_lentToFilesThatAre_30 : decode cX0_lentToFilesThatAre 30 = .ok (.iinc 3 1, 3) := by decide +kernel
theorem dX0_lentToFilesThatAre_33 : decode cX0_lentToFilesThatAre 33 = .ok (.goto (-29), 3) := by decide +kernel
theorem dX0_lentToFilesThatAre_36 : decode cX0_lentToFilesThatAre 36 = .ok (.iload_n 2, 1) := by decide +kernel
theorem dX0_lentToFilesThatAre_37 : decode cX0_lentToFilesThatAre 37 = .ok (.ireturn, 1) := by decide +kernel
set_option maxRecDepth 20000 in
theorem ggX0_filesWithBlocks_X3_at : GoodIn wsX0_filesWithBlocks wsX3_at := goodIn_r _ [6, 7, 18] (by decide +kernel) (by decide +kernel)
set_option maxRecDepth 20000 in
theorem gX0_filesWithBlocks_X3_at : GoodIn wsX0_filesWithBlocks (wsV RX0 72 RX3 yX3_at wsX3_at) := goodIn_app (goodIn_of _ (by decide +kernel)) ggX0_filesWithBlocks_X3_at
theorem dX0_filesWithBlocks_0 : decode cX0_filesWithBlocks 0 = .ok (.iconst 0, 1) := by decide +kernel
theorem dX0_filesWithBlocks_1 : decode cX0_filesWithBlocks 1 = .ok (.istore_n 1, 1) := by decide +kernel
theorem dX0_filesWithBlocks_2 : decode cX0_filesWithBlocks 2 = .ok (.iconst 0, 1) := by decide +kernel
theorem dX0_filesWithBlocks_3 : decode cX0_filesWithBlocks 3 = .ok (.istore_n 2, 1) := by decide +kernel
theorem dX0_filesWithBlocks_4 : decode cX0_filesWithBlocks 4 = .ok (.iload_n 2, 1) := by decide +kernel
theorem dX0_filesWithBlocks_5 : decode cX0_filesWithBlocks 5 = .ok (.bipush 8, 2) := by decide +kernel
theorem dX0_filesWithBlocks_7 : decode cX0_filesWithBlocks 7 = .ok (.if_icmp .ge 23, 3) := by decide +kernel
theorem dX0_filesWithBlocks_10 : decode cX0_filesWithBlocks 10 = .ok (.aload_n 0, 1) := by decide +kernel
theorem dX0_filesWithBlocks_11 : decode cX0_filesWithBlocks 11 = .ok (.getfield 29, 3) := by decide +kernel
theorem dX0_filesWithBlocks_14 : decode cX0_filesWithBlocks 14 = .ok (.iload_n 2, 1) := by decide +kernel
theorem dX0_filesWithBlocks_15 : decode cX0_filesWithBlocks 15 = .ok (.invokevirtual 72, 3) := by decide +kernel
theorem dX0_filesWithBlocks_18 : decode cX0_filesWithBlocks 18 = .ok (.ifCond .le 6, 3) := by decide +kernel
theorem dX0_filesWithBlocks_21 : decode cX0_filesWithBlocks 21 = .ok (.iinc 1 1, 3) := by decide +kernel
theorem dX0_filesWithBlocks_24 : decode cX0_filesWithBlocks 24 = .ok (.iinc 2 1, 3) := by decide +kernel
theorem dX0_filesWithBlocks_27 : decode cX0_filesWithBlocks 27 = .ok (.goto (-23), 3) := by decide +kernel
theorem dX0_filesWithBlocks_30 : decode cX0_filesWithBlocks 30 = .ok (.iload_n 1, 1) := by decide +kernel
theorem dX0_filesWithBlocks_31 : decode cX0_filesWithBlocks 31 = .ok (.ireturn, 1) := by decide +kernel
set_option maxRecDepth 20000 in
theorem ggX0_allExtents_X0_extentsOf : GoodIn wsX0_allExtents wsX0_extentsOf := goodIn_r _ [5, 6, 7, 8, 9, 10, 11, 12, 13, 14, 15, 4, 16, 17, 18, 19, 20, 21, 22, 23, 24, 25, 26, 27, 28, 29, 30, 31, 32] (by decide +kernel) (by decide +kernel)
set_option maxRecDepth 20000 in
theorem gX0_allExtents_X0_extentsOf : GoodIn wsX0_allExtents (wsV RX0 95 RX0 yX0_extentsOf wsX0_extentsOf) := goodIn_app (goodIn_of _ (by decide +kernel)) ggX0_allExtents_X0_extentsOf
theorem dX0_allExtents_0 : decode cX0_allExtents 0 = .ok (.iconst 0, 1) := by decide +kernel
theorem dX0_allExtents_1 : decode cX0_allExtents 1 = .ok (.istore_n 1, 1) := by decide +kernel
theorem dX0_allExtents_2 : decode cX0_allExtents 2 = .ok (.iconst 0, 1) := by decide +kernel
theorem dX0_allExtents_3 : decode cX0_allExtents 3 = .ok (.istore_n 2, 1) := by decide +kernel
theorem dX0_allExtents_4 : decode cX0_allExtents 4 = .ok (.iload_n 2, 1) := by decide +kernel
theorem dX0_allExtents_5 : decode cX0_allExtents 5 = .ok (.bipush 8, 2) := by decide +kernel
theorem dX0_allExtents_7 : decode cX0_allExtents 7 = .ok (.if_icmp .ge 17, 3) := by decide +kernel
theorem dX0_allExtents_10 : decode cX0_allExtents 10 = .ok (.iload_n 1, 1) := by decide +kernel
theorem dX0_allExtents_11 : decode cX0_allExtents 11 = .ok (.aload_n 0, 1) := by decide +kernel
theorem dX0_allExtents_12 : decode cX0_allExtents 12 = .ok (.iload_n 2, 1) := by decide +kernel
theorem dX0_allExtents_13 : decode cX0_allExtents 13 = .ok (.invokevirtual 95, 3) := by decide +kernel
theorem dX0_allExtents_16 : decode cX0_allExtents 16 = .ok (.iadd, 1) := by decide +kernel
theorem dX0_allExtents_17 : decode cX0_allExtents 17 = .ok (.istore_n 1, 1) := by decide +kernel
theorem dX0_allExtents_18 : decode cX0_allExtents 18 = .ok (.iinc 2 1, 3) := by decide +kernel
theorem dX0_allExtents_21 : decode cX0_allExtents 21 = .ok (.goto (-17), 3) := by decide +kernel
theorem dX0_allExtents_24 : decode cX0_allExtents 24 = .ok (.iload_n 1, 1) := by decide +kernel
theorem dX0_allExtents_25 : decode cX0_allExtents 25 = .ok (.ireturn, 1) := by decide +kernel
theorem ok_X0_createFile : gOk yX0_createFile RX0 0 := by refine ⟨?_, ?_, ?_, ?_⟩ <;> decide +kernel
theorem ok_X0_isFile : gOk yX0_isFile RX0 1 := by refine ⟨?_, ?_, ?_, ?_⟩ <;> decide +kernel
theorem ok_X0_isOpen : gOk yX0_isOpen RX0 1 := by refine ⟨?_, ?_, ?_, ?_⟩ <;> decide +kernel
theorem ok_X0_filesThatAre : gOk yX0_filesThatAre RX0 1 := by refine ⟨?_, ?_, ?_, ?_⟩ <;> decide +kernel
theorem ok_X0_openFile : gOk yX0_openFile RX0 1 := by refine ⟨?_, ?_, ?_, ?_⟩ <;> decide +kernel
theorem ok_X0_lentOf : gOk yX0_lentOf RX0 1 := by refine ⟨?_, ?_, ?_, ?_⟩ <;> decide +kernel
theorem ok_X0_freeFrom : gOk yX0_freeFrom RX0 2 := by refine ⟨?_, ?_, ?_, ?_⟩ <;> decide +kernel
theorem ok_X0_giveBack : gOk yX0_giveBack RX0 1 := by refine ⟨?_, ?_, ?_, ?_⟩ <;> decide +kernel
theorem ok_X0_closeFile : gOk yX0_closeFile RX0 1 := by refine ⟨?_, ?_, ?_, ?_⟩ <;> decide +kernel
theorem ok_X0_removeFile : gOk yX0_removeFile RX0 1 := by refine ⟨?_, ?_, ?_, ?_⟩ <;> decide +kernel
theorem ok_X0_syncFile : gOk yX0_syncFile RX0 1 := by refine ⟨?_, ?_, ?_, ?_⟩ <;> decide +kernel
theorem ok_X0_dataBlocks : gOk yX0_dataBlocks RX0 0 := by refine ⟨?_, ?_, ?_, ?_⟩ <;> decide +kernel
theorem ok_X0_blocksWithoutData : gOk yX0_blocksWithoutData RX0 0 := by refine ⟨?_, ?_, ?_, ?_⟩ <;> decide +kernel
theorem ok_X0_freeBlocks : gOk yX0_freeBlocks RX0 0 := by refine ⟨?_, ?_, ?_, ?_⟩ <;> decide +kernel
theorem ok_X0_greatestLender : gOk yX0_greatestLender RX0 1 := by refine ⟨?_, ?_, ?_, ?_⟩ <;> decide +kernel
theorem ok_X0_takeBack : gOk yX0_takeBack RX0 2 := by refine ⟨?_, ?_, ?_, ?_⟩ <;> decide +kernel
theorem ok_X0_blockAt : gOk yX0_blockAt RX0 2 := by refine ⟨?_, ?_, ?_, ?_⟩ <;> decide +kernel
theorem ok_X0_addFrom : gOk yX0_addFrom RX0 3 := by refine ⟨?_, ?_, ?_, ?_⟩ <;> decide +kernel
theorem ok_X0_runFrom : gOk yX0_runFrom RX0 1 := by refine ⟨?_, ?_, ?_, ?_⟩ <;> decide +kernel
theorem ok_X0_isBetter : gOk yX0_isBetter RX0 3 := by refine ⟨?_, ?_, ?_, ?_⟩ <;> decide +kernel
theorem ok_X0_chosenRun : gOk yX0_chosenRun RX0 1 := by refine ⟨?_, ?_, ?_, ?_⟩ <;> decide +kernel
theorem ok_X0_lengthen : gOk yX0_lengthen RX0 2 := by refine ⟨?_, ?_, ?_, ?_⟩ <;> decide +kernel
theorem ok_X0_isPart : gOk yX0_isPart RX0 4 := by refine ⟨?_, ?_, ?_, ?_⟩ <;> decide +kernel
theorem ok_X0_write : gOk yX0_write RX0 3 := by refine ⟨?_, ?_, ?_, ?_⟩ <;> decide +kernel
theorem ok_X0_beginsExtent : gOk yX0_beginsExtent RX0 1 := by refine ⟨?_, ?_, ?_, ?_⟩ <;> decide +kernel
theorem ok_X0_extentsOf : gOk yX0_extentsOf RX0 1 := by refine ⟨?_, ?_, ?_, ?_⟩ <;> decide +kernel
theorem ok_X0_appendTo : gOk yX0_appendTo RX0 3 := by refine ⟨?_, ?_, ?_, ?_⟩ <;> decide +kernel
theorem ok_X0_cutFile : gOk yX0_cutFile RX0 2 := by refine ⟨?_, ?_, ?_, ?_⟩ <;> decide +kernel
theorem ok_X0_crashAll : gOk yX0_crashAll RX0 0 := by refine ⟨?_, ?_, ?_, ?_⟩ <;> decide +kernel
theorem ok_X0_mendAll : gOk yX0_mendAll RX0 0 := by refine ⟨?_, ?_, ?_, ?_⟩ <;> decide +kernel
theorem ok_X0_changeSetting : gOk yX0_changeSetting RX0 2 := by refine ⟨?_, ?_, ?_, ?_⟩ <;> decide +kernel
theorem ok_X0_ownerOf : gOk yX0_ownerOf RX0 1 := by refine ⟨?_, ?_, ?_, ?_⟩ <;> decide +kernel
theorem ok_X0_placeOf : gOk yX0_placeOf RX0 1 := by refine ⟨?_, ?_, ?_, ?_⟩ <;> decide +kernel
theorem ok_X0_stampOf : gOk yX0_stampOf RX0 1 := by refine ⟨?_, ?_, ?_, ?_⟩ <;> decide +kernel
theorem ok_X0_useOf : gOk yX0_useOf RX0 1 := by refine ⟨?_, ?_, ?_, ?_⟩ <;> decide +kernel
theorem ok_X0_sizeOf : gOk yX0_sizeOf RX0 1 := by refine ⟨?_, ?_, ?_, ?_⟩ <;> decide +kernel
theorem ok_X0_safeSizeOf : gOk yX0_safeSizeOf RX0 1 := by refine ⟨?_, ?_, ?_, ?_⟩ <;> decide +kernel
theorem ok_X0_lendOf : gOk yX0_lendOf RX0 1 := by refine ⟨?_, ?_, ?_, ?_⟩ <;> decide +kernel
theorem ok_X0_placeOfExtent : gOk yX0_placeOfExtent RX0 2 := by refine ⟨?_, ?_, ?_, ?_⟩ <;> decide +kernel
theorem ok_X0_extentFrom : gOk yX0_extentFrom RX0 2 := by refine ⟨?_, ?_, ?_, ?_⟩ <;> decide +kernel
theorem ok_X0_sumOfStamps : gOk yX0_sumOfStamps RX0 3 := by refine ⟨?_, ?_, ?_, ?_⟩ <;> decide +kernel
theorem ok_X0_firstOfRun : gOk yX0_firstOfRun RX0 1 := by refine ⟨?_, ?_, ?_, ?_⟩ <;> decide +kernel
theorem ok_X0_freeRuns : gOk yX0_freeRuns RX0 0 := by refine ⟨?_, ?_, ?_, ?_⟩ <;> decide +kernel
theorem ok_X0_longestRun : gOk yX0_longestRun RX0 0 := by refine ⟨?_, ?_, ?_, ?_⟩ <;> decide +kernel
theorem ok_X0_totalOf : gOk yX0_totalOf RX0 1 := by refine ⟨?_, ?_, ?_, ?_⟩ <;> decide +kernel
theorem ok_X0_lentToFilesThatAre : gOk yX0_lentToFilesThatAre RX0 1 := by refine ⟨?_, ?_, ?_, ?_⟩ <;> decide +kernel
theorem ok_X0_filesWithBlocks : gOk yX0_filesWithBlocks RX0 0 := by refine ⟨?_, ?_, ?_, ?_⟩ <;> decide +kernel
theorem ok_X0_allExtents : gOk yX0_allExtents RX0 0 := by refine ⟨?_, ?_, ?_, ?_⟩ <;> decide +kernel
abbrev rm_X0_createFile : Room := ({ frames := 1, cells := 0, slots := 0, locals := 22 } : Room)
def f_X0_createFile_L2  : Nat → Int32 → (Nat → Nat → Int32) → Option (Int32 × (Nat → Nat → Int32))
  | 0, _, _ => none
  | fu + 1, v1, d => if 8 ≤ v1 then some ((-3), d) else gb (f_X3_holds 8 (d 3) v1 0) (fun r2 => if r2 = 0 then glet (v1 + 1) (fun x4 => f_X0_createFile_L2 fu x4 d) else gb (f_X3_put 8 (d 3) v1 1) (fun w5 => glet (va_up d 3 w5) (fun d6 => gb (f_X3_put 8 (d6 4) v1 0) (fun w7 => glet (va_up d6 4 w7) (fun d8 => gb (f_X3_put 8 (d8 5) v1 0) (fun w9 => glet (va_up d8 5 w9) (fun d10 => gb (f_X3_put 8 (d10 6) v1 0) (fun w11 => glet (va_up d10 6 w11) (fun d12 => gb (f_X3_put 8 (d12 7) v1 1) (fun w13 => glet (va_up d12 7 w13) (fun d14 => some (v1, d14))))))))))))
def f_X0_createFile (d : Nat → Nat → Int32) : Option (Int32 × (Nat → Nat → Int32)) := f_X0_createFile_L2 gFu 0 d
set_option maxRecDepth 20000 in
theorem in_X0_createFile : ∀ w ∈ wsX00, w ∈ wsX0_createFile := by decide +kernel
set_option maxRecDepth 20000 in
theorem fl_X0_createFile_38 : Cond.fieldLink RX0 38 (TX0 7).1 (TX0 7).2.1 (TX0 7).2.2.1 ∈ wsX0_createFile := by decide +kernel
set_option maxRecDepth 20000 in
theorem fl_X0_createFile_35 : Cond.fieldLink RX0 35 (TX0 6).1 (TX0 6).2.1 (TX0 6).2.2.1 ∈ wsX0_createFile := by decide +kernel
set_option maxRecDepth 20000 in
theorem fl_X0_createFile_32 : Cond.fieldLink RX0 32 (TX0 5).1 (TX0 5).2.1 (TX0 5).2.2.1 ∈ wsX0_createFile := by decide +kernel
set_option maxRecDepth 20000 in
theorem fl_X0_createFile_29 : Cond.fieldLink RX0 29 (TX0 4).1 (TX0 4).2.1 (TX0 4).2.2.1 ∈ wsX0_createFile := by decide +kernel
set_option maxRecDepth 20000 in
theorem fl_X0_createFile_26 : Cond.fieldLink RX0 26 (TX0 3).1 (TX0 3).2.1 (TX0 3).2.2.1 ∈ wsX0_createFile := by decide +kernel
set_option maxHeartbeats 4000000 in
set_option maxRecDepth 100000 in
theorem cl_X0_createFile_L2 {X : gX} {Z : gZ} {ad : Nat → Nat}  {r : Int32} {d' : Nat → Nat → Int32} (C : GC X Z cX0_createFile 2 wsX0_createFile RX0 rm_X0_createFile 21 ad) (e : gEI X Z 21 ad .int r (dskE Z.2.1 ad d'))  : ∀ (fu : Nat) (v1 : Int32) (d : Nat → Nat → Int32) (h : f_X0_createFile_L2  fu v1 d = some (r, d')), GG X Z 2 21 ad (dskE Z.2.1 ad d) 2 [(0, .ref (ad 0)), (1, .int v1)] [] := by
  intro fu
  induction fu with
  | zero => intro v1 d h; cases h
  | succ fu ih =>
    intro v1 d h
    rw [f_X0_createFile_L2] at h
    refine g_iload_n C dX0_createFile_2 1 rfl ?_
    refine g_bipush (v := 8) C dX0_createFile_3 (by decide) ?_
    refine g_icmp_ge (tgt := 73) C dX0_createFile_5 (by decide) (fun c1 => ?_) (fun c1 => ?_)
    · replace h := gi_pos c1 h
      refine g_bipush (v := (-3)) C dX0_createFile_73 (by decide) ?_
      cases h
      exact g_iret C e dX0_createFile_75
    · replace h := gi_neg c1 h
      refine g_aload_n C dX0_createFile_8 0 rfl ?_
      refine g_getf (v := .ref (ad 7)) C 0 (by decide) rfl rfl in_X0_createFile 3 (by decide) fl_X0_createFile_26 rfl dX0_createFile_9 ?_
      refine g_iload_n C dX0_createFile_12 1 rfl ?_
      refine g_iconst (v := 0) C dX0_createFile_13 (by decide) ?_
      obtain ⟨r2, er2, h⟩ := gb1 h
      refine g_callVi (rest := []) C gX0_createFile_X3_holds rfl ok_X3_holds ⟨by decide, by decide⟩ ⟨rfl, rfl⟩ 7 2 (by decide) (adc := fun i => ad (7 + i)) (fun _ _ => rfl) (dskE_row 3 (by decide)) 0 (by decide) rfl rfl (fun hI => cn_X3_holds X.2.1 Z (fun i => ad (7 + i)) hI 8 (d 3) v1 0 er2) rfl dX0_createFile_14 rfl (Nat.le_of_ble_eq_true rfl) (dskE Z.2.1 ad d) (dskE_id 3 (by decide)) ?_
      refine g_if_eq (tgt := 67) C dX0_createFile_17 (by decide) (fun c3 => ?_) (fun c3 => ?_)
      · replace h := gi_pos c3 h
        obtain ⟨x4, ex4, h⟩ := gl h
        refine g_iinc (v := x4) C dX0_createFile_67 1 rfl (by rw [ex4]; rfl) (by decide) [(1, .int x4), (0, .ref (ad 0))] rfl ?_
        refine g_goto (tgt := 2) C dX0_createFile_70 (by decide) ?_
        exact g_sub [1, 0] rfl (ih x4 d h)
      · replace h := gi_neg c3 h
        refine g_aload_n C dX0_createFile_20 0 rfl ?_
        refine g_getf (v := .ref (ad 7)) C 0 (by decide) rfl rfl in_X0_createFile 3 (by decide) fl_X0_createFile_26 rfl dX0_createFile_21 ?_
        refine g_iload_n C dX0_createFile_24 1 rfl ?_
        refine g_iconst (v := 1) C dX0_createFile_25 (by decide) ?_
        obtain ⟨w5, ew5, h⟩ := gb1 h
        obtain ⟨d6, ed6, h⟩ := gl h
        refine g_callVv (rest := []) C gX0_createFile_X3_put rfl ok_X3_put ⟨by decide, by decide⟩ ⟨rfl, rfl⟩ 7 2 (by decide) (adc := fun i => ad (7 + i)) (fun _ _ => rfl) (dskE_row 3 (by decide)) 0 (by decide) rfl rfl (fun hI => cn_X3_put X.2.1 Z (fun i => ad (7 + i)) hI 8 (d 3) v1 1 ew5) rfl dX0_createFile_26 rfl (Nat.le_of_ble_eq_true rfl) (dskE Z.2.1 ad d6) (by rw [ed6]; exact (dskE_up 3 (by decide))) ?_
        refine g_aload_n C dX0_createFile_29 0 rfl ?_
        refine g_getf (v := .ref (ad 9)) C 0 (by decide) rfl rfl in_X0_createFile 4 (by decide) fl_X0_createFile_29 rfl dX0_createFile_30 ?_
        refine g_iload_n C dX0_createFile_33 1 rfl ?_
        refine g_iconst (v := 0) C dX0_createFile_34 (by decide) ?_
        obtain ⟨w7, ew7, h⟩ := gb1 h
        obtain ⟨d8, ed8, h⟩ := gl h
        refine g_callVv (rest := []) C gX0_createFile_X3_put rfl ok_X3_put ⟨by decide, by decide⟩ ⟨rfl, rfl⟩ 9 2 (by decide) (adc := fun i => ad (9 + i)) (fun _ _ => rfl) (dskE_row 4 (by decide)) 0 (by decide) rfl rfl (fun hI => cn_X3_put X.2.1 Z (fun i => ad (9 + i)) hI 8 (d6 4) v1 0 ew7) rfl dX0_createFile_35 rfl (Nat.le_of_ble_eq_true rfl) (dskE Z.2.1 ad d8) (by rw [ed8]; exact (dskE_up 4 (by decide))) ?_
        refine g_aload_n C dX0_createFile_38 0 rfl ?_
        refine g_getf (v := .ref (ad 11)) C 0 (by decide) rfl rfl in_X0_createFile 5 (by decide) fl_X0_createFile_32 rfl dX0_createFile_39 ?_
        refine g_iload_n C dX0_createFile_42 1 rfl ?_
        refine g_iconst (v := 0) C dX0_createFile_43 (by decide) ?_
        obtain ⟨w9, ew9, h⟩ := gb1 h
        obtain ⟨d10, ed10, h⟩ := gl h
        refine g_callVv (rest := []) C gX0_createFile_X3_put rfl ok_X3_put ⟨by decide, by decide⟩ ⟨rfl, rfl⟩ 11 2 (by decide) (adc := fun i => ad (11 + i)) (fun _ _ => rfl) (dskE_row 5 (by decide)) 0 (by decide) rfl rfl (fun hI => cn_X3_put X.2.1 Z (fun i => ad (11 + i)) hI 8 (d8 5) v1 0 ew9) rfl dX0_createFile_44 rfl (Nat.le_of_ble_eq_true rfl) (dskE Z.2.1 ad d10) (by rw [ed10]; exact (dskE_up 5 (by decide))) ?_
        refine g_aload_n C dX0_createFile_47 0 rfl ?_
        refine g_getf (v := .ref (ad 13)) C 0 (by decide) rfl rfl in_X0_createFile 6 (by decide) fl_X0_createFile_35 rfl dX0_createFile_48 ?_
        refine g_iload_n C dX0_createFile_51 1 rfl ?_
        refine g_iconst (v := 0) C dX0_createFile_52 (by decide) ?_
        obtain ⟨w11, ew11, h⟩ := gb1 h
        obtain ⟨d12, ed12, h⟩ := gl h
        refine g_callVv (rest := []) C gX0_createFile_X3_put rfl ok_X3_put ⟨by decide, by decide⟩ ⟨rfl, rfl⟩ 13 2 (by decide) (adc := fun i => ad (13 + i)) (fun _ _ => rfl) (dskE_row 6 (by decide)) 0 (by decide) rfl rfl (fun hI => cn_X3_put X.2.1 Z (fun i => ad (13 + i)) hI 8 (d10 6) v1 0 ew11) rfl dX0_createFile_53 rfl (Nat.le_of_ble_eq_true rfl) (dskE Z.2.1 ad d12) (by rw [ed12]; exact (dskE_up 6 (by decide))) ?_
        refine g_aload_n C dX0_createFile_56 0 rfl ?_
        refine g_getf (v := .ref (ad 15)) C 0 (by decide) rfl rfl in_X0_createFile 7 (by decide) fl_X0_createFile_38 rfl dX0_createFile_57 ?_
        refine g_iload_n C dX0_createFile_60 1 rfl ?_
        refine g_iconst (v := 1) C dX0_createFile_61 (by decide) ?_
        obtain ⟨w13, ew13, h⟩ := gb1 h
        obtain ⟨d14, ed14, h⟩ := gl h
        refine g_callVv (rest := []) C gX0_createFile_X3_put rfl ok_X3_put ⟨by decide, by decide⟩ ⟨rfl, rfl⟩ 15 2 (by decide) (adc := fun i => ad (15 + i)) (fun _ _ => rfl) (dskE_row 7 (by decide)) 0 (by decide) rfl rfl (fun hI => cn_X3_put X.2.1 Z (fun i => ad (15 + i)) hI 8 (d12 7) v1 1 ew13) rfl dX0_createFile_62 rfl (Nat.le_of_ble_eq_true rfl) (dskE Z.2.1 ad d14) (by rw [ed14]; exact (dskE_up 7 (by decide))) ?_
        refine g_iload_n C dX0_createFile_65 1 rfl ?_
        cases h
        exact g_iret C e dX0_createFile_66
set_option maxHeartbeats 4000000 in
set_option maxRecDepth 100000 in
theorem cn_X0_createFile (l : Launch) (Z : gZ) (ad : Nat → Nat) (hI : gInj 21 ad) (d : Nat → Nat → Int32) {r : Int32} {d' : Nat → Nat → Int32} (h : f_X0_createFile d = some (r, d')) : gI l yX0_createFile wsX0_createFile rm_X0_createFile Z 21 ad [.ref (ad 0)] (dskE Z.2.1 ad d) r (dskE Z.2.1 ad d') := by
  refine g_entryI (cc := cX0_createFile) (maxL := 2) (by decide +kernel) rfl hI (Nat.le_of_ble_eq_true rfl) (fun X C e => ?_)
  unfold f_X0_createFile at h
  show GG X Z 2 21 ad (dskE Z.2.1 ad d) 0 [(0, .ref (ad 0))] []
  refine g_iconst (v := 0) C dX0_createFile_0 (by decide) ?_
  refine g_istore_n C dX0_createFile_1 (by decide) [(1, .int 0), (0, .ref (ad 0))] rfl ?_
  exact g_sub [1, 0] rfl (cl_X0_createFile_L2 C e gFu 0 d h)
abbrev rm_X0_isFile : Room := ({ frames := 1, cells := 0, slots := 0, locals := 22 } : Room)
def f_X0_isFile (d : Nat → Nat → Int32) (v1 : Int32) : Option Int32 := gb (f_X3_holds 8 (d 3) v1 2) (fun r1 => if r1 = 0 then gb (f_X3_holds 8 (d 3) v1 1) (fun r3 => if r3 = 0 then some 0 else some 1) else some 1)
set_option maxRecDepth 20000 in
theorem in_X0_isFile : ∀ w ∈ wsX00, w ∈ wsX0_isFile := by decide +kernel
set_option maxRecDepth 20000 in
theorem fl_X0_isFile_26 : Cond.fieldLink RX0 26 (TX0 3).1 (TX0 3).2.1 (TX0 3).2.2.1 ∈ wsX0_isFile := by decide +kernel
set_option maxHeartbeats 4000000 in
set_option maxRecDepth 100000 in
theorem cn_X0_isFile (l : Launch) (Z : gZ) (ad : Nat → Nat) (hI : gInj 21 ad) (d : Nat → Nat → Int32) (v1 : Int32) {r : Int32} (h : f_X0_isFile d v1 = some r) : gI l yX0_isFile wsX0_isFile rm_X0_isFile Z 21 ad [.ref (ad 0), .int v1] (dskE Z.2.1 ad d) r (dskE Z.2.1 ad d) := by
  refine g_entryI (cc := cX0_isFile) (maxL := 2) (by decide +kernel) rfl hI (Nat.le_of_ble_eq_true rfl) (fun X C e => ?_)
  unfold f_X0_isFile at h
  show GG X Z 2 21 ad (dskE Z.2.1 ad d) 0 [(0, .ref (ad 0)), (1, .int v1)] []
  refine g_aload_n C dX0_isFile_0 0 rfl ?_
  refine g_getf (v := .ref (ad 7)) C 0 (by decide) rfl rfl in_X0_isFile 3 (by decide) fl_X0_isFile_26 rfl dX0_isFile_1 ?_
  refine g_iload_n C dX0_isFile_4 1 rfl ?_
  refine g_iconst (v := 2) C dX0_isFile_5 (by decide) ?_
  obtain ⟨r1, er1, h⟩ := gb1 h
  refine g_callVi (rest := []) C gX0_isFile_X3_holds rfl ok_X3_holds ⟨by decide, by decide⟩ ⟨rfl, rfl⟩ 7 2 (by decide) (adc := fun i => ad (7 + i)) (fun _ _ => rfl) (dskE_row 3 (by decide)) 0 (by decide) rfl rfl (fun hI => cn_X3_holds X.2.1 Z (fun i => ad (7 + i)) hI 8 (d 3) v1 2 er1) rfl dX0_isFile_6 rfl (Nat.le_of_ble_eq_true rfl) (dskE Z.2.1 ad d) (dskE_id 3 (by decide)) ?_
  refine g_if_ne (tgt := 24) C dX0_isFile_9 (by decide) (fun c2 => ?_) (fun c2 => ?_)
  · replace h := gi_neg c2 h
    refine g_iconst (v := 1) C dX0_isFile_24 (by decide) ?_
    refine g_goto (tgt := 29) C dX0_isFile_25 (by decide) ?_
    cases h
    exact g_zret C e rfl dX0_isFile_29
  · replace h := gi_pos c2 h
    refine g_aload_n C dX0_isFile_12 0 rfl ?_
    refine g_getf (v := .ref (ad 7)) C 0 (by decide) rfl rfl in_X0_isFile 3 (by decide) fl_X0_isFile_26 rfl dX0_isFile_13 ?_
    refine g_iload_n C dX0_isFile_16 1 rfl ?_
    refine g_iconst (v := 1) C dX0_isFile_17 (by decide) ?_
    obtain ⟨r3, er3, h⟩ := gb1 h
    refine g_callVi (rest := []) C gX0_isFile_X3_holds rfl ok_X3_holds ⟨by decide, by decide⟩ ⟨rfl, rfl⟩ 7 2 (by decide) (adc := fun i => ad (7 + i)) (fun _ _ => rfl) (dskE_row 3 (by decide)) 0 (by decide) rfl rfl (fun hI => cn_X3_holds X.2.1 Z (fun i => ad (7 + i)) hI 8 (d 3) v1 1 er3) rfl dX0_isFile_18 rfl (Nat.le_of_ble_eq_true rfl) (dskE Z.2.1 ad d) (dskE_id 3 (by decide)) ?_
    refine g_if_eq (tgt := 28) C dX0_isFile_21 (by decide) (fun c4 => ?_) (fun c4 => ?_)
    · replace h := gi_pos c4 h
      refine g_iconst (v := 0) C dX0_isFile_28 (by decide) ?_
      cases h
      exact g_zret C e rfl dX0_isFile_29
    · replace h := gi_neg c4 h
      refine g_iconst (v := 1) C dX0_isFile_24 (by decide) ?_
      refine g_goto (tgt := 29) C dX0_isFile_25 (by decide) ?_
      cases h
      exact g_zret C e rfl dX0_isFile_29
abbrev rm_X0_isOpen : Room := ({ frames := 1, cells := 0, slots := 0, locals := 22 } : Room)
def f_X0_isOpen (d : Nat → Nat → Int32) (v1 : Int32) : Option Int32 := gb (f_X3_holds 8 (d 3) v1 2) (fun r1 => if r1 = 0 ∨ r1 = 1 then some r1 else none)
set_option maxRecDepth 20000 in
theorem in_X0_isOpen : ∀ w ∈ wsX00, w ∈ wsX0_isOpen := by decide +kernel
set_option maxRecDepth 20000 in
theorem fl_X0_isOpen_26 : Cond.fieldLink RX0 26 (TX0 3).1 (TX0 3).2.1 (TX0 3).2.2.1 ∈ wsX0_isOpen := by decide +kernel
set_option maxHeartbeats 4000000 in
set_option maxRecDepth 100000 in
theorem cn_X0_isOpen (l : Launch) (Z : gZ) (ad : Nat → Nat) (hI : gInj 21 ad) (d : Nat → Nat → Int32) (v1 : Int32) {r : Int32} (h : f_X0_isOpen d v1 = some r) : gI l yX0_isOpen wsX0_isOpen rm_X0_isOpen Z 21 ad [.ref (ad 0), .int v1] (dskE Z.2.1 ad d) r (dskE Z.2.1 ad d) := by
  refine g_entryI (cc := cX0_isOpen) (maxL := 2) (by decide +kernel) rfl hI (Nat.le_of_ble_eq_true rfl) (fun X C e => ?_)
  unfold f_X0_isOpen at h
  show GG X Z 2 21 ad (dskE Z.2.1 ad d) 0 [(0, .ref (ad 0)), (1, .int v1)] []
  refine g_aload_n C dX0_isOpen_0 0 rfl ?_
  refine g_getf (v := .ref (ad 7)) C 0 (by decide) rfl rfl in_X0_isOpen 3 (by decide) fl_X0_isOpen_26 rfl dX0_isOpen_1 ?_
  refine g_iload_n C dX0_isOpen_4 1 rfl ?_
  refine g_iconst (v := 2) C dX0_isOpen_5 (by decide) ?_
  obtain ⟨r1, er1, h⟩ := gb1 h
  refine g_callVi (rest := []) C gX0_isOpen_X3_holds rfl ok_X3_holds ⟨by decide, by decide⟩ ⟨rfl, rfl⟩ 7 2 (by decide) (adc := fun i => ad (7 + i)) (fun _ _ => rfl) (dskE_row 3 (by decide)) 0 (by decide) rfl rfl (fun hI => cn_X3_holds X.2.1 Z (fun i => ad (7 + i)) hI 8 (d 3) v1 2 er1) rfl dX0_isOpen_6 rfl (Nat.le_of_ble_eq_true rfl) (dskE Z.2.1 ad d) (dskE_id 3 (by decide)) ?_
  obtain ⟨b2, h⟩ := gguard h
  cases h
  exact g_zret C e (g_b01 b2) dX0_isOpen_9
abbrev rm_X0_filesThatAre : Room := ({ frames := 1, cells := 0, slots := 0, locals := 22 } : Room)
def f_X0_filesThatAre_L4 (d : Nat → Nat → Int32) (v1 : Int32) : Nat → Int32 → Int32 → Option Int32
  | 0, _, _ => none
  | fu + 1, v2, v3 => if 8 ≤ v3 then some v2 else gb (f_X3_holds 8 (d 3) v3 v1) (fun r2 => if r2 = 0 then glet (v3 + 1) (fun x4 => f_X0_filesThatAre_L4 d v1 fu v2 x4) else glet (v2 + 1) (fun x5 => glet (v3 + 1) (fun x6 => f_X0_filesThatAre_L4 d v1 fu x5 x6)))
def f_X0_filesThatAre (d : Nat → Nat → Int32) (v1 : Int32) : Option Int32 := f_X0_filesThatAre_L4 d v1 gFu 0 0
set_option maxRecDepth 20000 in
theorem in_X0_filesThatAre : ∀ w ∈ wsX00, w ∈ wsX0_filesThatAre := by decide +kernel
set_option maxRecDepth 20000 in
theorem fl_X0_filesThatAre_26 : Cond.fieldLink RX0 26 (TX0 3).1 (TX0 3).2.1 (TX0 3).2.2.1 ∈ wsX0_filesThatAre := by decide +kernel
set_option maxHeartbeats 4000000 in
set_option maxRecDepth 100000 in
theorem cl_X0_filesThatAre_L4 {X : gX} {Z : gZ} {ad : Nat → Nat} {d : Nat → Nat → Int32} {r : Int32} (C : GC X Z cX0_filesThatAre 4 wsX0_filesThatAre RX0 rm_X0_filesThatAre 21 ad) (e : gEI X Z 21 ad .int r (dskE Z.2.1 ad d)) (v1 : Int32) : ∀ (fu : Nat) (v2 : Int32) (v3 : Int32) (h : f_X0_filesThatAre_L4 d v1 fu v2 v3 = some r), GG X Z 4 21 ad (dskE Z.2.1 ad d) 4 [(0, .ref (ad 0)), (1, .int v1), (2, .int v2), (3, .int v3)] [] := by
  intro fu
  induction fu with
  | zero => intro v2 v3 h; cases h
  | succ fu ih =>
    intro v2 v3 h
    rw [f_X0_filesThatAre_L4] at h
    refine g_iload_n C dX0_filesThatAre_4 3 rfl ?_
    refine g_bipush (v := 8) C dX0_filesThatAre_5 (by decide) ?_
    refine g_icmp_ge (tgt := 31) C dX0_filesThatAre_7 (by decide) (fun c1 => ?_) (fun c1 => ?_)
    · replace h := gi_pos c1 h
      refine g_iload_n C dX0_filesThatAre_31 2 rfl ?_
      cases h
      exact g_iret C e dX0_filesThatAre_32
    · replace h := gi_neg c1 h
      refine g_aload_n C dX0_filesThatAre_10 0 rfl ?_
      refine g_getf (v := .ref (ad 7)) C 0 (by decide) rfl rfl in_X0_filesThatAre 3 (by decide) fl_X0_filesThatAre_26 rfl dX0_filesThatAre_11 ?_
      refine g_iload_n C dX0_filesThatAre_14 3 rfl ?_
      refine g_iload_n C dX0_filesThatAre_15 1 rfl ?_
      obtain ⟨r2, er2, h⟩ := gb1 h
      refine g_callVi (rest := []) C gX0_filesThatAre_X3_holds rfl ok_X3_holds ⟨by decide, by decide⟩ ⟨rfl, rfl⟩ 7 2 (by decide) (adc := fun i => ad (7 + i)) (fun _ _ => rfl) (dskE_row 3 (by decide)) 0 (by decide) rfl rfl (fun hI => cn_X3_holds X.2.1 Z (fun i => ad (7 + i)) hI 8 (d 3) v3 v1 er2) rfl dX0_filesThatAre_16 rfl (Nat.le_of_ble_eq_true rfl) (dskE Z.2.1 ad d) (dskE_id 3 (by decide)) ?_
      refine g_if_eq (tgt := 25) C dX0_filesThatAre_19 (by decide) (fun c3 => ?_) (fun c3 => ?_)
      · replace h := gi_pos c3 h
        obtain ⟨x4, ex4, h⟩ := gl h
        refine g_iinc (v := x4) C dX0_filesThatAre_25 3 rfl (by rw [ex4]; rfl) (by decide) [(3, .int x4), (0, .ref (ad 0)), (1, .int v1), (2, .int v2)] rfl ?_
        refine g_goto (tgt := 4) C dX0_filesThatAre_28 (by decide) ?_
        exact g_sub [1, 2, 3, 0] rfl (ih v2 x4 h)
      · replace h := gi_neg c3 h
        obtain ⟨x5, ex5, h⟩ := gl h
        refine g_iinc (v := x5) C dX0_filesThatAre_22 2 rfl (by rw [ex5]; rfl) (by decide) [(2, .int x5), (0, .ref (ad 0)), (1, .int v1), (3, .int v3)] rfl ?_
        obtain ⟨x6, ex6, h⟩ := gl h
        refine g_iinc (v := x6) C dX0_filesThatAre_25 3 rfl (by rw [ex6]; rfl) (by decide) [(3, .int x6), (2, .int x5), (0, .ref (ad 0)), (1, .int v1)] rfl ?_
        refine g_goto (tgt := 4) C dX0_filesThatAre_28 (by decide) ?_
        exact g_sub [2, 3, 1, 0] rfl (ih x5 x6 h)
set_option maxHeartbeats 4000000 in
set_option maxRecDepth 100000 in
theorem cn_X0_filesThatAre (l : Launch) (Z : gZ) (ad : Nat → Nat) (hI : gInj 21 ad) (d : Nat → Nat → Int32) (v1 : Int32) {r : Int32} (h : f_X0_filesThatAre d v1 = some r) : gI l yX0_filesThatAre wsX0_filesThatAre rm_X0_filesThatAre Z 21 ad [.ref (ad 0), .int v1] (dskE Z.2.1 ad d) r (dskE Z.2.1 ad d) := by
  refine g_entryI (cc := cX0_filesThatAre) (maxL := 4) (by decide +kernel) rfl hI (Nat.le_of_ble_eq_true rfl) (fun X C e => ?_)
  unfold f_X0_filesThatAre at h
  show GG X Z 4 21 ad (dskE Z.2.1 ad d) 0 [(0, .ref (ad 0)), (1, .int v1)] []
  refine g_iconst (v := 0) C dX0_filesThatAre_0 (by decide) ?_
  refine g_istore_n C dX0_filesThatAre_1 (by decide) [(2, .int 0), (0, .ref (ad 0)), (1, .int v1)] rfl ?_
  refine g_iconst (v := 0) C dX0_filesThatAre_2 (by decide) ?_
  refine g_istore_n C dX0_filesThatAre_3 (by decide) [(3, .int 0), (2, .int 0), (0, .ref (ad 0)), (1, .int v1)] rfl ?_
  exact g_sub [2, 3, 1, 0] rfl (cl_X0_filesThatAre_L4 C e v1 gFu 0 0 h)
abbrev rm_X0_openFile : Room := ({ frames := 2, cells := 0, slots := 0, locals := 45 } : Room)
def f_X0_openFile (d : Nat → Nat → Int32) (v1 : Int32) : Option (Int32 × (Nat → Nat → Int32)) := gb (f_X0_isFile d v1) (fun r1 => if r1 = 0 then some ((-1), d) else gb (f_X0_isOpen d v1) (fun r3 => if r3 = 0 then gb (f_X3_put 8 (d 3) v1 2) (fun w5 => glet (va_up d 3 w5) (fun d6 => gb (f_X0_filesThatAre d6 2) (fun r7 => some (r7, d6)))) else some ((-4), d)))
set_option maxRecDepth 20000 in
theorem in_X0_openFile : ∀ w ∈ wsX00, w ∈ wsX0_openFile := by decide +kernel
set_option maxRecDepth 20000 in
theorem fl_X0_openFile_26 : Cond.fieldLink RX0 26 (TX0 3).1 (TX0 3).2.1 (TX0 3).2.2.1 ∈ wsX0_openFile := by decide +kernel
set_option maxHeartbeats 4000000 in
set_option maxRecDepth 100000 in
theorem cn_X0_openFile (l : Launch) (Z : gZ) (ad : Nat → Nat) (hI : gInj 21 ad) (d : Nat → Nat → Int32) (v1 : Int32) {r : Int32} {d' : Nat → Nat → Int32} (h : f_X0_openFile d v1 = some (r, d')) : gI l yX0_openFile wsX0_openFile rm_X0_openFile Z 21 ad [.ref (ad 0), .int v1] (dskE Z.2.1 ad d) r (dskE Z.2.1 ad d') := by
  refine g_entryI (cc := cX0_openFile) (maxL := 2) (by decide +kernel) rfl hI (Nat.le_of_ble_eq_true rfl) (fun X C e => ?_)
  unfold f_X0_openFile at h
  show GG X Z 2 21 ad (dskE Z.2.1 ad d) 0 [(0, .ref (ad 0)), (1, .int v1)] []
  refine g_aload_n C dX0_openFile_0 0 rfl ?_
  refine g_iload_n C dX0_openFile_1 1 rfl ?_
  obtain ⟨r1, er1, h⟩ := gb1 h
  refine g_callWi (rest := []) C gX0_openFile_X0_isFile rfl ok_X0_isFile ⟨by decide, by decide⟩ ⟨rfl, rfl⟩ 0 (by decide) rfl rfl (fun hI => cn_X0_isFile X.2.1 Z ad hI d v1 er1) rfl dX0_openFile_2 rfl (Nat.le_of_ble_eq_true rfl) ?_
  refine g_if_ne (tgt := 10) C dX0_openFile_5 (by decide) (fun c2 => ?_) (fun c2 => ?_)
  · replace h := gi_neg c2 h
    refine g_aload_n C dX0_openFile_10 0 rfl ?_
    refine g_iload_n C dX0_openFile_11 1 rfl ?_
    obtain ⟨r3, er3, h⟩ := gb1 h
    refine g_callWi (rest := []) C gX0_openFile_X0_isOpen rfl ok_X0_isOpen ⟨by decide, by decide⟩ ⟨rfl, rfl⟩ 0 (by decide) rfl rfl (fun hI => cn_X0_isOpen X.2.1 Z ad hI d v1 er3) rfl dX0_openFile_12 rfl (Nat.le_of_ble_eq_true rfl) ?_
    refine g_if_eq (tgt := 21) C dX0_openFile_15 (by decide) (fun c4 => ?_) (fun c4 => ?_)
    · replace h := gi_pos c4 h
      refine g_aload_n C dX0_openFile_21 0 rfl ?_
      refine g_getf (v := .ref (ad 7)) C 0 (by decide) rfl rfl in_X0_openFile 3 (by decide) fl_X0_openFile_26 rfl dX0_openFile_22 ?_
      refine g_iload_n C dX0_openFile_25 1 rfl ?_
      refine g_iconst (v := 2) C dX0_openFile_26 (by decide) ?_
      obtain ⟨w5, ew5, h⟩ := gb1 h
      obtain ⟨d6, ed6, h⟩ := gl h
      refine g_callVv (rest := []) C gX0_openFile_X3_put rfl ok_X3_put ⟨by decide, by decide⟩ ⟨rfl, rfl⟩ 7 2 (by decide) (adc := fun i => ad (7 + i)) (fun _ _ => rfl) (dskE_row 3 (by decide)) 0 (by decide) rfl rfl (fun hI => cn_X3_put X.2.1 Z (fun i => ad (7 + i)) hI 8 (d 3) v1 2 ew5) rfl dX0_openFile_27 rfl (Nat.le_of_ble_eq_true rfl) (dskE Z.2.1 ad d6) (by rw [ed6]; exact (dskE_up 3 (by decide))) ?_
      refine g_aload_n C dX0_openFile_30 0 rfl ?_
      refine g_iconst (v := 2) C dX0_openFile_31 (by decide) ?_
      obtain ⟨r7, er7, h⟩ := gb1 h
      refine g_callWi (rest := []) C gX0_openFile_X0_filesThatAre rfl ok_X0_filesThatAre ⟨by decide, by decide⟩ ⟨rfl, rfl⟩ 0 (by decide) rfl rfl (fun hI => cn_X0_filesThatAre X.2.1 Z ad hI d6 2 er7) rfl dX0_openFile_32 rfl (Nat.le_of_ble_eq_true rfl) ?_
      cases h
      exact g_iret C e dX0_openFile_35
    · replace h := gi_neg c4 h
      refine g_bipush (v := (-4)) C dX0_openFile_18 (by decide) ?_
      cases h
      exact g_iret C e dX0_openFile_20
  · replace h := gi_pos c2 h
    refine g_iconst (v := (-1)) C dX0_openFile_8 (by decide) ?_
    cases h
    exact g_iret C e dX0_openFile_9
abbrev rm_X0_lentOf : Room := ({ frames := 1, cells := 0, slots := 0, locals := 21 } : Room)
def f_X0_lentOf (d : Nat → Nat → Int32) (v1 : Int32) : Option Int32 := gb (f_X3_at 8 (d 4) v1) (fun r1 => gb (f_X3_at 8 (d 5) v1) (fun r2 => some (r1 - r2)))
set_option maxRecDepth 20000 in
theorem in_X0_lentOf : ∀ w ∈ wsX00, w ∈ wsX0_lentOf := by decide +kernel
set_option maxRecDepth 20000 in
theorem fl_X0_lentOf_32 : Cond.fieldLink RX0 32 (TX0 5).1 (TX0 5).2.1 (TX0 5).2.2.1 ∈ wsX0_lentOf := by decide +kernel
set_option maxRecDepth 20000 in
theorem fl_X0_lentOf_29 : Cond.fieldLink RX0 29 (TX0 4).1 (TX0 4).2.1 (TX0 4).2.2.1 ∈ wsX0_lentOf := by decide +kernel
set_option maxHeartbeats 4000000 in
set_option maxRecDepth 100000 in
theorem cn_X0_lentOf (l : Launch) (Z : gZ) (ad : Nat → Nat) (hI : gInj 21 ad) (d : Nat → Nat → Int32) (v1 : Int32) {r : Int32} (h : f_X0_lentOf d v1 = some r) : gI l yX0_lentOf wsX0_lentOf rm_X0_lentOf Z 21 ad [.ref (ad 0), .int v1] (dskE Z.2.1 ad d) r (dskE Z.2.1 ad d) := by
  refine g_entryI (cc := cX0_lentOf) (maxL := 2) (by decide +kernel) rfl hI (Nat.le_of_ble_eq_true rfl) (fun X C e => ?_)
  unfold f_X0_lentOf at h
  show GG X Z 2 21 ad (dskE Z.2.1 ad d) 0 [(0, .ref (ad 0)), (1, .int v1)] []
  refine g_aload_n C dX0_lentOf_0 0 rfl ?_
  refine g_getf (v := .ref (ad 9)) C 0 (by decide) rfl rfl in_X0_lentOf 4 (by decide) fl_X0_lentOf_29 rfl dX0_lentOf_1 ?_
  refine g_iload_n C dX0_lentOf_4 1 rfl ?_
  obtain ⟨r1, er1, h⟩ := gb1 h
  refine g_callVi (rest := []) C gX0_lentOf_X3_at rfl ok_X3_at ⟨by decide, by decide⟩ ⟨rfl, rfl⟩ 9 2 (by decide) (adc := fun i => ad (9 + i)) (fun _ _ => rfl) (dskE_row 4 (by decide)) 0 (by decide) rfl rfl (fun hI => cn_X3_at X.2.1 Z (fun i => ad (9 + i)) hI 8 (d 4) v1 er1) rfl dX0_lentOf_5 rfl (Nat.le_of_ble_eq_true rfl) (dskE Z.2.1 ad d) (dskE_id 4 (by decide)) ?_
  refine g_aload_n C dX0_lentOf_8 0 rfl ?_
  refine g_getf (v := .ref (ad 11)) C 0 (by decide) rfl rfl in_X0_lentOf 5 (by decide) fl_X0_lentOf_32 rfl dX0_lentOf_9 ?_
  refine g_iload_n C dX0_lentOf_12 1 rfl ?_
  obtain ⟨r2, er2, h⟩ := gb1 h
  refine g_callVi (rest := [.int r1]) C gX0_lentOf_X3_at rfl ok_X3_at ⟨by decide, by decide⟩ ⟨rfl, rfl⟩ 11 2 (by decide) (adc := fun i => ad (11 + i)) (fun _ _ => rfl) (dskE_row 5 (by decide)) 0 (by decide) rfl rfl (fun hI => cn_X3_at X.2.1 Z (fun i => ad (11 + i)) hI 8 (d 5) v1 er2) rfl dX0_lentOf_13 rfl (Nat.le_of_ble_eq_true rfl) (dskE Z.2.1 ad d) (dskE_id 5 (by decide)) ?_
  refine g_isub C dX0_lentOf_16 ?_
  cases h
  exact g_iret C e dX0_lentOf_17
abbrev rm_X0_freeFrom : Room := ({ frames := 1, cells := 0, slots := 0, locals := 22 } : Room)
def f_X0_freeFrom_L2 (v1 : Int32) (v2 : Int32) : Nat → Int32 → (Nat → Nat → Int32) → Option ((Nat → Nat → Int32))
  | 0, _, _ => none
  | fu + 1, v3, d => if 64 ≤ v3 then gb (f_X3_put 8 (d 4) v1 v2) (fun w2 => glet (va_up d 4 w2) (fun d3 => some d3)) else gb (f_X3_holds 64 (d 1) v3 v1) (fun r4 => if r4 = 0 then glet (v3 + 1) (fun x6 => f_X0_freeFrom_L2 v1 v2 fu x6 d) else gb (f_X3_at 64 (d 2) v3) (fun r7 => if r7 < v2 then glet (v3 + 1) (fun x9 => f_X0_freeFrom_L2 v1 v2 fu x9 d) else gb (f_X3_put 64 (d 1) v3 (-5)) (fun w10 => glet (va_up d 1 w10) (fun d11 => gb (f_X3_put 64 (d11 2) v3 (-5)) (fun w12 => glet (va_up d11 2 w12) (fun d13 => glet (v3 + 1) (fun x14 => f_X0_freeFrom_L2 v1 v2 fu x14 d13)))))))
def f_X0_freeFrom (d : Nat → Nat → Int32) (v1 : Int32) (v2 : Int32) : Option ((Nat → Nat → Int32)) := f_X0_freeFrom_L2 v1 v2 gFu 0 d
set_option maxRecDepth 20000 in
theorem in_X0_freeFrom : ∀ w ∈ wsX00, w ∈ wsX0_freeFrom := by decide +kernel
set_option maxRecDepth 20000 in
theorem fl_X0_freeFrom_29 : Cond.fieldLink RX0 29 (TX0 4).1 (TX0 4).2.1 (TX0 4).2.2.1 ∈ wsX0_freeFrom := by decide +kernel
set_option maxRecDepth 20000 in
theorem fl_X0_freeFrom_23 : Cond.fieldLink RX0 23 (TX0 2).1 (TX0 2).2.1 (TX0 2).2.2.1 ∈ wsX0_freeFrom := by decide +kernel
set_option maxRecDepth 20000 in
theorem fl_X0_freeFrom_20 : Cond.fieldLink RX0 20 (TX0 1).1 (TX0 1).2.1 (TX0 1).2.2.1 ∈ wsX0_freeFrom := by decide +kernel
set_option maxHeartbeats 4000000 in
set_option maxRecDepth 100000 in
theorem cl_X0_freeFrom_L2 {X : gX} {Z : gZ} {ad : Nat → Nat}  {d' : Nat → Nat → Int32} (C : GC X Z cX0_freeFrom 4 wsX0_freeFrom RX0 rm_X0_freeFrom 21 ad) (e : gEV X Z 21 ad (dskE Z.2.1 ad d')) (v1 : Int32) (v2 : Int32) : ∀ (fu : Nat) (v3 : Int32) (d : Nat → Nat → Int32) (h : f_X0_freeFrom_L2 v1 v2 fu v3 d = some d'), GG X Z 4 21 ad (dskE Z.2.1 ad d) 2 [(0, .ref (ad 0)), (1, .int v1), (2, .int v2), (3, .int v3)] [] := by
  intro fu
  induction fu with
  | zero => intro v3 d h; cases h
  | succ fu ih =>
    intro v3 d h
    rw [f_X0_freeFrom_L2] at h
    refine g_iload_n C dX0_freeFrom_2 3 rfl ?_
    refine g_bipush (v := 64) C dX0_freeFrom_3 (by decide) ?_
    refine g_icmp_ge (tgt := 58) C dX0_freeFrom_5 (by decide) (fun c1 => ?_) (fun c1 => ?_)
    · replace h := gi_pos c1 h
      refine g_aload_n C dX0_freeFrom_58 0 rfl ?_
      refine g_getf (v := .ref (ad 9)) C 0 (by decide) rfl rfl in_X0_freeFrom 4 (by decide) fl_X0_freeFrom_29 rfl dX0_freeFrom_59 ?_
      refine g_iload_n C dX0_freeFrom_62 1 rfl ?_
      refine g_iload_n C dX0_freeFrom_63 2 rfl ?_
      obtain ⟨w2, ew2, h⟩ := gb1 h
      obtain ⟨d3, ed3, h⟩ := gl h
      refine g_callVv (rest := []) C gX0_freeFrom_X3_put rfl ok_X3_put ⟨by decide, by decide⟩ ⟨rfl, rfl⟩ 9 2 (by decide) (adc := fun i => ad (9 + i)) (fun _ _ => rfl) (dskE_row 4 (by decide)) 0 (by decide) rfl rfl (fun hI => cn_X3_put X.2.1 Z (fun i => ad (9 + i)) hI 8 (d 4) v1 v2 ew2) rfl dX0_freeFrom_64 rfl (Nat.le_of_ble_eq_true rfl) (dskE Z.2.1 ad d3) (by rw [ed3]; exact (dskE_up 4 (by decide))) ?_
      cases h
      exact g_vret C e dX0_freeFrom_67
    · replace h := gi_neg c1 h
      refine g_aload_n C dX0_freeFrom_8 0 rfl ?_
      refine g_getf (v := .ref (ad 3)) C 0 (by decide) rfl rfl in_X0_freeFrom 1 (by decide) fl_X0_freeFrom_20 rfl dX0_freeFrom_9 ?_
      refine g_iload_n C dX0_freeFrom_12 3 rfl ?_
      refine g_iload_n C dX0_freeFrom_13 1 rfl ?_
      obtain ⟨r4, er4, h⟩ := gb1 h
      refine g_callVi (rest := []) C gX0_freeFrom_X3_holds rfl ok_X3_holds ⟨by decide, by decide⟩ ⟨rfl, rfl⟩ 3 2 (by decide) (adc := fun i => ad (3 + i)) (fun _ _ => rfl) (dskE_row 1 (by decide)) 0 (by decide) rfl rfl (fun hI => cn_X3_holds X.2.1 Z (fun i => ad (3 + i)) hI 64 (d 1) v3 v1 er4) rfl dX0_freeFrom_14 rfl (Nat.le_of_ble_eq_true rfl) (dskE Z.2.1 ad d) (dskE_id 1 (by decide)) ?_
      refine g_if_eq (tgt := 52) C dX0_freeFrom_17 (by decide) (fun c5 => ?_) (fun c5 => ?_)
      · replace h := gi_pos c5 h
        obtain ⟨x6, ex6, h⟩ := gl h
        refine g_iinc (v := x6) C dX0_freeFrom_52 3 rfl (by rw [ex6]; rfl) (by decide) [(3, .int x6), (0, .ref (ad 0)), (1, .int v1), (2, .int v2)] rfl ?_
        refine g_goto (tgt := 2) C dX0_freeFrom_55 (by decide) ?_
        exact g_sub [1, 2, 3, 0] rfl (ih x6 d h)
      · replace h := gi_neg c5 h
        refine g_aload_n C dX0_freeFrom_20 0 rfl ?_
        refine g_getf (v := .ref (ad 5)) C 0 (by decide) rfl rfl in_X0_freeFrom 2 (by decide) fl_X0_freeFrom_23 rfl dX0_freeFrom_21 ?_
        refine g_iload_n C dX0_freeFrom_24 3 rfl ?_
        obtain ⟨r7, er7, h⟩ := gb1 h
        refine g_callVi (rest := []) C gX0_freeFrom_X3_at rfl ok_X3_at ⟨by decide, by decide⟩ ⟨rfl, rfl⟩ 5 2 (by decide) (adc := fun i => ad (5 + i)) (fun _ _ => rfl) (dskE_row 2 (by decide)) 0 (by decide) rfl rfl (fun hI => cn_X3_at X.2.1 Z (fun i => ad (5 + i)) hI 64 (d 2) v3 er7) rfl dX0_freeFrom_25 rfl (Nat.le_of_ble_eq_true rfl) (dskE Z.2.1 ad d) (dskE_id 2 (by decide)) ?_
        refine g_iload_n C dX0_freeFrom_28 2 rfl ?_
        refine g_icmp_lt (tgt := 52) C dX0_freeFrom_29 (by decide) (fun c8 => ?_) (fun c8 => ?_)
        · replace h := gi_pos c8 h
          obtain ⟨x9, ex9, h⟩ := gl h
          refine g_iinc (v := x9) C dX0_freeFrom_52 3 rfl (by rw [ex9]; rfl) (by decide) [(3, .int x9), (0, .ref (ad 0)), (1, .int v1), (2, .int v2)] rfl ?_
          refine g_goto (tgt := 2) C dX0_freeFrom_55 (by decide) ?_
          exact g_sub [1, 2, 3, 0] rfl (ih x9 d h)
        · replace h := gi_neg c8 h
          refine g_aload_n C dX0_freeFrom_32 0 rfl ?_
          refine g_getf (v := .ref (ad 3)) C 0 (by decide) rfl rfl in_X0_freeFrom 1 (by decide) fl_X0_freeFrom_20 rfl dX0_freeFrom_33 ?_
          refine g_iload_n C dX0_freeFrom_36 3 rfl ?_
          refine g_bipush (v := (-5)) C dX0_freeFrom_37 (by decide) ?_
          obtain ⟨w10, ew10, h⟩ := gb1 h
          obtain ⟨d11, ed11, h⟩ := gl h
          refine g_callVv (rest := []) C gX0_freeFrom_X3_put rfl ok_X3_put ⟨by decide, by decide⟩ ⟨rfl, rfl⟩ 3 2 (by decide) (adc := fun i => ad (3 + i)) (fun _ _ => rfl) (dskE_row 1 (by decide)) 0 (by decide) rfl rfl (fun hI => cn_X3_put X.2.1 Z (fun i => ad (3 + i)) hI 64 (d 1) v3 (-5) ew10) rfl dX0_freeFrom_39 rfl (Nat.le_of_ble_eq_true rfl) (dskE Z.2.1 ad d11) (by rw [ed11]; exact (dskE_up 1 (by decide))) ?_
          refine g_aload_n C dX0_freeFrom_42 0 rfl ?_
          refine g_getf (v := .ref (ad 5)) C 0 (by decide) rfl rfl in_X0_freeFrom 2 (by decide) fl_X0_freeFrom_23 rfl dX0_freeFrom_43 ?_
          refine g_iload_n C dX0_freeFrom_46 3 rfl ?_
          refine g_bipush (v := (-5)) C dX0_freeFrom_47 (by decide) ?_
          obtain ⟨w12, ew12, h⟩ := gb1 h
          obtain ⟨d13, ed13, h⟩ := gl h
          refine g_callVv (rest := []) C gX0_freeFrom_X3_put rfl ok_X3_put ⟨by decide, by decide⟩ ⟨rfl, rfl⟩ 5 2 (by decide) (adc := fun i => ad (5 + i)) (fun _ _ => rfl) (dskE_row 2 (by decide)) 0 (by decide) rfl rfl (fun hI => cn_X3_put X.2.1 Z (fun i => ad (5 + i)) hI 64 (d11 2) v3 (-5) ew12) rfl dX0_freeFrom_49 rfl (Nat.le_of_ble_eq_true rfl) (dskE Z.2.1 ad d13) (by rw [ed13]; exact (dskE_up 2 (by decide))) ?_
          obtain ⟨x14, ex14, h⟩ := gl h
          refine g_iinc (v := x14) C dX0_freeFrom_52 3 rfl (by rw [ex14]; rfl) (by decide) [(3, .int x14), (0, .ref (ad 0)), (1, .int v1), (2, .int v2)] rfl ?_
          refine g_goto (tgt := 2) C dX0_freeFrom_55 (by decide) ?_
          exact g_sub [1, 2, 3, 0] rfl (ih x14 d13 h)
set_option maxHeartbeats 4000000 in
set_option maxRecDepth 100000 in
theorem cn_X0_freeFrom (l : Launch) (Z : gZ) (ad : Nat → Nat) (hI : gInj 21 ad) (d : Nat → Nat → Int32) (v1 : Int32) (v2 : Int32) {d' : Nat → Nat → Int32} (h : f_X0_freeFrom d v1 v2 = some d') : gV l yX0_freeFrom wsX0_freeFrom rm_X0_freeFrom Z 21 ad [.ref (ad 0), .int v1, .int v2] (dskE Z.2.1 ad d) (dskE Z.2.1 ad d') := by
  refine g_entryV (cc := cX0_freeFrom) (maxL := 4) (by decide +kernel) rfl hI (Nat.le_of_ble_eq_true rfl) (fun X C e => ?_)
  unfold f_X0_freeFrom at h
  show GG X Z 4 21 ad (dskE Z.2.1 ad d) 0 [(0, .ref (ad 0)), (1, .int v1), (2, .int v2)] []
  refine g_iconst (v := 0) C dX0_freeFrom_0 (by decide) ?_
  refine g_istore_n C dX0_freeFrom_1 (by decide) [(3, .int 0), (0, .ref (ad 0)), (1, .int v1), (2, .int v2)] rfl ?_
  exact g_sub [1, 2, 3, 0] rfl (cl_X0_freeFrom_L2 C e v1 v2 gFu 0 d h)
abbrev rm_X0_giveBack : Room := ({ frames := 2, cells := 0, slots := 0, locals := 45 } : Room)
def f_X0_giveBack (d : Nat → Nat → Int32) (v1 : Int32) : Option (Int32 × (Nat → Nat → Int32)) := gb (f_X0_lentOf d v1) (fun r1 => gb (f_X3_at 8 (d 5) v1) (fun r2 => gb (f_X0_freeFrom d v1 r2) (fun d3 => gb (f_X3_put 8 (d3 7) v1 1) (fun w4 => glet (va_up d3 7 w4) (fun d5 => gb (f_X3_grow 4 (d5 9) 1 r1) (fun w6 => glet (va_up d5 9 w6) (fun d7 => some (r1, d7))))))))
set_option maxRecDepth 20000 in
theorem in_X0_giveBack : ∀ w ∈ wsX00, w ∈ wsX0_giveBack := by decide +kernel
set_option maxRecDepth 20000 in
theorem fl_X0_giveBack_44 : Cond.fieldLink RX0 44 (TX0 9).1 (TX0 9).2.1 (TX0 9).2.2.1 ∈ wsX0_giveBack := by decide +kernel
set_option maxRecDepth 20000 in
theorem fl_X0_giveBack_38 : Cond.fieldLink RX0 38 (TX0 7).1 (TX0 7).2.1 (TX0 7).2.2.1 ∈ wsX0_giveBack := by decide +kernel
set_option maxRecDepth 20000 in
theorem fl_X0_giveBack_32 : Cond.fieldLink RX0 32 (TX0 5).1 (TX0 5).2.1 (TX0 5).2.2.1 ∈ wsX0_giveBack := by decide +kernel
set_option maxHeartbeats 4000000 in
set_option maxRecDepth 100000 in
theorem cn_X0_giveBack (l : Launch) (Z : gZ) (ad : Nat → Nat) (hI : gInj 21 ad) (d : Nat → Nat → Int32) (v1 : Int32) {r : Int32} {d' : Nat → Nat → Int32} (h : f_X0_giveBack d v1 = some (r, d')) : gI l yX0_giveBack wsX0_giveBack rm_X0_giveBack Z 21 ad [.ref (ad 0), .int v1] (dskE Z.2.1 ad d) r (dskE Z.2.1 ad d') := by
  refine g_entryI (cc := cX0_giveBack) (maxL := 3) (by decide +kernel) rfl hI (Nat.le_of_ble_eq_true rfl) (fun X C e => ?_)
  unfold f_X0_giveBack at h
  show GG X Z 3 21 ad (dskE Z.2.1 ad d) 0 [(0, .ref (ad 0)), (1, .int v1)] []
  refine g_aload_n C dX0_giveBack_0 0 rfl ?_
  refine g_iload_n C dX0_giveBack_1 1 rfl ?_
  obtain ⟨r1, er1, h⟩ := gb1 h
  refine g_callWi (rest := []) C gX0_giveBack_X0_lentOf rfl ok_X0_lentOf ⟨by decide, by decide⟩ ⟨rfl, rfl⟩ 0 (by decide) rfl rfl (fun hI => cn_X0_lentOf X.2.1 Z ad hI d v1 er1) rfl dX0_giveBack_2 rfl (Nat.le_of_ble_eq_true rfl) ?_
  refine g_istore_n C dX0_giveBack_5 (by decide) [(2, .int r1), (0, .ref (ad 0)), (1, .int v1)] rfl ?_
  refine g_aload_n C dX0_giveBack_6 1 rfl ?_
  refine g_iload_n C dX0_giveBack_7 2 rfl ?_
  refine g_aload_n C dX0_giveBack_8 1 rfl ?_
  refine g_getf (v := .ref (ad 11)) C 0 (by decide) rfl rfl in_X0_giveBack 5 (by decide) fl_X0_giveBack_32 rfl dX0_giveBack_9 ?_
  refine g_iload_n C dX0_giveBack_12 2 rfl ?_
  obtain ⟨r2, er2, h⟩ := gb1 h
  refine g_callVi (rest := [.int v1, .ref (ad 0)]) C gX0_giveBack_X3_at rfl ok_X3_at ⟨by decide, by decide⟩ ⟨rfl, rfl⟩ 11 2 (by decide) (adc := fun i => ad (11 + i)) (fun _ _ => rfl) (dskE_row 5 (by decide)) 0 (by decide) rfl rfl (fun hI => cn_X3_at X.2.1 Z (fun i => ad (11 + i)) hI 8 (d 5) v1 er2) rfl dX0_giveBack_13 rfl (Nat.le_of_ble_eq_true rfl) (dskE Z.2.1 ad d) (dskE_id 5 (by decide)) ?_
  obtain ⟨d3, ed3, h⟩ := gb1 h
  refine g_callWv (rest := []) C gX0_giveBack_X0_freeFrom rfl ok_X0_freeFrom ⟨by decide, by decide⟩ ⟨rfl, rfl⟩ 0 (by decide) rfl rfl (fun hI => cn_X0_freeFrom X.2.1 Z ad hI d v1 r2 ed3) rfl dX0_giveBack_16 rfl (Nat.le_of_ble_eq_true rfl) ?_
  refine g_aload_n C dX0_giveBack_19 1 rfl ?_
  refine g_getf (v := .ref (ad 15)) C 0 (by decide) rfl rfl in_X0_giveBack 7 (by decide) fl_X0_giveBack_38 rfl dX0_giveBack_20 ?_
  refine g_iload_n C dX0_giveBack_23 2 rfl ?_
  refine g_iconst (v := 1) C dX0_giveBack_24 (by decide) ?_
  obtain ⟨w4, ew4, h⟩ := gb1 h
  obtain ⟨d5, ed5, h⟩ := gl h
  refine g_callVv (rest := []) C gX0_giveBack_X3_put rfl ok_X3_put ⟨by decide, by decide⟩ ⟨rfl, rfl⟩ 15 2 (by decide) (adc := fun i => ad (15 + i)) (fun _ _ => rfl) (dskE_row 7 (by decide)) 0 (by decide) rfl rfl (fun hI => cn_X3_put X.2.1 Z (fun i => ad (15 + i)) hI 8 (d3 7) v1 1 ew4) rfl dX0_giveBack_25 rfl (Nat.le_of_ble_eq_true rfl) (dskE Z.2.1 ad d5) (by rw [ed5]; exact (dskE_up 7 (by decide))) ?_
  refine g_aload_n C dX0_giveBack_28 1 rfl ?_
  refine g_getf (v := .ref (ad 19)) C 0 (by decide) rfl rfl in_X0_giveBack 9 (by decide) fl_X0_giveBack_44 rfl dX0_giveBack_29 ?_
  refine g_iconst (v := 1) C dX0_giveBack_32 (by decide) ?_
  refine g_iload_n C dX0_giveBack_33 0 rfl ?_
  obtain ⟨w6, ew6, h⟩ := gb1 h
  obtain ⟨d7, ed7, h⟩ := gl h
  refine g_callVv (rest := []) C gX0_giveBack_X3_grow rfl ok_X3_grow ⟨by decide, by decide⟩ ⟨rfl, rfl⟩ 19 2 (by decide) (adc := fun i => ad (19 + i)) (fun _ _ => rfl) (dskE_row 9 (by decide)) 0 (by decide) rfl rfl (fun hI => cn_X3_grow X.2.1 Z (fun i => ad (19 + i)) hI 4 (d5 9) 1 r1 ew6) rfl dX0_giveBack_34 rfl (Nat.le_of_ble_eq_true rfl) (dskE Z.2.1 ad d7) (by rw [ed7]; exact (dskE_up 9 (by decide))) ?_
  refine g_iload_n C dX0_giveBack_37 0 rfl ?_
  cases h
  exact g_iret C e dX0_giveBack_38
abbrev rm_X0_closeFile : Room := ({ frames := 3, cells := 0, slots := 0, locals := 67 } : Room)
def f_X0_closeFile (d : Nat → Nat → Int32) (v1 : Int32) : Option (Int32 × (Nat → Nat → Int32)) := gb (f_X0_isFile d v1) (fun r1 => if r1 = 0 then some ((-1), d) else gb (f_X0_isOpen d v1) (fun r3 => if r3 = 0 then some ((-4), d) else gbb2 (f_X0_giveBack d v1) (fun r5 d6 => gb (f_X3_at 8 (d6 5) v1) (fun r7 => gb (f_X3_put 8 (d6 6) v1 r7) (fun w8 => glet (va_up d6 6 w8) (fun d9 => gb (f_X3_put 8 (d9 3) v1 1) (fun w10 => glet (va_up d9 3 w10) (fun d11 => some (r5, d11)))))))))
set_option maxRecDepth 20000 in
theorem in_X0_closeFile : ∀ w ∈ wsX00, w ∈ wsX0_closeFile := by decide +kernel
set_option maxRecDepth 20000 in
theorem fl_X0_closeFile_26 : Cond.fieldLink RX0 26 (TX0 3).1 (TX0 3).2.1 (TX0 3).2.2.1 ∈ wsX0_closeFile := by decide +kernel
set_option maxRecDepth 20000 in
theorem fl_X0_closeFile_32 : Cond.fieldLink RX0 32 (TX0 5).1 (TX0 5).2.1 (TX0 5).2.2.1 ∈ wsX0_closeFile := by decide +kernel
set_option maxRecDepth 20000 in
theorem fl_X0_closeFile_35 : Cond.fieldLink RX0 35 (TX0 6).1 (TX0 6).2.1 (TX0 6).2.2.1 ∈ wsX0_closeFile := by decide +kernel
set_option maxHeartbeats 4000000 in
set_option maxRecDepth 100000 in
theorem cn_X0_closeFile (l : Launch) (Z : gZ) (ad : Nat → Nat) (hI : gInj 21 ad) (d : Nat → Nat → Int32) (v1 : Int32) {r : Int32} {d' : Nat → Nat → Int32} (h : f_X0_closeFile d v1 = some (r, d')) : gI l yX0_closeFile wsX0_closeFile rm_X0_closeFile Z 21 ad [.ref (ad 0), .int v1] (dskE Z.2.1 ad d) r (dskE Z.2.1 ad d') := by
  refine g_entryI (cc := cX0_closeFile) (maxL := 3) (by decide +kernel) rfl hI (Nat.le_of_ble_eq_true rfl) (fun X C e => ?_)
  unfold f_X0_closeFile at h
  show GG X Z 3 21 ad (dskE Z.2.1 ad d) 0 [(0, .ref (ad 0)), (1, .int v1)] []
  refine g_aload_n C dX0_closeFile_0 0 rfl ?_
  refine g_iload_n C dX0_closeFile_1 1 rfl ?_
  obtain ⟨r1, er1, h⟩ := gb1 h
  refine g_callWi (rest := []) C gX0_closeFile_X0_isFile rfl ok_X0_isFile ⟨by decide, by decide⟩ ⟨rfl, rfl⟩ 0 (by decide) rfl rfl (fun hI => cn_X0_isFile X.2.1 Z ad hI d v1 er1) rfl dX0_closeFile_2 rfl (Nat.le_of_ble_eq_true rfl) ?_
  refine g_if_ne (tgt := 10) C dX0_closeFile_5 (by decide) (fun c2 => ?_) (fun c2 => ?_)
  · replace h := gi_neg c2 h
    refine g_aload_n C dX0_closeFile_10 0 rfl ?_
    refine g_iload_n C dX0_closeFile_11 1 rfl ?_
    obtain ⟨r3, er3, h⟩ := gb1 h
    refine g_callWi (rest := []) C gX0_closeFile_X0_isOpen rfl ok_X0_isOpen ⟨by decide, by decide⟩ ⟨rfl, rfl⟩ 0 (by decide) rfl rfl (fun hI => cn_X0_isOpen X.2.1 Z ad hI d v1 er3) rfl dX0_closeFile_12 rfl (Nat.le_of_ble_eq_true rfl) ?_
    refine g_if_ne (tgt := 21) C dX0_closeFile_15 (by decide) (fun c4 => ?_) (fun c4 => ?_)
    · replace h := gi_neg c4 h
      refine g_aload_n C dX0_closeFile_21 0 rfl ?_
      refine g_iload_n C dX0_closeFile_22 1 rfl ?_
      obtain ⟨r5, d6, er5, h⟩ := gb2 h
      refine g_callWi (rest := []) C gX0_closeFile_X0_giveBack rfl ok_X0_giveBack ⟨by decide, by decide⟩ ⟨rfl, rfl⟩ 0 (by decide) rfl rfl (fun hI => cn_X0_giveBack X.2.1 Z ad hI d v1 er5) rfl dX0_closeFile_23 rfl (Nat.le_of_ble_eq_true rfl) ?_
      refine g_istore_n C dX0_closeFile_26 (by decide) [(2, .int r5), (0, .ref (ad 0)), (1, .int v1)] rfl ?_
      refine g_aload_n C dX0_closeFile_27 1 rfl ?_
      refine g_getf (v := .ref (ad 13)) C 0 (by decide) rfl rfl in_X0_closeFile 6 (by decide) fl_X0_closeFile_35 rfl dX0_closeFile_28 ?_
      refine g_iload_n C dX0_closeFile_31 2 rfl ?_
      refine g_aload_n C dX0_closeFile_32 1 rfl ?_
      refine g_getf (v := .ref (ad 11)) C 0 (by decide) rfl rfl in_X0_closeFile 5 (by decide) fl_X0_closeFile_32 rfl dX0_closeFile_33 ?_
      refine g_iload_n C dX0_closeFile_36 2 rfl ?_
      obtain ⟨r7, er7, h⟩ := gb1 h
      refine g_callVi (rest := [.int v1, .ref (ad 13)]) C gX0_closeFile_X3_at rfl ok_X3_at ⟨by decide, by decide⟩ ⟨rfl, rfl⟩ 11 2 (by decide) (adc := fun i => ad (11 + i)) (fun _ _ => rfl) (dskE_row 5 (by decide)) 0 (by decide) rfl rfl (fun hI => cn_X3_at X.2.1 Z (fun i => ad (11 + i)) hI 8 (d6 5) v1 er7) rfl dX0_closeFile_37 rfl (Nat.le_of_ble_eq_true rfl) (dskE Z.2.1 ad d6) (dskE_id 5 (by decide)) ?_
      obtain ⟨w8, ew8, h⟩ := gb1 h
      obtain ⟨d9, ed9, h⟩ := gl h
      refine g_callVv (rest := []) C gX0_closeFile_X3_put rfl ok_X3_put ⟨by decide, by decide⟩ ⟨rfl, rfl⟩ 13 2 (by decide) (adc := fun i => ad (13 + i)) (fun _ _ => rfl) (dskE_row 6 (by decide)) 0 (by decide) rfl rfl (fun hI => cn_X3_put X.2.1 Z (fun i => ad (13 + i)) hI 8 (d6 6) v1 r7 ew8) rfl dX0_closeFile_40 rfl (Nat.le_of_ble_eq_true rfl) (dskE Z.2.1 ad d9) (by rw [ed9]; exact (dskE_up 6 (by decide))) ?_
      refine g_aload_n C dX0_closeFile_43 1 rfl ?_
      refine g_getf (v := .ref (ad 7)) C 0 (by decide) rfl rfl in_X0_closeFile 3 (by decide) fl_X0_closeFile_26 rfl dX0_closeFile_44 ?_
      refine g_iload_n C dX0_closeFile_47 2 rfl ?_
      refine g_iconst (v := 1) C dX0_closeFile_48 (by decide) ?_
      obtain ⟨w10, ew10, h⟩ := gb1 h
      obtain ⟨d11, ed11, h⟩ := gl h
      refine g_callVv (rest := []) C gX0_closeFile_X3_put rfl ok_X3_put ⟨by decide, by decide⟩ ⟨rfl, rfl⟩ 7 2 (by decide) (adc := fun i => ad (7 + i)) (fun _ _ => rfl) (dskE_row 3 (by decide)) 0 (by decide) rfl rfl (fun hI => cn_X3_put X.2.1 Z (fun i => ad (7 + i)) hI 8 (d9 3) v1 1 ew10) rfl dX0_closeFile_49 rfl (Nat.le_of_ble_eq_true rfl) (dskE Z.2.1 ad d11) (by rw [ed11]; exact (dskE_up 3 (by decide))) ?_
      refine g_iload_n C dX0_closeFile_52 0 rfl ?_
      cases h
      exact g_iret C e dX0_closeFile_53
    · replace h := gi_pos c4 h
      refine g_bipush (v := (-4)) C dX0_closeFile_18 (by decide) ?_
      cases h
      exact g_iret C e dX0_closeFile_20
  · replace h := gi_pos c2 h
    refine g_iconst (v := (-1)) C dX0_closeFile_8 (by decide) ?_
    cases h
    exact g_iret C e dX0_closeFile_9
abbrev rm_X0_removeFile : Room := ({ frames := 2, cells := 0, slots := 0, locals := 45 } : Room)
def f_X0_removeFile (d : Nat → Nat → Int32) (v1 : Int32) : Option (Int32 × (Nat → Nat → Int32)) := gb (f_X0_isFile d v1) (fun r1 => if r1 = 0 then some ((-1), d) else gb (f_X0_isOpen d v1) (fun r3 => if r3 = 0 then gb (f_X3_at 8 (d 4) v1) (fun r5 => gb (f_X0_freeFrom d v1 0) (fun d6 => gb (f_X3_put 8 (d6 5) v1 0) (fun w7 => glet (va_up d6 5 w7) (fun d8 => gb (f_X3_put 8 (d8 3) v1 0) (fun w9 => glet (va_up d8 3 w9) (fun d10 => some (r5, d10))))))) else some ((-4), d)))
set_option maxRecDepth 20000 in
theorem in_X0_removeFile : ∀ w ∈ wsX00, w ∈ wsX0_removeFile := by decide +kernel
set_option maxRecDepth 20000 in
theorem fl_X0_removeFile_26 : Cond.fieldLink RX0 26 (TX0 3).1 (TX0 3).2.1 (TX0 3).2.2.1 ∈ wsX0_removeFile := by decide +kernel
set_option maxRecDepth 20000 in
theorem fl_X0_removeFile_32 : Cond.fieldLink RX0 32 (TX0 5).1 (TX0 5).2.1 (TX0 5).2.2.1 ∈ wsX0_removeFile := by decide +kernel
set_option maxRecDepth 20000 in
theorem fl_X0_removeFile_29 : Cond.fieldLink RX0 29 (TX0 4).1 (TX0 4).2.1 (TX0 4).2.2.1 ∈ wsX0_removeFile := by decide +kernel
set_option maxHeartbeats 4000000 in
set_option maxRecDepth 100000 in
theorem cn_X0_removeFile (l : Launch) (Z : gZ) (ad : Nat → Nat) (hI : gInj 21 ad) (d : Nat → Nat → Int32) (v1 : Int32) {r : Int32} {d' : Nat → Nat → Int32} (h : f_X0_removeFile d v1 = some (r, d')) : gI l yX0_removeFile wsX0_removeFile rm_X0_removeFile Z 21 ad [.ref (ad 0), .int v1] (dskE Z.2.1 ad d) r (dskE Z.2.1 ad d') := by
  refine g_entryI (cc := cX0_removeFile) (maxL := 3) (by decide +kernel) rfl hI (Nat.le_of_ble_eq_true rfl) (fun X C e => ?_)
  unfold f_X0_removeFile at h
  show GG X Z 3 21 ad (dskE Z.2.1 ad d) 0 [(0, .ref (ad 0)), (1, .int v1)] []
  refine g_aload_n C dX0_removeFile_0 0 rfl ?_
  refine g_iload_n C dX0_removeFile_1 1 rfl ?_
  obtain ⟨r1, er1, h⟩ := gb1 h
  refine g_callWi (rest := []) C gX0_removeFile_X0_isFile rfl ok_X0_isFile ⟨by decide, by decide⟩ ⟨rfl, rfl⟩ 0 (by decide) rfl rfl (fun hI => cn_X0_isFile X.2.1 Z ad hI d v1 er1) rfl dX0_removeFile_2 rfl (Nat.le_of_ble_eq_true rfl) ?_
  refine g_if_ne (tgt := 10) C dX0_removeFile_5 (by decide) (fun c2 => ?_) (fun c2 => ?_)
  · replace h := gi_neg c2 h
    refine g_aload_n C dX0_removeFile_10 0 rfl ?_
    refine g_iload_n C dX0_removeFile_11 1 rfl ?_
    obtain ⟨r3, er3, h⟩ := gb1 h
    refine g_callWi (rest := []) C gX0_removeFile_X0_isOpen rfl ok_X0_isOpen ⟨by decide, by decide⟩ ⟨rfl, rfl⟩ 0 (by decide) rfl rfl (fun hI => cn_X0_isOpen X.2.1 Z ad hI d v1 er3) rfl dX0_removeFile_12 rfl (Nat.le_of_ble_eq_true rfl) ?_
    refine g_if_eq (tgt := 21) C dX0_removeFile_15 (by decide) (fun c4 => ?_) (fun c4 => ?_)
    · replace h := gi_pos c4 h
      refine g_aload_n C dX0_removeFile_21 0 rfl ?_
      refine g_getf (v := .ref (ad 9)) C 0 (by decide) rfl rfl in_X0_removeFile 4 (by decide) fl_X0_removeFile_29 rfl dX0_removeFile_22 ?_
      refine g_iload_n C dX0_removeFile_25 1 rfl ?_
      obtain ⟨r5, er5, h⟩ := gb1 h
      refine g_callVi (rest := []) C gX0_removeFile_X3_at rfl ok_X3_at ⟨by decide, by decide⟩ ⟨rfl, rfl⟩ 9 2 (by decide) (adc := fun i => ad (9 + i)) (fun _ _ => rfl) (dskE_row 4 (by decide)) 0 (by decide) rfl rfl (fun hI => cn_X3_at X.2.1 Z (fun i => ad (9 + i)) hI 8 (d 4) v1 er5) rfl dX0_removeFile_26 rfl (Nat.le_of_ble_eq_true rfl) (dskE Z.2.1 ad d) (dskE_id 4 (by decide)) ?_
      refine g_istore_n C dX0_removeFile_29 (by decide) [(2, .int r5), (0, .ref (ad 0)), (1, .int v1)] rfl ?_
      refine g_aload_n C dX0_removeFile_30 1 rfl ?_
      refine g_iload_n C dX0_removeFile_31 2 rfl ?_
      refine g_iconst (v := 0) C dX0_removeFile_32 (by decide) ?_
      obtain ⟨d6, ed6, h⟩ := gb1 h
      refine g_callWv (rest := []) C gX0_removeFile_X0_freeFrom rfl ok_X0_freeFrom ⟨by decide, by decide⟩ ⟨rfl, rfl⟩ 0 (by decide) rfl rfl (fun hI => cn_X0_freeFrom X.2.1 Z ad hI d v1 0 ed6) rfl dX0_removeFile_33 rfl (Nat.le_of_ble_eq_true rfl) ?_
      refine g_aload_n C dX0_removeFile_36 1 rfl ?_
      refine g_getf (v := .ref (ad 11)) C 0 (by decide) rfl rfl in_X0_removeFile 5 (by decide) fl_X0_removeFile_32 rfl dX0_removeFile_37 ?_
      refine g_iload_n C dX0_removeFile_40 2 rfl ?_
      refine g_iconst (v := 0) C dX0_removeFile_41 (by decide) ?_
      obtain ⟨w7, ew7, h⟩ := gb1 h
      obtain ⟨d8, ed8, h⟩ := gl h
      refine g_callVv (rest := []) C gX0_removeFile_X3_put rfl ok_X3_put ⟨by decide, by decide⟩ ⟨rfl, rfl⟩ 11 2 (by decide) (adc := fun i => ad (11 + i)) (fun _ _ => rfl) (dskE_row 5 (by decide)) 0 (by decide) rfl rfl (fun hI => cn_X3_put X.2.1 Z (fun i => ad (11 + i)) hI 8 (d6 5) v1 0 ew7) rfl dX0_removeFile_42 rfl (Nat.le_of_ble_eq_true rfl) (dskE Z.2.1 ad d8) (by rw [ed8]; exact (dskE_up 5 (by decide))) ?_
      refine g_aload_n C dX0_removeFile_45 1 rfl ?_
      refine g_getf (v := .ref (ad 7)) C 0 (by decide) rfl rfl in_X0_removeFile 3 (by decide) fl_X0_removeFile_26 rfl dX0_removeFile_46 ?_
      refine g_iload_n C dX0_removeFile_49 2 rfl ?_
      refine g_iconst (v := 0) C dX0_removeFile_50 (by decide) ?_
      obtain ⟨w9, ew9, h⟩ := gb1 h
      obtain ⟨d10, ed10, h⟩ := gl h
      refine g_callVv (rest := []) C gX0_removeFile_X3_put rfl ok_X3_put ⟨by decide, by decide⟩ ⟨rfl, rfl⟩ 7 2 (by decide) (adc := fun i => ad (7 + i)) (fun _ _ => rfl) (dskE_row 3 (by decide)) 0 (by decide) rfl rfl (fun hI => cn_X3_put X.2.1 Z (fun i => ad (7 + i)) hI 8 (d8 3) v1 0 ew9) rfl dX0_removeFile_51 rfl (Nat.le_of_ble_eq_true rfl) (dskE Z.2.1 ad d10) (by rw [ed10]; exact (dskE_up 3 (by decide))) ?_
      refine g_iload_n C dX0_removeFile_54 0 rfl ?_
      cases h
      exact g_iret C e dX0_removeFile_55
    · replace h := gi_neg c4 h
      refine g_bipush (v := (-4)) C dX0_removeFile_18 (by decide) ?_
      cases h
      exact g_iret C e dX0_removeFile_20
  · replace h := gi_pos c2 h
    refine g_iconst (v := (-1)) C dX0_removeFile_8 (by decide) ?_
    cases h
    exact g_iret C e dX0_removeFile_9
abbrev rm_X0_syncFile : Room := ({ frames := 2, cells := 0, slots := 0, locals := 43 } : Room)
def f_X0_syncFile (d : Nat → Nat → Int32) (v1 : Int32) : Option (Int32 × (Nat → Nat → Int32)) := gb (f_X0_isFile d v1) (fun r1 => if r1 = 0 then some ((-1), d) else gb (f_X0_isOpen d v1) (fun r3 => if r3 = 0 then some ((-4), d) else gb (f_X3_at 8 (d 5) v1) (fun r5 => gb (f_X3_at 8 (d 6) v1) (fun r6 => glet (r5 - r6) (fun x7 => gb (f_X3_at 8 (d 5) v1) (fun r8 => gb (f_X3_put 8 (d 6) v1 r8) (fun w9 => glet (va_up d 6 w9) (fun d10 => some (x7, d10)))))))))
set_option maxRecDepth 20000 in
theorem in_X0_syncFile : ∀ w ∈ wsX00, w ∈ wsX0_syncFile := by decide +kernel
set_option maxRecDepth 20000 in
theorem fl_X0_syncFile_32 : Cond.fieldLink RX0 32 (TX0 5).1 (TX0 5).2.1 (TX0 5).2.2.1 ∈ wsX0_syncFile := by decide +kernel
set_option maxRecDepth 20000 in
theorem fl_X0_syncFile_35 : Cond.fieldLink RX0 35 (TX0 6).1 (TX0 6).2.1 (TX0 6).2.2.1 ∈ wsX0_syncFile := by decide +kernel
set_option maxHeartbeats 4000000 in
set_option maxRecDepth 100000 in
theorem cn_X0_syncFile (l : Launch) (Z : gZ) (ad : Nat → Nat) (hI : gInj 21 ad) (d : Nat → Nat → Int32) (v1 : Int32) {r : Int32} {d' : Nat → Nat → Int32} (h : f_X0_syncFile d v1 = some (r, d')) : gI l yX0_syncFile wsX0_syncFile rm_X0_syncFile Z 21 ad [.ref (ad 0), .int v1] (dskE Z.2.1 ad d) r (dskE Z.2.1 ad d') := by
  refine g_entryI (cc := cX0_syncFile) (maxL := 3) (by decide +kernel) rfl hI (Nat.le_of_ble_eq_true rfl) (fun X C e => ?_)
  unfold f_X0_syncFile at h
  show GG X Z 3 21 ad (dskE Z.2.1 ad d) 0 [(0, .ref (ad 0)), (1, .int v1)] []
  refine g_aload_n C dX0_syncFile_0 0 rfl ?_
  refine g_iload_n C dX0_syncFile_1 1 rfl ?_
  obtain ⟨r1, er1, h⟩ := gb1 h
  refine g_callWi (rest := []) C gX0_syncFile_X0_isFile rfl ok_X0_isFile ⟨by decide, by decide⟩ ⟨rfl, rfl⟩ 0 (by decide) rfl rfl (fun hI => cn_X0_isFile X.2.1 Z ad hI d v1 er1) rfl dX0_syncFile_2 rfl (Nat.le_of_ble_eq_true rfl) ?_
  refine g_if_ne (tgt := 10) C dX0_syncFile_5 (by decide) (fun c2 => ?_) (fun c2 => ?_)
  · replace h := gi_neg c2 h
    refine g_aload_n C dX0_syncFile_10 0 rfl ?_
    refine g_iload_n C dX0_syncFile_11 1 rfl ?_
    obtain ⟨r3, er3, h⟩ := gb1 h
    refine g_callWi (rest := []) C gX0_syncFile_X0_isOpen rfl ok_X0_isOpen ⟨by decide, by decide⟩ ⟨rfl, rfl⟩ 0 (by decide) rfl rfl (fun hI => cn_X0_isOpen X.2.1 Z ad hI d v1 er3) rfl dX0_syncFile_12 rfl (Nat.le_of_ble_eq_true rfl) ?_
    refine g_if_ne (tgt := 21) C dX0_syncFile_15 (by decide) (fun c4 => ?_) (fun c4 => ?_)
    · replace h := gi_neg c4 h
      refine g_aload_n C dX0_syncFile_21 0 rfl ?_
      refine g_getf (v := .ref (ad 11)) C 0 (by decide) rfl rfl in_X0_syncFile 5 (by decide) fl_X0_syncFile_32 rfl dX0_syncFile_22 ?_
      refine g_iload_n C dX0_syncFile_25 1 rfl ?_
      obtain ⟨r5, er5, h⟩ := gb1 h
      refine g_callVi (rest := []) C gX0_syncFile_X3_at rfl ok_X3_at ⟨by decide, by decide⟩ ⟨rfl, rfl⟩ 11 2 (by decide) (adc := fun i => ad (11 + i)) (fun _ _ => rfl) (dskE_row 5 (by decide)) 0 (by decide) rfl rfl (fun hI => cn_X3_at X.2.1 Z (fun i => ad (11 + i)) hI 8 (d 5) v1 er5) rfl dX0_syncFile_26 rfl (Nat.le_of_ble_eq_true rfl) (dskE Z.2.1 ad d) (dskE_id 5 (by decide)) ?_
      refine g_aload_n C dX0_syncFile_29 0 rfl ?_
      refine g_getf (v := .ref (ad 13)) C 0 (by decide) rfl rfl in_X0_syncFile 6 (by decide) fl_X0_syncFile_35 rfl dX0_syncFile_30 ?_
      refine g_iload_n C dX0_syncFile_33 1 rfl ?_
      obtain ⟨r6, er6, h⟩ := gb1 h
      refine g_callVi (rest := [.int r5]) C gX0_syncFile_X3_at rfl ok_X3_at ⟨by decide, by decide⟩ ⟨rfl, rfl⟩ 13 2 (by decide) (adc := fun i => ad (13 + i)) (fun _ _ => rfl) (dskE_row 6 (by decide)) 0 (by decide) rfl rfl (fun hI => cn_X3_at X.2.1 Z (fun i => ad (13 + i)) hI 8 (d 6) v1 er6) rfl dX0_syncFile_34 rfl (Nat.le_of_ble_eq_true rfl) (dskE Z.2.1 ad d) (dskE_id 6 (by decide)) ?_
      refine g_isub C dX0_syncFile_37 ?_
      obtain ⟨x7, ex7, h⟩ := gl h
      refine g_istore_n C dX0_syncFile_38 (by decide) [(2, .int x7), (0, .ref (ad 0)), (1, .int v1)] (by rw [ex7]; rfl) ?_
      refine g_aload_n C dX0_syncFile_39 1 rfl ?_
      refine g_getf (v := .ref (ad 13)) C 0 (by decide) rfl rfl in_X0_syncFile 6 (by decide) fl_X0_syncFile_35 rfl dX0_syncFile_40 ?_
      refine g_iload_n C dX0_syncFile_43 2 rfl ?_
      refine g_aload_n C dX0_syncFile_44 1 rfl ?_
      refine g_getf (v := .ref (ad 11)) C 0 (by decide) rfl rfl in_X0_syncFile 5 (by decide) fl_X0_syncFile_32 rfl dX0_syncFile_45 ?_
      refine g_iload_n C dX0_syncFile_48 2 rfl ?_
      obtain ⟨r8, er8, h⟩ := gb1 h
      refine g_callVi (rest := [.int v1, .ref (ad 13)]) C gX0_syncFile_X3_at rfl ok_X3_at ⟨by decide, by decide⟩ ⟨rfl, rfl⟩ 11 2 (by decide) (adc := fun i => ad (11 + i)) (fun _ _ => rfl) (dskE_row 5 (by decide)) 0 (by decide) rfl rfl (fun hI => cn_X3_at X.2.1 Z (fun i => ad (11 + i)) hI 8 (d 5) v1 er8) rfl dX0_syncFile_49 rfl (Nat.le_of_ble_eq_true rfl) (dskE Z.2.1 ad d) (dskE_id 5 (by decide)) ?_
      obtain ⟨w9, ew9, h⟩ := gb1 h
      obtain ⟨d10, ed10, h⟩ := gl h
      refine g_callVv (rest := []) C gX0_syncFile_X3_put rfl ok_X3_put ⟨by decide, by decide⟩ ⟨rfl, rfl⟩ 13 2 (by decide) (adc := fun i => ad (13 + i)) (fun _ _ => rfl) (dskE_row 6 (by decide)) 0 (by decide) rfl rfl (fun hI => cn_X3_put X.2.1 Z (fun i => ad (13 + i)) hI 8 (d 6) v1 r8 ew9) rfl dX0_syncFile_52 rfl (Nat.le_of_ble_eq_true rfl) (dskE Z.2.1 ad d10) (by rw [ed10]; exact (dskE_up 6 (by decide))) ?_
      refine g_iload_n C dX0_syncFile_55 0 rfl ?_
      cases h
      exact g_iret C e dX0_syncFile_56
    · replace h := gi_pos c4 h
      refine g_bipush (v := (-4)) C dX0_syncFile_18 (by decide) ?_
      cases h
      exact g_iret C e dX0_syncFile_20
  · replace h := gi_pos c2 h
    refine g_iconst (v := (-1)) C dX0_syncFile_8 (by decide) ?_
    cases h
    exact g_iret C e dX0_syncFile_9
abbrev rm_X0_dataBlocks : Room := ({ frames := 1, cells := 0, slots := 0, locals := 21 } : Room)
def f_X0_dataBlocks_L4 (d : Nat → Nat → Int32) : Nat → Int32 → Int32 → Option Int32
  | 0, _, _ => none
  | fu + 1, v1, v2 => if 8 ≤ v2 then some v1 else gb (f_X3_at 8 (d 5) v2) (fun r2 => glet (v1 + r2) (fun x3 => glet (v2 + 1) (fun x4 => f_X0_dataBlocks_L4 d fu x3 x4)))
def f_X0_dataBlocks (d : Nat → Nat → Int32) : Option Int32 := f_X0_dataBlocks_L4 d gFu 0 0
set_option maxRecDepth 20000 in
theorem in_X0_dataBlocks : ∀ w ∈ wsX00, w ∈ wsX0_dataBlocks := by decide +kernel
set_option maxRecDepth 20000 in
theorem fl_X0_dataBlocks_32 : Cond.fieldLink RX0 32 (TX0 5).1 (TX0 5).2.1 (TX0 5).2.2.1 ∈ wsX0_dataBlocks := by decide +kernel
set_option maxHeartbeats 4000000 in
set_option maxRecDepth 100000 in
theorem cl_X0_dataBlocks_L4 {X : gX} {Z : gZ} {ad : Nat → Nat} {d : Nat → Nat → Int32} {r : Int32} (C : GC X Z cX0_dataBlocks 3 wsX0_dataBlocks RX0 rm_X0_dataBlocks 21 ad) (e : gEI X Z 21 ad .int r (dskE Z.2.1 ad d))  : ∀ (fu : Nat) (v1 : Int32) (v2 : Int32) (h : f_X0_dataBlocks_L4 d fu v1 v2 = some r), GG X Z 3 21 ad (dskE Z.2.1 ad d) 4 [(0, .ref (ad 0)), (1, .int v1), (2, .int v2)] [] := by
  intro fu
  induction fu with
  | zero => intro v1 v2 h; cases h
  | succ fu ih =>
    intro v1 v2 h
    rw [f_X0_dataBlocks_L4] at h
    refine g_iload_n C dX0_dataBlocks_4 2 rfl ?_
    refine g_bipush (v := 8) C dX0_dataBlocks_5 (by decide) ?_
    refine g_icmp_ge (tgt := 27) C dX0_dataBlocks_7 (by decide) (fun c1 => ?_) (fun c1 => ?_)
    · replace h := gi_pos c1 h
      refine g_iload_n C dX0_dataBlocks_27 1 rfl ?_
      cases h
      exact g_iret C e dX0_dataBlocks_28
    · replace h := gi_neg c1 h
      refine g_iload_n C dX0_dataBlocks_10 1 rfl ?_
      refine g_aload_n C dX0_dataBlocks_11 0 rfl ?_
      refine g_getf (v := .ref (ad 11)) C 0 (by decide) rfl rfl in_X0_dataBlocks 5 (by decide) fl_X0_dataBlocks_32 rfl dX0_dataBlocks_12 ?_
      refine g_iload_n C dX0_dataBlocks_15 2 rfl ?_
      obtain ⟨r2, er2, h⟩ := gb1 h
      refine g_callVi (rest := [.int v1]) C gX0_dataBlocks_X3_at rfl ok_X3_at ⟨by decide, by decide⟩ ⟨rfl, rfl⟩ 11 2 (by decide) (adc := fun i => ad (11 + i)) (fun _ _ => rfl) (dskE_row 5 (by decide)) 0 (by decide) rfl rfl (fun hI => cn_X3_at X.2.1 Z (fun i => ad (11 + i)) hI 8 (d 5) v2 er2) rfl dX0_dataBlocks_16 rfl (Nat.le_of_ble_eq_true rfl) (dskE Z.2.1 ad d) (dskE_id 5 (by decide)) ?_
      refine g_iadd C dX0_dataBlocks_19 ?_
      obtain ⟨x3, ex3, h⟩ := gl h
      refine g_istore_n C dX0_dataBlocks_20 (by decide) [(1, .int x3), (0, .ref (ad 0)), (2, .int v2)] (by rw [ex3]; rfl) ?_
      obtain ⟨x4, ex4, h⟩ := gl h
      refine g_iinc (v := x4) C dX0_dataBlocks_21 2 rfl (by rw [ex4]; rfl) (by decide) [(2, .int x4), (1, .int x3), (0, .ref (ad 0))] rfl ?_
      refine g_goto (tgt := 4) C dX0_dataBlocks_24 (by decide) ?_
      exact g_sub [2, 1, 0] rfl (ih x3 x4 h)
set_option maxHeartbeats 4000000 in
set_option maxRecDepth 100000 in
theorem cn_X0_dataBlocks (l : Launch) (Z : gZ) (ad : Nat → Nat) (hI : gInj 21 ad) (d : Nat → Nat → Int32) {r : Int32} (h : f_X0_dataBlocks d = some r) : gI l yX0_dataBlocks wsX0_dataBlocks rm_X0_dataBlocks Z 21 ad [.ref (ad 0)] (dskE Z.2.1 ad d) r (dskE Z.2.1 ad d) := by
  refine g_entryI (cc := cX0_dataBlocks) (maxL := 3) (by decide +kernel) rfl hI (Nat.le_of_ble_eq_true rfl) (fun X C e => ?_)
  unfold f_X0_dataBlocks at h
  show GG X Z 3 21 ad (dskE Z.2.1 ad d) 0 [(0, .ref (ad 0))] []
  refine g_iconst (v := 0) C dX0_dataBlocks_0 (by decide) ?_
  refine g_istore_n C dX0_dataBlocks_1 (by decide) [(1, .int 0), (0, .ref (ad 0))] rfl ?_
  refine g_iconst (v := 0) C dX0_dataBlocks_2 (by decide) ?_
  refine g_istore_n C dX0_dataBlocks_3 (by decide) [(2, .int 0), (1, .int 0), (0, .ref (ad 0))] rfl ?_
  exact g_sub [2, 1, 0] rfl (cl_X0_dataBlocks_L4 C e gFu 0 0 h)
abbrev rm_X0_blocksWithoutData : Room := ({ frames := 2, cells := 0, slots := 0, locals := 43 } : Room)
def f_X0_blocksWithoutData (d : Nat → Nat → Int32) : Option Int32 := gb (f_X0_dataBlocks d) (fun r1 => some (64 - r1))
set_option maxHeartbeats 4000000 in
set_option maxRecDepth 100000 in
theorem cn_X0_blocksWithoutData (l : Launch) (Z : gZ) (ad : Nat → Nat) (hI : gInj 21 ad) (d : Nat → Nat → Int32) {r : Int32} (h : f_X0_blocksWithoutData d = some r) : gI l yX0_blocksWithoutData wsX0_blocksWithoutData rm_X0_blocksWithoutData Z 21 ad [.ref (ad 0)] (dskE Z.2.1 ad d) r (dskE Z.2.1 ad d) := by
  refine g_entryI (cc := cX0_blocksWithoutData) (maxL := 1) (by decide +kernel) rfl hI (Nat.le_of_ble_eq_true rfl) (fun X C e => ?_)
  unfold f_X0_blocksWithoutData at h
  show GG X Z 1 21 ad (dskE Z.2.1 ad d) 0 [(0, .ref (ad 0))] []
  refine g_bipush (v := 64) C dX0_blocksWithoutData_0 (by decide) ?_
  refine g_aload_n C dX0_blocksWithoutData_2 0 rfl ?_
  obtain ⟨r1, er1, h⟩ := gb1 h
  refine g_callWi (rest := [.int 64]) C gX0_blocksWithoutData_X0_dataBlocks rfl ok_X0_dataBlocks ⟨by decide, by decide⟩ ⟨rfl, rfl⟩ 0 (by decide) rfl rfl (fun hI => cn_X0_dataBlocks X.2.1 Z ad hI d  er1) rfl dX0_blocksWithoutData_3 rfl (Nat.le_of_ble_eq_true rfl) ?_
  refine g_isub C dX0_blocksWithoutData_6 ?_
  cases h
  exact g_iret C e dX0_blocksWithoutData_7
abbrev rm_X0_freeBlocks : Room := ({ frames := 1, cells := 0, slots := 0, locals := 22 } : Room)
def f_X0_freeBlocks_L4 (d : Nat → Nat → Int32) : Nat → Int32 → Int32 → Option Int32
  | 0, _, _ => none
  | fu + 1, v1, v2 => if 64 ≤ v2 then some v1 else gb (f_X3_holds 64 (d 1) v2 (-5)) (fun r2 => if r2 = 0 then glet (v2 + 1) (fun x4 => f_X0_freeBlocks_L4 d fu v1 x4) else glet (v1 + 1) (fun x5 => glet (v2 + 1) (fun x6 => f_X0_freeBlocks_L4 d fu x5 x6)))
def f_X0_freeBlocks (d : Nat → Nat → Int32) : Option Int32 := f_X0_freeBlocks_L4 d gFu 0 0
set_option maxRecDepth 20000 in
theorem in_X0_freeBlocks : ∀ w ∈ wsX00, w ∈ wsX0_freeBlocks := by decide +kernel
set_option maxRecDepth 20000 in
theorem fl_X0_freeBlocks_20 : Cond.fieldLink RX0 20 (TX0 1).1 (TX0 1).2.1 (TX0 1).2.2.1 ∈ wsX0_freeBlocks := by decide +kernel
set_option maxHeartbeats 4000000 in
set_option maxRecDepth 100000 in
theorem cl_X0_freeBlocks_L4 {X : gX} {Z : gZ} {ad : Nat → Nat} {d : Nat → Nat → Int32} {r : Int32} (C : GC X Z cX0_freeBlocks 3 wsX0_freeBlocks RX0 rm_X0_freeBlocks 21 ad) (e : gEI X Z 21 ad .int r (dskE Z.2.1 ad d))  : ∀ (fu : Nat) (v1 : Int32) (v2 : Int32) (h : f_X0_freeBlocks_L4 d fu v1 v2 = some r), GG X Z 3 21 ad (dskE Z.2.1 ad d) 4 [(0, .ref (ad 0)), (1, .int v1), (2, .int v2)] [] := by
  intro fu
  induction fu with
  | zero => intro v1 v2 h; cases h
  | succ fu ih =>
    intro v1 v2 h
    rw [f_X0_freeBlocks_L4] at h
    refine g_iload_n C dX0_freeBlocks_4 2 rfl ?_
    refine g_bipush (v := 64) C dX0_freeBlocks_5 (by decide) ?_
    refine g_icmp_ge (tgt := 32) C dX0_freeBlocks_7 (by decide) (fun c1 => ?_) (fun c1 => ?_)
    · replace h := gi_pos c1 h
      refine g_iload_n C dX0_freeBlocks_32 1 rfl ?_
      cases h
      exact g_iret C e dX0_freeBlocks_33
    · replace h := gi_neg c1 h
      refine g_aload_n C dX0_freeBlocks_10 0 rfl ?_
      refine g_getf (v := .ref (ad 3)) C 0 (by decide) rfl rfl in_X0_freeBlocks 1 (by decide) fl_X0_freeBlocks_20 rfl dX0_freeBlocks_11 ?_
      refine g_iload_n C dX0_freeBlocks_14 2 rfl ?_
      refine g_bipush (v := (-5)) C dX0_freeBlocks_15 (by decide) ?_
      obtain ⟨r2, er2, h⟩ := gb1 h
      refine g_callVi (rest := []) C gX0_freeBlocks_X3_holds rfl ok_X3_holds ⟨by decide, by decide⟩ ⟨rfl, rfl⟩ 3 2 (by decide) (adc := fun i => ad (3 + i)) (fun _ _ => rfl) (dskE_row 1 (by decide)) 0 (by decide) rfl rfl (fun hI => cn_X3_holds X.2.1 Z (fun i => ad (3 + i)) hI 64 (d 1) v2 (-5) er2) rfl dX0_freeBlocks_17 rfl (Nat.le_of_ble_eq_true rfl) (dskE Z.2.1 ad d) (dskE_id 1 (by decide)) ?_
      refine g_if_eq (tgt := 26) C dX0_freeBlocks_20 (by decide) (fun c3 => ?_) (fun c3 => ?_)
      · replace h := gi_pos c3 h
        obtain ⟨x4, ex4, h⟩ := gl h
        refine g_iinc (v := x4) C dX0_freeBlocks_26 2 rfl (by rw [ex4]; rfl) (by decide) [(2, .int x4), (0, .ref (ad 0)), (1, .int v1)] rfl ?_
        refine g_goto (tgt := 4) C dX0_freeBlocks_29 (by decide) ?_
        exact g_sub [1, 2, 0] rfl (ih v1 x4 h)
      · replace h := gi_neg c3 h
        obtain ⟨x5, ex5, h⟩ := gl h
        refine g_iinc (v := x5) C dX0_freeBlocks_23 1 rfl (by rw [ex5]; rfl) (by decide) [(1, .int x5), (0, .ref (ad 0)), (2, .int v2)] rfl ?_
        obtain ⟨x6, ex6, h⟩ := gl h
        refine g_iinc (v := x6) C dX0_freeBlocks_26 2 rfl (by rw [ex6]; rfl) (by decide) [(2, .int x6), (1, .int x5), (0, .ref (ad 0))] rfl ?_
        refine g_goto (tgt := 4) C dX0_freeBlocks_29 (by decide) ?_
        exact g_sub [2, 1, 0] rfl (ih x5 x6 h)
set_option maxHeartbeats 4000000 in
set_option maxRecDepth 100000 in
theorem cn_X0_freeBlocks (l : Launch) (Z : gZ) (ad : Nat → Nat) (hI : gInj 21 ad) (d : Nat → Nat → Int32) {r : Int32} (h : f_X0_freeBlocks d = some r) : gI l yX0_freeBlocks wsX0_freeBlocks rm_X0_freeBlocks Z 21 ad [.ref (ad 0)] (dskE Z.2.1 ad d) r (dskE Z.2.1 ad d) := by
  refine g_entryI (cc := cX0_freeBlocks) (maxL := 3) (by decide +kernel) rfl hI (Nat.le_of_ble_eq_true rfl) (fun X C e => ?_)
  unfold f_X0_freeBlocks at h
  show GG X Z 3 21 ad (dskE Z.2.1 ad d) 0 [(0, .ref (ad 0))] []
  refine g_iconst (v := 0) C dX0_freeBlocks_0 (by decide) ?_
  refine g_istore_n C dX0_freeBlocks_1 (by decide) [(1, .int 0), (0, .ref (ad 0))] rfl ?_
  refine g_iconst (v := 0) C dX0_freeBlocks_2 (by decide) ?_
  refine g_istore_n C dX0_freeBlocks_3 (by decide) [(2, .int 0), (1, .int 0), (0, .ref (ad 0))] rfl ?_
  exact g_sub [2, 1, 0] rfl (cl_X0_freeBlocks_L4 C e gFu 0 0 h)
abbrev rm_X0_greatestLender : Room := ({ frames := 2, cells := 0, slots := 0, locals := 42 } : Room)
def f_X0_greatestLender_L8 (d : Nat → Nat → Int32) (v1 : Int32) : Nat → Int32 → Int32 → Int32 → Option Int32
  | 0, _, _, _ => none
  | fu + 1, v2, v3, v4 => if 8 ≤ v4 then some v2 else if v4 = v1 then glet (v4 + 1) (fun x3 => f_X0_greatestLender_L8 d v1 fu v2 v3 x3) else gb (f_X0_lentOf d v4) (fun r4 => if r4 ≤ v3 then glet (v4 + 1) (fun x6 => f_X0_greatestLender_L8 d v1 fu v2 v3 x6) else gb (f_X0_lentOf d v4) (fun r7 => glet (v4 + 1) (fun x8 => f_X0_greatestLender_L8 d v1 fu v4 r7 x8)))
def f_X0_greatestLender (d : Nat → Nat → Int32) (v1 : Int32) : Option Int32 := f_X0_greatestLender_L8 d v1 gFu (-5) 0 0
set_option maxHeartbeats 4000000 in
set_option maxRecDepth 100000 in
theorem cl_X0_greatestLender_L8 {X : gX} {Z : gZ} {ad : Nat → Nat} {d : Nat → Nat → Int32} {r : Int32} (C : GC X Z cX0_greatestLender 5 wsX0_greatestLender RX0 rm_X0_greatestLender 21 ad) (e : gEI X Z 21 ad .int r (dskE Z.2.1 ad d)) (v1 : Int32) : ∀ (fu : Nat) (v2 : Int32) (v3 : Int32) (v4 : Int32) (h : f_X0_greatestLender_L8 d v1 fu v2 v3 v4 = some r), GG X Z 5 21 ad (dskE Z.2.1 ad d) 8 [(0, .ref (ad 0)), (1, .int v1), (2, .int v2), (3, .int v3), (4, .int v4)] [] := by
  intro fu
  induction fu with
  | zero => intro v2 v3 v4 h; cases h
  | succ fu ih =>
    intro v2 v3 v4 h
    rw [f_X0_greatestLender_L8] at h
    refine g_iload C dX0_greatestLender_8 4 rfl ?_
    refine g_bipush (v := 8) C dX0_greatestLender_10 (by decide) ?_
    refine g_icmp_ge (tgt := 47) C dX0_greatestLender_12 (by decide) (fun c1 => ?_) (fun c1 => ?_)
    · replace h := gi_pos c1 h
      refine g_iload_n C dX0_greatestLender_47 2 rfl ?_
      cases h
      exact g_iret C e dX0_greatestLender_48
    · replace h := gi_neg c1 h
      refine g_iload C dX0_greatestLender_15 4 rfl ?_
      refine g_iload_n C dX0_greatestLender_17 1 rfl ?_
      refine g_icmp_eq (tgt := 41) C dX0_greatestLender_18 (by decide) (fun c2 => ?_) (fun c2 => ?_)
      · replace h := gi_pos c2 h
        obtain ⟨x3, ex3, h⟩ := gl h
        refine g_iinc (v := x3) C dX0_greatestLender_41 4 rfl (by rw [ex3]; rfl) (by decide) [(4, .int x3), (0, .ref (ad 0)), (1, .int v1), (2, .int v2), (3, .int v3)] rfl ?_
        refine g_goto (tgt := 8) C dX0_greatestLender_44 (by decide) ?_
        exact g_sub [1, 2, 3, 4, 0] rfl (ih v2 v3 x3 h)
      · replace h := gi_neg c2 h
        refine g_aload_n C dX0_greatestLender_21 0 rfl ?_
        refine g_iload C dX0_greatestLender_22 4 rfl ?_
        obtain ⟨r4, er4, h⟩ := gb1 h
        refine g_callWi (rest := []) C gX0_greatestLender_X0_lentOf rfl ok_X0_lentOf ⟨by decide, by decide⟩ ⟨rfl, rfl⟩ 0 (by decide) rfl rfl (fun hI => cn_X0_lentOf X.2.1 Z ad hI d v4 er4) rfl dX0_greatestLender_24 rfl (Nat.le_of_ble_eq_true rfl) ?_
        refine g_iload_n C dX0_greatestLender_27 3 rfl ?_
        refine g_icmp_le (tgt := 41) C dX0_greatestLender_28 (by decide) (fun c5 => ?_) (fun c5 => ?_)
        · replace h := gi_pos c5 h
          obtain ⟨x6, ex6, h⟩ := gl h
          refine g_iinc (v := x6) C dX0_greatestLender_41 4 rfl (by rw [ex6]; rfl) (by decide) [(4, .int x6), (0, .ref (ad 0)), (1, .int v1), (2, .int v2), (3, .int v3)] rfl ?_
          refine g_goto (tgt := 8) C dX0_greatestLender_44 (by decide) ?_
          exact g_sub [1, 2, 3, 4, 0] rfl (ih v2 v3 x6 h)
        · replace h := gi_neg c5 h
          refine g_iload C dX0_greatestLender_31 4 rfl ?_
          refine g_istore_n C dX0_greatestLender_33 (by decide) [(2, .int v4), (0, .ref (ad 0)), (1, .int v1), (3, .int v3), (4, .int v4)] rfl ?_
          refine g_aload_n C dX0_greatestLender_34 1 rfl ?_
          refine g_iload C dX0_greatestLender_35 4 rfl ?_
          obtain ⟨r7, er7, h⟩ := gb1 h
          refine g_callWi (rest := []) C gX0_greatestLender_X0_lentOf rfl ok_X0_lentOf ⟨by decide, by decide⟩ ⟨rfl, rfl⟩ 0 (by decide) rfl rfl (fun hI => cn_X0_lentOf X.2.1 Z ad hI d v4 er7) rfl dX0_greatestLender_37 rfl (Nat.le_of_ble_eq_true rfl) ?_
          refine g_istore_n C dX0_greatestLender_40 (by decide) [(3, .int r7), (2, .int v4), (0, .ref (ad 0)), (1, .int v1), (4, .int v4)] rfl ?_
          obtain ⟨x8, ex8, h⟩ := gl h
          refine g_iinc (v := x8) C dX0_greatestLender_41 4 rfl (by rw [ex8]; rfl) (by decide) [(4, .int x8), (3, .int r7), (2, .int v4), (0, .ref (ad 0)), (1, .int v1)] rfl ?_
          refine g_goto (tgt := 8) C dX0_greatestLender_44 (by decide) ?_
          exact g_sub [3, 4, 2, 1, 0] rfl (ih v4 r7 x8 h)
set_option maxHeartbeats 4000000 in
set_option maxRecDepth 100000 in
theorem cn_X0_greatestLender (l : Launch) (Z : gZ) (ad : Nat → Nat) (hI : gInj 21 ad) (d : Nat → Nat → Int32) (v1 : Int32) {r : Int32} (h : f_X0_greatestLender d v1 = some r) : gI l yX0_greatestLender wsX0_greatestLender rm_X0_greatestLender Z 21 ad [.ref (ad 0), .int v1] (dskE Z.2.1 ad d) r (dskE Z.2.1 ad d) := by
  refine g_entryI (cc := cX0_greatestLender) (maxL := 5) (by decide +kernel) rfl hI (Nat.le_of_ble_eq_true rfl) (fun X C e => ?_)
  unfold f_X0_greatestLender at h
  show GG X Z 5 21 ad (dskE Z.2.1 ad d) 0 [(0, .ref (ad 0)), (1, .int v1)] []
  refine g_bipush (v := (-5)) C dX0_greatestLender_0 (by decide) ?_
  refine g_istore_n C dX0_greatestLender_2 (by decide) [(2, .int (-5)), (0, .ref (ad 0)), (1, .int v1)] rfl ?_
  refine g_iconst (v := 0) C dX0_greatestLender_3 (by decide) ?_
  refine g_istore_n C dX0_greatestLender_4 (by decide) [(3, .int 0), (2, .int (-5)), (0, .ref (ad 0)), (1, .int v1)] rfl ?_
  refine g_iconst (v := 0) C dX0_greatestLender_5 (by decide) ?_
  refine g_istore C dX0_greatestLender_6 (by decide) [(4, .int 0), (3, .int 0), (2, .int (-5)), (0, .ref (ad 0)), (1, .int v1)] rfl ?_
  exact g_sub [3, 4, 2, 1, 0] rfl (cl_X0_greatestLender_L8 C e v1 gFu (-5) 0 0 h)
abbrev rm_X0_takeBack : Room := ({ frames := 3, cells := 0, slots := 0, locals := 67 } : Room)
def f_X0_takeBack_L2 (v1 : Int32) (v2 : Int32) : Nat → Int32 → (Nat → Nat → Int32) → Option ((Nat → Nat → Int32))
  | 0, _, _ => none
  | fu + 1, v3, d => if 8 ≤ v3 then some d else gb (f_X0_freeBlocks d) (fun r2 => if v2 ≤ r2 then some d else gb (f_X0_greatestLender d v1) (fun r4 => if r4 = (-5) then some d else gbb2 (f_X0_giveBack d r4) (fun r6 d7 => gb (f_X3_grow 4 (d7 9) 2 1) (fun w8 => glet (va_up d7 9 w8) (fun d9 => glet (v3 + 1) (fun x10 => f_X0_takeBack_L2 v1 v2 fu x10 d9))))))
def f_X0_takeBack (d : Nat → Nat → Int32) (v1 : Int32) (v2 : Int32) : Option ((Nat → Nat → Int32)) := f_X0_takeBack_L2 v1 v2 gFu 0 d
set_option maxRecDepth 20000 in
theorem in_X0_takeBack : ∀ w ∈ wsX00, w ∈ wsX0_takeBack := by decide +kernel
set_option maxRecDepth 20000 in
theorem fl_X0_takeBack_44 : Cond.fieldLink RX0 44 (TX0 9).1 (TX0 9).2.1 (TX0 9).2.2.1 ∈ wsX0_takeBack := by decide +kernel
set_option maxHeartbeats 4000000 in
set_option maxRecDepth 100000 in
theorem cl_X0_takeBack_L2 {X : gX} {Z : gZ} {ad : Nat → Nat}  {d' : Nat → Nat → Int32} (C : GC X Z cX0_takeBack 5 wsX0_takeBack RX0 rm_X0_takeBack 21 ad) (e : gEV X Z 21 ad (dskE Z.2.1 ad d')) (v1 : Int32) (v2 : Int32) : ∀ (fu : Nat) (v3 : Int32) (d : Nat → Nat → Int32) (h : f_X0_takeBack_L2 v1 v2 fu v3 d = some d'), GG X Z 5 21 ad (dskE Z.2.1 ad d) 2 [(0, .ref (ad 0)), (1, .int v1), (2, .int v2), (3, .int v3)] [] := by
  intro fu
  induction fu with
  | zero => intro v3 d h; cases h
  | succ fu ih =>
    intro v3 d h
    rw [f_X0_takeBack_L2] at h
    refine g_iload_n C dX0_takeBack_2 3 rfl ?_
    refine g_bipush (v := 8) C dX0_takeBack_3 (by decide) ?_
    refine g_icmp_ge (tgt := 53) C dX0_takeBack_5 (by decide) (fun c1 => ?_) (fun c1 => ?_)
    · replace h := gi_pos c1 h
      cases h
      exact g_vret C e dX0_takeBack_53
    · replace h := gi_neg c1 h
      refine g_aload_n C dX0_takeBack_8 0 rfl ?_
      obtain ⟨r2, er2, h⟩ := gb1 h
      refine g_callWi (rest := []) C gX0_takeBack_X0_freeBlocks rfl ok_X0_freeBlocks ⟨by decide, by decide⟩ ⟨rfl, rfl⟩ 0 (by decide) rfl rfl (fun hI => cn_X0_freeBlocks X.2.1 Z ad hI d  er2) rfl dX0_takeBack_9 rfl (Nat.le_of_ble_eq_true rfl) ?_
      refine g_iload_n C dX0_takeBack_12 2 rfl ?_
      refine g_icmp_ge (tgt := 53) C dX0_takeBack_13 (by decide) (fun c3 => ?_) (fun c3 => ?_)
      · replace h := gi_pos c3 h
        cases h
        exact g_vret C e dX0_takeBack_53
      · replace h := gi_neg c3 h
        refine g_aload_n C dX0_takeBack_16 0 rfl ?_
        refine g_iload_n C dX0_takeBack_17 1 rfl ?_
        obtain ⟨r4, er4, h⟩ := gb1 h
        refine g_callWi (rest := []) C gX0_takeBack_X0_greatestLender rfl ok_X0_greatestLender ⟨by decide, by decide⟩ ⟨rfl, rfl⟩ 0 (by decide) rfl rfl (fun hI => cn_X0_greatestLender X.2.1 Z ad hI d v1 er4) rfl dX0_takeBack_18 rfl (Nat.le_of_ble_eq_true rfl) ?_
        refine g_istore C dX0_takeBack_21 (by decide) [(4, .int r4), (0, .ref (ad 0)), (1, .int v1), (2, .int v2), (3, .int v3)] rfl ?_
        refine g_iload C dX0_takeBack_23 0 rfl ?_
        refine g_bipush (v := (-5)) C dX0_takeBack_25 (by decide) ?_
        refine g_icmp_ne (tgt := 31) C dX0_takeBack_27 (by decide) (fun c5 => ?_) (fun c5 => ?_)
        · replace h := gi_neg c5 h
          refine g_aload_n C dX0_takeBack_31 1 rfl ?_
          refine g_iload C dX0_takeBack_32 0 rfl ?_
          obtain ⟨r6, d7, er6, h⟩ := gb2 h
          refine g_callWi (rest := []) C gX0_takeBack_X0_giveBack rfl ok_X0_giveBack ⟨by decide, by decide⟩ ⟨rfl, rfl⟩ 0 (by decide) rfl rfl (fun hI => cn_X0_giveBack X.2.1 Z ad hI d r4 er6) rfl dX0_takeBack_34 rfl (Nat.le_of_ble_eq_true rfl) ?_
          refine g_pop C dX0_takeBack_37 rfl ?_
          refine g_aload_n C dX0_takeBack_38 1 rfl ?_
          refine g_getf (v := .ref (ad 19)) C 0 (by decide) rfl rfl in_X0_takeBack 9 (by decide) fl_X0_takeBack_44 rfl dX0_takeBack_39 ?_
          refine g_iconst (v := 2) C dX0_takeBack_42 (by decide) ?_
          refine g_iconst (v := 1) C dX0_takeBack_43 (by decide) ?_
          obtain ⟨w8, ew8, h⟩ := gb1 h
          obtain ⟨d9, ed9, h⟩ := gl h
          refine g_callVv (rest := []) C gX0_takeBack_X3_grow rfl ok_X3_grow ⟨by decide, by decide⟩ ⟨rfl, rfl⟩ 19 2 (by decide) (adc := fun i => ad (19 + i)) (fun _ _ => rfl) (dskE_row 9 (by decide)) 0 (by decide) rfl rfl (fun hI => cn_X3_grow X.2.1 Z (fun i => ad (19 + i)) hI 4 (d7 9) 2 1 ew8) rfl dX0_takeBack_44 rfl (Nat.le_of_ble_eq_true rfl) (dskE Z.2.1 ad d9) (by rw [ed9]; exact (dskE_up 9 (by decide))) ?_
          obtain ⟨x10, ex10, h⟩ := gl h
          refine g_iinc (v := x10) C dX0_takeBack_47 4 rfl (by rw [ex10]; rfl) (by decide) [(3, .int x10), (4, .int r4), (0, .ref (ad 0)), (1, .int v1), (2, .int v2)] rfl ?_
          refine g_goto (tgt := 2) C dX0_takeBack_50 (by decide) ?_
          exact g_sub [2, 3, 4, 0] rfl (ih x10 d9 h)
        · replace h := gi_pos c5 h
          cases h
          exact g_vret C e dX0_takeBack_30
set_option maxHeartbeats 4000000 in
set_option maxRecDepth 100000 in
theorem cn_X0_takeBack (l : Launch) (Z : gZ) (ad : Nat → Nat) (hI : gInj 21 ad) (d : Nat → Nat → Int32) (v1 : Int32) (v2 : Int32) {d' : Nat → Nat → Int32} (h : f_X0_takeBack d v1 v2 = some d') : gV l yX0_takeBack wsX0_takeBack rm_X0_takeBack Z 21 ad [.ref (ad 0), .int v1, .int v2] (dskE Z.2.1 ad d) (dskE Z.2.1 ad d') := by
  refine g_entryV (cc := cX0_takeBack) (maxL := 5) (by decide +kernel) rfl hI (Nat.le_of_ble_eq_true rfl) (fun X C e => ?_)
  unfold f_X0_takeBack at h
  show GG X Z 5 21 ad (dskE Z.2.1 ad d) 0 [(0, .ref (ad 0)), (1, .int v1), (2, .int v2)] []
  refine g_iconst (v := 0) C dX0_takeBack_0 (by decide) ?_
  refine g_istore_n C dX0_takeBack_1 (by decide) [(3, .int 0), (0, .ref (ad 0)), (1, .int v1), (2, .int v2)] rfl ?_
  exact g_sub [1, 2, 3, 0] rfl (cl_X0_takeBack_L2 C e v1 v2 gFu 0 d h)
abbrev rm_X0_blockAt : Room := ({ frames := 1, cells := 0, slots := 0, locals := 22 } : Room)
def f_X0_blockAt_L2 (d : Nat → Nat → Int32) (v1 : Int32) (v2 : Int32) : Nat → Int32 → Option Int32
  | 0, _ => none
  | fu + 1, v3 => if 64 ≤ v3 then some (-5) else gb (f_X3_holds 64 (d 1) v3 v1) (fun r2 => if r2 = 0 then glet (v3 + 1) (fun x4 => f_X0_blockAt_L2 d v1 v2 fu x4) else gb (f_X3_holds 64 (d 2) v3 v2) (fun r5 => if r5 = 0 then glet (v3 + 1) (fun x7 => f_X0_blockAt_L2 d v1 v2 fu x7) else some v3))
def f_X0_blockAt (d : Nat → Nat → Int32) (v1 : Int32) (v2 : Int32) : Option Int32 := f_X0_blockAt_L2 d v1 v2 gFu 0
set_option maxRecDepth 20000 in
theorem in_X0_blockAt : ∀ w ∈ wsX00, w ∈ wsX0_blockAt := by decide +kernel
set_option maxRecDepth 20000 in
theorem fl_X0_blockAt_23 : Cond.fieldLink RX0 23 (TX0 2).1 (TX0 2).2.1 (TX0 2).2.2.1 ∈ wsX0_blockAt := by decide +kernel
set_option maxRecDepth 20000 in
theorem fl_X0_blockAt_20 : Cond.fieldLink RX0 20 (TX0 1).1 (TX0 1).2.1 (TX0 1).2.2.1 ∈ wsX0_blockAt := by decide +kernel
set_option maxHeartbeats 4000000 in
set_option maxRecDepth 100000 in
theorem cl_X0_blockAt_L2 {X : gX} {Z : gZ} {ad : Nat → Nat} {d : Nat → Nat → Int32} {r : Int32} (C : GC X Z cX0_blockAt 4 wsX0_blockAt RX0 rm_X0_blockAt 21 ad) (e : gEI X Z 21 ad .int r (dskE Z.2.1 ad d)) (v1 : Int32) (v2 : Int32) : ∀ (fu : Nat) (v3 : Int32) (h : f_X0_blockAt_L2 d v1 v2 fu v3 = some r), GG X Z 4 21 ad (dskE Z.2.1 ad d) 2 [(0, .ref (ad 0)), (1, .int v1), (2, .int v2), (3, .int v3)] [] := by
  intro fu
  induction fu with
  | zero => intro v3 h; cases h
  | succ fu ih =>
    intro v3 h
    rw [f_X0_blockAt_L2] at h
    refine g_iload_n C dX0_blockAt_2 3 rfl ?_
    refine g_bipush (v := 64) C dX0_blockAt_3 (by decide) ?_
    refine g_icmp_ge (tgt := 40) C dX0_blockAt_5 (by decide) (fun c1 => ?_) (fun c1 => ?_)
    · replace h := gi_pos c1 h
      refine g_bipush (v := (-5)) C dX0_blockAt_40 (by decide) ?_
      cases h
      exact g_iret C e dX0_blockAt_42
    · replace h := gi_neg c1 h
      refine g_aload_n C dX0_blockAt_8 0 rfl ?_
      refine g_getf (v := .ref (ad 3)) C 0 (by decide) rfl rfl in_X0_blockAt 1 (by decide) fl_X0_blockAt_20 rfl dX0_blockAt_9 ?_
      refine g_iload_n C dX0_blockAt_12 3 rfl ?_
      refine g_iload_n C dX0_blockAt_13 1 rfl ?_
      obtain ⟨r2, er2, h⟩ := gb1 h
      refine g_callVi (rest := []) C gX0_blockAt_X3_holds rfl ok_X3_holds ⟨by decide, by decide⟩ ⟨rfl, rfl⟩ 3 2 (by decide) (adc := fun i => ad (3 + i)) (fun _ _ => rfl) (dskE_row 1 (by decide)) 0 (by decide) rfl rfl (fun hI => cn_X3_holds X.2.1 Z (fun i => ad (3 + i)) hI 64 (d 1) v3 v1 er2) rfl dX0_blockAt_14 rfl (Nat.le_of_ble_eq_true rfl) (dskE Z.2.1 ad d) (dskE_id 1 (by decide)) ?_
      refine g_if_eq (tgt := 34) C dX0_blockAt_17 (by decide) (fun c3 => ?_) (fun c3 => ?_)
      · replace h := gi_pos c3 h
        obtain ⟨x4, ex4, h⟩ := gl h
        refine g_iinc (v := x4) C dX0_blockAt_34 3 rfl (by rw [ex4]; rfl) (by decide) [(3, .int x4), (0, .ref (ad 0)), (1, .int v1), (2, .int v2)] rfl ?_
        refine g_goto (tgt := 2) C dX0_blockAt_37 (by decide) ?_
        exact g_sub [1, 2, 3, 0] rfl (ih x4 h)
      · replace h := gi_neg c3 h
        refine g_aload_n C dX0_blockAt_20 0 rfl ?_
        refine g_getf (v := .ref (ad 5)) C 0 (by decide) rfl rfl in_X0_blockAt 2 (by decide) fl_X0_blockAt_23 rfl dX0_blockAt_21 ?_
        refine g_iload_n C dX0_blockAt_24 3 rfl ?_
        refine g_iload_n C dX0_blockAt_25 2 rfl ?_
        obtain ⟨r5, er5, h⟩ := gb1 h
        refine g_callVi (rest := []) C gX0_blockAt_X3_holds rfl ok_X3_holds ⟨by decide, by decide⟩ ⟨rfl, rfl⟩ 5 2 (by decide) (adc := fun i => ad (5 + i)) (fun _ _ => rfl) (dskE_row 2 (by decide)) 0 (by decide) rfl rfl (fun hI => cn_X3_holds X.2.1 Z (fun i => ad (5 + i)) hI 64 (d 2) v3 v2 er5) rfl dX0_blockAt_26 rfl (Nat.le_of_ble_eq_true rfl) (dskE Z.2.1 ad d) (dskE_id 2 (by decide)) ?_
        refine g_if_eq (tgt := 34) C dX0_blockAt_29 (by decide) (fun c6 => ?_) (fun c6 => ?_)
        · replace h := gi_pos c6 h
          obtain ⟨x7, ex7, h⟩ := gl h
          refine g_iinc (v := x7) C dX0_blockAt_34 3 rfl (by rw [ex7]; rfl) (by decide) [(3, .int x7), (0, .ref (ad 0)), (1, .int v1), (2, .int v2)] rfl ?_
          refine g_goto (tgt := 2) C dX0_blockAt_37 (by decide) ?_
          exact g_sub [1, 2, 3, 0] rfl (ih x7 h)
        · replace h := gi_neg c6 h
          refine g_iload_n C dX0_blockAt_32 3 rfl ?_
          cases h
          exact g_iret C e dX0_blockAt_33
set_option maxHeartbeats 4000000 in
set_option maxRecDepth 100000 in
theorem cn_X0_blockAt (l : Launch) (Z : gZ) (ad : Nat → Nat) (hI : gInj 21 ad) (d : Nat → Nat → Int32) (v1 : Int32) (v2 : Int32) {r : Int32} (h : f_X0_blockAt d v1 v2 = some r) : gI l yX0_blockAt wsX0_blockAt rm_X0_blockAt Z 21 ad [.ref (ad 0), .int v1, .int v2] (dskE Z.2.1 ad d) r (dskE Z.2.1 ad d) := by
  refine g_entryI (cc := cX0_blockAt) (maxL := 4) (by decide +kernel) rfl hI (Nat.le_of_ble_eq_true rfl) (fun X C e => ?_)
  unfold f_X0_blockAt at h
  show GG X Z 4 21 ad (dskE Z.2.1 ad d) 0 [(0, .ref (ad 0)), (1, .int v1), (2, .int v2)] []
  refine g_iconst (v := 0) C dX0_blockAt_0 (by decide) ?_
  refine g_istore_n C dX0_blockAt_1 (by decide) [(3, .int 0), (0, .ref (ad 0)), (1, .int v1), (2, .int v2)] rfl ?_
  exact g_sub [1, 2, 3, 0] rfl (cl_X0_blockAt_L2 C e v1 v2 gFu 0 h)
abbrev rm_X0_addFrom : Room := ({ frames := 1, cells := 0, slots := 0, locals := 22 } : Room)
def f_X0_addFrom_L3 (v1 : Int32) (v2 : Int32) (v3 : Int32) : Nat → Int32 → (Nat → Nat → Int32) → Option (Int32 × (Nat → Nat → Int32))
  | 0, _, _ => none
  | fu + 1, v4, d => if v3 ≤ v4 then some (v4, d) else gb (f_X3_holds 64 (d 1) (v2 + v4) (-5)) (fun r2 => if r2 = 0 then some (v4, d) else gb (f_X3_put 64 (d 1) (v2 + v4) v1) (fun w4 => glet (va_up d 1 w4) (fun d5 => gb (f_X3_at 8 (d5 4) v1) (fun r6 => gb (f_X3_put 64 (d5 2) (v2 + v4) r6) (fun w7 => glet (va_up d5 2 w7) (fun d8 => gb (f_X3_grow 8 (d8 4) v1 1) (fun w9 => glet (va_up d8 4 w9) (fun d10 => glet (v4 + 1) (fun x11 => f_X0_addFrom_L3 v1 v2 v3 fu x11 d10)))))))))
def f_X0_addFrom (d : Nat → Nat → Int32) (v1 : Int32) (v2 : Int32) (v3 : Int32) : Option (Int32 × (Nat → Nat → Int32)) := f_X0_addFrom_L3 v1 v2 v3 gFu 0 d
set_option maxRecDepth 20000 in
theorem in_X0_addFrom : ∀ w ∈ wsX00, w ∈ wsX0_addFrom := by decide +kernel
set_option maxRecDepth 20000 in
theorem fl_X0_addFrom_29 : Cond.fieldLink RX0 29 (TX0 4).1 (TX0 4).2.1 (TX0 4).2.2.1 ∈ wsX0_addFrom := by decide +kernel
set_option maxRecDepth 20000 in
theorem fl_X0_addFrom_23 : Cond.fieldLink RX0 23 (TX0 2).1 (TX0 2).2.1 (TX0 2).2.2.1 ∈ wsX0_addFrom := by decide +kernel
set_option maxRecDepth 20000 in
theorem fl_X0_addFrom_20 : Cond.fieldLink RX0 20 (TX0 1).1 (TX0 1).2.1 (TX0 1).2.2.1 ∈ wsX0_addFrom := by decide +kernel
set_option maxHeartbeats 4000000 in
set_option maxRecDepth 100000 in
theorem cl_X0_addFrom_L3 {X : gX} {Z : gZ} {ad : Nat → Nat}  {r : Int32} {d' : Nat → Nat → Int32} (C : GC X Z cX0_addFrom 5 wsX0_addFrom RX0 rm_X0_addFrom 21 ad) (e : gEI X Z 21 ad .int r (dskE Z.2.1 ad d')) (v1 : Int32) (v2 : Int32) (v3 : Int32) : ∀ (fu : Nat) (v4 : Int32) (d : Nat → Nat → Int32) (h : f_X0_addFrom_L3 v1 v2 v3 fu v4 d = some (r, d')), GG X Z 5 21 ad (dskE Z.2.1 ad d) 3 [(0, .ref (ad 0)), (1, .int v1), (2, .int v2), (3, .int v3), (4, .int v4)] [] := by
  intro fu
  induction fu with
  | zero => intro v4 d h; cases h
  | succ fu ih =>
    intro v4 d h
    rw [f_X0_addFrom_L3] at h
    refine g_iload C dX0_addFrom_3 4 rfl ?_
    refine g_iload_n C dX0_addFrom_5 3 rfl ?_
    refine g_icmp_ge (tgt := 71) C dX0_addFrom_6 (by decide) (fun c1 => ?_) (fun c1 => ?_)
    · replace h := gi_pos c1 h
      refine g_iload C dX0_addFrom_71 4 rfl ?_
      cases h
      exact g_iret C e dX0_addFrom_73
    · replace h := gi_neg c1 h
      refine g_aload_n C dX0_addFrom_9 0 rfl ?_
      refine g_getf (v := .ref (ad 3)) C 0 (by decide) rfl rfl in_X0_addFrom 1 (by decide) fl_X0_addFrom_20 rfl dX0_addFrom_10 ?_
      refine g_iload_n C dX0_addFrom_13 2 rfl ?_
      refine g_iload C dX0_addFrom_14 4 rfl ?_
      refine g_iadd C dX0_addFrom_16 ?_
      refine g_bipush (v := (-5)) C dX0_addFrom_17 (by decide) ?_
      obtain ⟨r2, er2, h⟩ := gb1 h
      refine g_callVi (rest := []) C gX0_addFrom_X3_holds rfl ok_X3_holds ⟨by decide, by decide⟩ ⟨rfl, rfl⟩ 3 2 (by decide) (adc := fun i => ad (3 + i)) (fun _ _ => rfl) (dskE_row 1 (by decide)) 0 (by decide) rfl rfl (fun hI => cn_X3_holds X.2.1 Z (fun i => ad (3 + i)) hI 64 (d 1) (v2 + v4) (-5) er2) rfl dX0_addFrom_19 rfl (Nat.le_of_ble_eq_true rfl) (dskE Z.2.1 ad d) (dskE_id 1 (by decide)) ?_
      refine g_if_eq (tgt := 71) C dX0_addFrom_22 (by decide) (fun c3 => ?_) (fun c3 => ?_)
      · replace h := gi_pos c3 h
        refine g_iload C dX0_addFrom_71 4 rfl ?_
        cases h
        exact g_iret C e dX0_addFrom_73
      · replace h := gi_neg c3 h
        refine g_aload_n C dX0_addFrom_25 0 rfl ?_
        refine g_getf (v := .ref (ad 3)) C 0 (by decide) rfl rfl in_X0_addFrom 1 (by decide) fl_X0_addFrom_20 rfl dX0_addFrom_26 ?_
        refine g_iload_n C dX0_addFrom_29 2 rfl ?_
        refine g_iload C dX0_addFrom_30 4 rfl ?_
        refine g_iadd C dX0_addFrom_32 ?_
        refine g_iload_n C dX0_addFrom_33 1 rfl ?_
        obtain ⟨w4, ew4, h⟩ := gb1 h
        obtain ⟨d5, ed5, h⟩ := gl h
        refine g_callVv (rest := []) C gX0_addFrom_X3_put rfl ok_X3_put ⟨by decide, by decide⟩ ⟨rfl, rfl⟩ 3 2 (by decide) (adc := fun i => ad (3 + i)) (fun _ _ => rfl) (dskE_row 1 (by decide)) 0 (by decide) rfl rfl (fun hI => cn_X3_put X.2.1 Z (fun i => ad (3 + i)) hI 64 (d 1) (v2 + v4) v1 ew4) rfl dX0_addFrom_34 rfl (Nat.le_of_ble_eq_true rfl) (dskE Z.2.1 ad d5) (by rw [ed5]; exact (dskE_up 1 (by decide))) ?_
        refine g_aload_n C dX0_addFrom_37 0 rfl ?_
        refine g_getf (v := .ref (ad 5)) C 0 (by decide) rfl rfl in_X0_addFrom 2 (by decide) fl_X0_addFrom_23 rfl dX0_addFrom_38 ?_
        refine g_iload_n C dX0_addFrom_41 2 rfl ?_
        refine g_iload C dX0_addFrom_42 4 rfl ?_
        refine g_iadd C dX0_addFrom_44 ?_
        refine g_aload_n C dX0_addFrom_45 0 rfl ?_
        refine g_getf (v := .ref (ad 9)) C 0 (by decide) rfl rfl in_X0_addFrom 4 (by decide) fl_X0_addFrom_29 rfl dX0_addFrom_46 ?_
        refine g_iload_n C dX0_addFrom_49 1 rfl ?_
        obtain ⟨r6, er6, h⟩ := gb1 h
        refine g_callVi (rest := [.int (v2 + v4), .ref (ad 5)]) C gX0_addFrom_X3_at rfl ok_X3_at ⟨by decide, by decide⟩ ⟨rfl, rfl⟩ 9 2 (by decide) (adc := fun i => ad (9 + i)) (fun _ _ => rfl) (dskE_row 4 (by decide)) 0 (by decide) rfl rfl (fun hI => cn_X3_at X.2.1 Z (fun i => ad (9 + i)) hI 8 (d5 4) v1 er6) rfl dX0_addFrom_50 rfl (Nat.le_of_ble_eq_true rfl) (dskE Z.2.1 ad d5) (dskE_id 4 (by decide)) ?_
        obtain ⟨w7, ew7, h⟩ := gb1 h
        obtain ⟨d8, ed8, h⟩ := gl h
        refine g_callVv (rest := []) C gX0_addFrom_X3_put rfl ok_X3_put ⟨by decide, by decide⟩ ⟨rfl, rfl⟩ 5 2 (by decide) (adc := fun i => ad (5 + i)) (fun _ _ => rfl) (dskE_row 2 (by decide)) 0 (by decide) rfl rfl (fun hI => cn_X3_put X.2.1 Z (fun i => ad (5 + i)) hI 64 (d5 2) (v2 + v4) r6 ew7) rfl dX0_addFrom_53 rfl (Nat.le_of_ble_eq_true rfl) (dskE Z.2.1 ad d8) (by rw [ed8]; exact (dskE_up 2 (by decide))) ?_
        refine g_aload_n C dX0_addFrom_56 0 rfl ?_
        refine g_getf (v := .ref (ad 9)) C 0 (by decide) rfl rfl in_X0_addFrom 4 (by decide) fl_X0_addFrom_29 rfl dX0_addFrom_57 ?_
        refine g_iload_n C dX0_addFrom_60 1 rfl ?_
        refine g_iconst (v := 1) C dX0_addFrom_61 (by decide) ?_
        obtain ⟨w9, ew9, h⟩ := gb1 h
        obtain ⟨d10, ed10, h⟩ := gl h
        refine g_callVv (rest := []) C gX0_addFrom_X3_grow rfl ok_X3_grow ⟨by decide, by decide⟩ ⟨rfl, rfl⟩ 9 2 (by decide) (adc := fun i => ad (9 + i)) (fun _ _ => rfl) (dskE_row 4 (by decide)) 0 (by decide) rfl rfl (fun hI => cn_X3_grow X.2.1 Z (fun i => ad (9 + i)) hI 8 (d8 4) v1 1 ew9) rfl dX0_addFrom_62 rfl (Nat.le_of_ble_eq_true rfl) (dskE Z.2.1 ad d10) (by rw [ed10]; exact (dskE_up 4 (by decide))) ?_
        obtain ⟨x11, ex11, h⟩ := gl h
        refine g_iinc (v := x11) C dX0_addFrom_65 4 rfl (by rw [ex11]; rfl) (by decide) [(4, .int x11), (0, .ref (ad 0)), (1, .int v1), (2, .int v2), (3, .int v3)] rfl ?_
        refine g_goto (tgt := 3) C dX0_addFrom_68 (by decide) ?_
        exact g_sub [1, 2, 3, 4, 0] rfl (ih x11 d10 h)
set_option maxHeartbeats 4000000 in
set_option maxRecDepth 100000 in
theorem cn_X0_addFrom (l : Launch) (Z : gZ) (ad : Nat → Nat) (hI : gInj 21 ad) (d : Nat → Nat → Int32) (v1 : Int32) (v2 : Int32) (v3 : Int32) {r : Int32} {d' : Nat → Nat → Int32} (h : f_X0_addFrom d v1 v2 v3 = some (r, d')) : gI l yX0_addFrom wsX0_addFrom rm_X0_addFrom Z 21 ad [.ref (ad 0), .int v1, .int v2, .int v3] (dskE Z.2.1 ad d) r (dskE Z.2.1 ad d') := by
  refine g_entryI (cc := cX0_addFrom) (maxL := 5) (by decide +kernel) rfl hI (Nat.le_of_ble_eq_true rfl) (fun X C e => ?_)
  unfold f_X0_addFrom at h
  show GG X Z 5 21 ad (dskE Z.2.1 ad d) 0 [(0, .ref (ad 0)), (1, .int v1), (2, .int v2), (3, .int v3)] []
  refine g_iconst (v := 0) C dX0_addFrom_0 (by decide) ?_
  refine g_istore C dX0_addFrom_1 (by decide) [(4, .int 0), (0, .ref (ad 0)), (1, .int v1), (2, .int v2), (3, .int v3)] rfl ?_
  exact g_sub [1, 2, 3, 4, 0] rfl (cl_X0_addFrom_L3 C e v1 v2 v3 gFu 0 d h)
abbrev rm_X0_runFrom : Room := ({ frames := 1, cells := 0, slots := 0, locals := 22 } : Room)
def f_X0_runFrom_L19 (d : Nat → Nat → Int32) (v1 : Int32) : Nat → Int32 → Option Int32
  | 0, _ => none
  | fu + 1, v2 => if 64 ≤ v2 then some v2 else gb (f_X3_holds 64 (d 1) (v1 + v2) (-5)) (fun r4 => if r4 = 0 then some v2 else glet (v2 + 1) (fun x6 => f_X0_runFrom_L19 d v1 fu x6))
def f_X0_runFrom (d : Nat → Nat → Int32) (v1 : Int32) : Option Int32 := gb (f_X3_holds 64 (d 1) (v1 - 1) (-5)) (fun r1 => if r1 = 0 then f_X0_runFrom_L19 d v1 gFu 0 else some 0)
set_option maxRecDepth 20000 in
theorem in_X0_runFrom : ∀ w ∈ wsX00, w ∈ wsX0_runFrom := by decide +kernel
set_option maxRecDepth 20000 in
theorem fl_X0_runFrom_20 : Cond.fieldLink RX0 20 (TX0 1).1 (TX0 1).2.1 (TX0 1).2.2.1 ∈ wsX0_runFrom := by decide +kernel
set_option maxHeartbeats 4000000 in
set_option maxRecDepth 100000 in
theorem cl_X0_runFrom_L19 {X : gX} {Z : gZ} {ad : Nat → Nat} {d : Nat → Nat → Int32} {r : Int32} (C : GC X Z cX0_runFrom 3 wsX0_runFrom RX0 rm_X0_runFrom 21 ad) (e : gEI X Z 21 ad .int r (dskE Z.2.1 ad d)) (v1 : Int32) : ∀ (fu : Nat) (v2 : Int32) (h : f_X0_runFrom_L19 d v1 fu v2 = some r), GG X Z 3 21 ad (dskE Z.2.1 ad d) 19 [(0, .ref (ad 0)), (1, .int v1), (2, .int v2)] [] := by
  intro fu
  induction fu with
  | zero => intro v2 h; cases h
  | succ fu ih =>
    intro v2 h
    rw [f_X0_runFrom_L19] at h
    refine g_iload_n C dX0_runFrom_19 2 rfl ?_
    refine g_bipush (v := 64) C dX0_runFrom_20 (by decide) ?_
    refine g_icmp_ge (tgt := 46) C dX0_runFrom_22 (by decide) (fun c3 => ?_) (fun c3 => ?_)
    · replace h := gi_pos c3 h
      refine g_iload_n C dX0_runFrom_46 2 rfl ?_
      cases h
      exact g_iret C e dX0_runFrom_47
    · replace h := gi_neg c3 h
      refine g_aload_n C dX0_runFrom_25 0 rfl ?_
      refine g_getf (v := .ref (ad 3)) C 0 (by decide) rfl rfl in_X0_runFrom 1 (by decide) fl_X0_runFrom_20 rfl dX0_runFrom_26 ?_
      refine g_iload_n C dX0_runFrom_29 1 rfl ?_
      refine g_iload_n C dX0_runFrom_30 2 rfl ?_
      refine g_iadd C dX0_runFrom_31 ?_
      refine g_bipush (v := (-5)) C dX0_runFrom_32 (by decide) ?_
      obtain ⟨r4, er4, h⟩ := gb1 h
      refine g_callVi (rest := []) C gX0_runFrom_X3_holds rfl ok_X3_holds ⟨by decide, by decide⟩ ⟨rfl, rfl⟩ 3 2 (by decide) (adc := fun i => ad (3 + i)) (fun _ _ => rfl) (dskE_row 1 (by decide)) 0 (by decide) rfl rfl (fun hI => cn_X3_holds X.2.1 Z (fun i => ad (3 + i)) hI 64 (d 1) (v1 + v2) (-5) er4) rfl dX0_runFrom_34 rfl (Nat.le_of_ble_eq_true rfl) (dskE Z.2.1 ad d) (dskE_id 1 (by decide)) ?_
      refine g_if_eq (tgt := 46) C dX0_runFrom_37 (by decide) (fun c5 => ?_) (fun c5 => ?_)
      · replace h := gi_pos c5 h
        refine g_iload_n C dX0_runFrom_46 2 rfl ?_
        cases h
        exact g_iret C e dX0_runFrom_47
      · replace h := gi_neg c5 h
        obtain ⟨x6, ex6, h⟩ := gl h
        refine g_iinc (v := x6) C dX0_runFrom_40 2 rfl (by rw [ex6]; rfl) (by decide) [(2, .int x6), (0, .ref (ad 0)), (1, .int v1)] rfl ?_
        refine g_goto (tgt := 19) C dX0_runFrom_43 (by decide) ?_
        exact g_sub [1, 2, 0] rfl (ih x6 h)
set_option maxHeartbeats 4000000 in
set_option maxRecDepth 100000 in
theorem cn_X0_runFrom (l : Launch) (Z : gZ) (ad : Nat → Nat) (hI : gInj 21 ad) (d : Nat → Nat → Int32) (v1 : Int32) {r : Int32} (h : f_X0_runFrom d v1 = some r) : gI l yX0_runFrom wsX0_runFrom rm_X0_runFrom Z 21 ad [.ref (ad 0), .int v1] (dskE Z.2.1 ad d) r (dskE Z.2.1 ad d) := by
  refine g_entryI (cc := cX0_runFrom) (maxL := 3) (by decide +kernel) rfl hI (Nat.le_of_ble_eq_true rfl) (fun X C e => ?_)
  unfold f_X0_runFrom at h
  show GG X Z 3 21 ad (dskE Z.2.1 ad d) 0 [(0, .ref (ad 0)), (1, .int v1)] []
  refine g_aload_n C dX0_runFrom_0 0 rfl ?_
  refine g_getf (v := .ref (ad 3)) C 0 (by decide) rfl rfl in_X0_runFrom 1 (by decide) fl_X0_runFrom_20 rfl dX0_runFrom_1 ?_
  refine g_iload_n C dX0_runFrom_4 1 rfl ?_
  refine g_iconst (v := 1) C dX0_runFrom_5 (by decide) ?_
  refine g_isub C dX0_runFrom_6 ?_
  refine g_bipush (v := (-5)) C dX0_runFrom_7 (by decide) ?_
  obtain ⟨r1, er1, h⟩ := gb1 h
  refine g_callVi (rest := []) C gX0_runFrom_X3_holds rfl ok_X3_holds ⟨by decide, by decide⟩ ⟨rfl, rfl⟩ 3 2 (by decide) (adc := fun i => ad (3 + i)) (fun _ _ => rfl) (dskE_row 1 (by decide)) 0 (by decide) rfl rfl (fun hI => cn_X3_holds X.2.1 Z (fun i => ad (3 + i)) hI 64 (d 1) (v1 - 1) (-5) er1) rfl dX0_runFrom_9 rfl (Nat.le_of_ble_eq_true rfl) (dskE Z.2.1 ad d) (dskE_id 1 (by decide)) ?_
  refine g_if_eq (tgt := 17) C dX0_runFrom_12 (by decide) (fun c2 => ?_) (fun c2 => ?_)
  · replace h := gi_pos c2 h
    refine g_iconst (v := 0) C dX0_runFrom_17 (by decide) ?_
    refine g_istore_n C dX0_runFrom_18 (by decide) [(2, .int 0), (0, .ref (ad 0)), (1, .int v1)] rfl ?_
    exact g_sub [1, 2, 0] rfl (cl_X0_runFrom_L19 C e v1 gFu 0 h)
  · replace h := gi_neg c2 h
    refine g_iconst (v := 0) C dX0_runFrom_15 (by decide) ?_
    cases h
    exact g_iret C e dX0_runFrom_16
abbrev rm_X0_isBetter : Room := ({ frames := 1, cells := 0, slots := 0, locals := 22 } : Room)
def f_X0_isBetter (d : Nat → Nat → Int32) (v1 : Int32) (v2 : Int32) (v3 : Int32) : Option Int32 := if v3 ≤ v2 then gb (f_X3_holds 2 (d 8) 1 0) (fun r2 => if r2 = 0 then some 0 else if v1 < v3 then some 0 else if v2 ≤ v1 then some 0 else some 1) else if v1 ≤ v2 then some 0 else some 1
set_option maxRecDepth 20000 in
theorem in_X0_isBetter : ∀ w ∈ wsX00, w ∈ wsX0_isBetter := by decide +kernel
set_option maxRecDepth 20000 in
theorem fl_X0_isBetter_41 : Cond.fieldLink RX0 41 (TX0 8).1 (TX0 8).2.1 (TX0 8).2.2.1 ∈ wsX0_isBetter := by decide +kernel
set_option maxHeartbeats 4000000 in
set_option maxRecDepth 100000 in
theorem cn_X0_isBetter (l : Launch) (Z : gZ) (ad : Nat → Nat) (hI : gInj 21 ad) (d : Nat → Nat → Int32) (v1 : Int32) (v2 : Int32) (v3 : Int32) {r : Int32} (h : f_X0_isBetter d v1 v2 v3 = some r) : gI l yX0_isBetter wsX0_isBetter rm_X0_isBetter Z 21 ad [.ref (ad 0), .int v1, .int v2, .int v3] (dskE Z.2.1 ad d) r (dskE Z.2.1 ad d) := by
  refine g_entryI (cc := cX0_isBetter) (maxL := 4) (by decide +kernel) rfl hI (Nat.le_of_ble_eq_true rfl) (fun X C e => ?_)
  unfold f_X0_isBetter at h
  show GG X Z 4 21 ad (dskE Z.2.1 ad d) 0 [(0, .ref (ad 0)), (1, .int v1), (2, .int v2), (3, .int v3)] []
  refine g_iload_n C dX0_isBetter_0 2 rfl ?_
  refine g_iload_n C dX0_isBetter_1 3 rfl ?_
  refine g_icmp_ge (tgt := 16) C dX0_isBetter_2 (by decide) (fun c1 => ?_) (fun c1 => ?_)
  · replace h := gi_pos c1 h
    refine g_aload_n C dX0_isBetter_16 0 rfl ?_
    refine g_getf (v := .ref (ad 17)) C 0 (by decide) rfl rfl in_X0_isBetter 8 (by decide) fl_X0_isBetter_41 rfl dX0_isBetter_17 ?_
    refine g_iconst (v := 1) C dX0_isBetter_20 (by decide) ?_
    refine g_iconst (v := 0) C dX0_isBetter_21 (by decide) ?_
    obtain ⟨r2, er2, h⟩ := gb1 h
    refine g_callVi (rest := []) C gX0_isBetter_X3_holds rfl ok_X3_holds ⟨by decide, by decide⟩ ⟨rfl, rfl⟩ 17 2 (by decide) (adc := fun i => ad (17 + i)) (fun _ _ => rfl) (dskE_row 8 (by decide)) 0 (by decide) rfl rfl (fun hI => cn_X3_holds X.2.1 Z (fun i => ad (17 + i)) hI 2 (d 8) 1 0 er2) rfl dX0_isBetter_22 rfl (Nat.le_of_ble_eq_true rfl) (dskE Z.2.1 ad d) (dskE_id 8 (by decide)) ?_
    refine g_if_eq (tgt := 42) C dX0_isBetter_25 (by decide) (fun c3 => ?_) (fun c3 => ?_)
    · replace h := gi_pos c3 h
      refine g_iconst (v := 0) C dX0_isBetter_42 (by decide) ?_
      cases h
      exact g_zret C e rfl dX0_isBetter_43
    · replace h := gi_neg c3 h
      refine g_iload_n C dX0_isBetter_28 1 rfl ?_
      refine g_iload_n C dX0_isBetter_29 3 rfl ?_
      refine g_icmp_lt (tgt := 42) C dX0_isBetter_30 (by decide) (fun c4 => ?_) (fun c4 => ?_)
      · replace h := gi_pos c4 h
        refine g_iconst (v := 0) C dX0_isBetter_42 (by decide) ?_
        cases h
        exact g_zret C e rfl dX0_isBetter_43
      · replace h := gi_neg c4 h
        refine g_iload_n C dX0_isBetter_33 1 rfl ?_
        refine g_iload_n C dX0_isBetter_34 2 rfl ?_
        refine g_icmp_ge (tgt := 42) C dX0_isBetter_35 (by decide) (fun c5 => ?_) (fun c5 => ?_)
        · replace h := gi_pos c5 h
          refine g_iconst (v := 0) C dX0_isBetter_42 (by decide) ?_
          cases h
          exact g_zret C e rfl dX0_isBetter_43
        · replace h := gi_neg c5 h
          refine g_iconst (v := 1) C dX0_isBetter_38 (by decide) ?_
          refine g_goto (tgt := 43) C dX0_isBetter_39 (by decide) ?_
          cases h
          exact g_zret C e rfl dX0_isBetter_43
  · replace h := gi_neg c1 h
    refine g_iload_n C dX0_isBetter_5 1 rfl ?_
    refine g_iload_n C dX0_isBetter_6 2 rfl ?_
    refine g_icmp_le (tgt := 14) C dX0_isBetter_7 (by decide) (fun c6 => ?_) (fun c6 => ?_)
    · replace h := gi_pos c6 h
      refine g_iconst (v := 0) C dX0_isBetter_14 (by decide) ?_
      cases h
      exact g_zret C e rfl dX0_isBetter_15
    · replace h := gi_neg c6 h
      refine g_iconst (v := 1) C dX0_isBetter_10 (by decide) ?_
      refine g_goto (tgt := 15) C dX0_isBetter_11 (by decide) ?_
      cases h
      exact g_zret C e rfl dX0_isBetter_15
abbrev rm_X0_chosenRun : Room := ({ frames := 2, cells := 0, slots := 0, locals := 45 } : Room)
def f_X0_chosenRun_L8 (d : Nat → Nat → Int32) (v1 : Int32) : Nat → Int32 → Int32 → Int32 → Option Int32
  | 0, _, _, _ => none
  | fu + 1, v2, v3, v4 => if 64 ≤ v4 then some v2 else gb (f_X0_runFrom d v4) (fun r2 => gb (f_X0_isBetter d r2 v3 v1) (fun r3 => if r3 = 0 then glet (v4 + 1) (fun x5 => f_X0_chosenRun_L8 d v1 fu v2 v3 x5) else glet (v4 + 1) (fun x6 => f_X0_chosenRun_L8 d v1 fu v4 r2 x6)))
def f_X0_chosenRun (d : Nat → Nat → Int32) (v1 : Int32) : Option Int32 := f_X0_chosenRun_L8 d v1 gFu (-5) 0 0
set_option maxHeartbeats 4000000 in
set_option maxRecDepth 100000 in
theorem cl_X0_chosenRun_L8 {X : gX} {Z : gZ} {ad : Nat → Nat} {d : Nat → Nat → Int32} {r : Int32} (C : GC X Z cX0_chosenRun 6 wsX0_chosenRun RX0 rm_X0_chosenRun 21 ad) (e : gEI X Z 21 ad .int r (dskE Z.2.1 ad d)) (v1 : Int32) : ∀ (fu : Nat) (v2 : Int32) (v3 : Int32) (v4 : Int32) (h : f_X0_chosenRun_L8 d v1 fu v2 v3 v4 = some r), GG X Z 6 21 ad (dskE Z.2.1 ad d) 8 [(0, .ref (ad 0)), (1, .int v1), (2, .int v2), (3, .int v3), (4, .int v4)] [] := by
  intro fu
  induction fu with
  | zero => intro v2 v3 v4 h; cases h
  | succ fu ih =>
    intro v2 v3 v4 h
    rw [f_X0_chosenRun_L8] at h
    refine g_iload C dX0_chosenRun_8 4 rfl ?_
    refine g_bipush (v := 64) C dX0_chosenRun_10 (by decide) ?_
    refine g_icmp_ge (tgt := 46) C dX0_chosenRun_12 (by decide) (fun c1 => ?_) (fun c1 => ?_)
    · replace h := gi_pos c1 h
      refine g_iload_n C dX0_chosenRun_46 2 rfl ?_
      cases h
      exact g_iret C e dX0_chosenRun_47
    · replace h := gi_neg c1 h
      refine g_aload_n C dX0_chosenRun_15 0 rfl ?_
      refine g_iload C dX0_chosenRun_16 4 rfl ?_
      obtain ⟨r2, er2, h⟩ := gb1 h
      refine g_callWi (rest := []) C gX0_chosenRun_X0_runFrom rfl ok_X0_runFrom ⟨by decide, by decide⟩ ⟨rfl, rfl⟩ 0 (by decide) rfl rfl (fun hI => cn_X0_runFrom X.2.1 Z ad hI d v4 er2) rfl dX0_chosenRun_18 rfl (Nat.le_of_ble_eq_true rfl) ?_
      refine g_istore C dX0_chosenRun_21 (by decide) [(5, .int r2), (0, .ref (ad 0)), (1, .int v1), (2, .int v2), (3, .int v3), (4, .int v4)] rfl ?_
      refine g_aload_n C dX0_chosenRun_23 1 rfl ?_
      refine g_iload C dX0_chosenRun_24 0 rfl ?_
      refine g_iload_n C dX0_chosenRun_26 4 rfl ?_
      refine g_iload_n C dX0_chosenRun_27 2 rfl ?_
      obtain ⟨r3, er3, h⟩ := gb1 h
      refine g_callWi (rest := []) C gX0_chosenRun_X0_isBetter rfl ok_X0_isBetter ⟨by decide, by decide⟩ ⟨rfl, rfl⟩ 0 (by decide) rfl rfl (fun hI => cn_X0_isBetter X.2.1 Z ad hI d r2 v3 v1 er3) rfl dX0_chosenRun_28 rfl (Nat.le_of_ble_eq_true rfl) ?_
      refine g_if_eq (tgt := 40) C dX0_chosenRun_31 (by decide) (fun c4 => ?_) (fun c4 => ?_)
      · replace h := gi_pos c4 h
        obtain ⟨x5, ex5, h⟩ := gl h
        refine g_iinc (v := x5) C dX0_chosenRun_40 5 rfl (by rw [ex5]; rfl) (by decide) [(4, .int x5), (5, .int r2), (0, .ref (ad 0)), (1, .int v1), (2, .int v2), (3, .int v3)] rfl ?_
        refine g_goto (tgt := 8) C dX0_chosenRun_43 (by decide) ?_
        exact g_sub [2, 3, 4, 5, 0] rfl (ih v2 v3 x5 h)
      · replace h := gi_neg c4 h
        refine g_iload C dX0_chosenRun_34 5 rfl ?_
        refine g_istore_n C dX0_chosenRun_36 (by decide) [(2, .int v4), (5, .int r2), (0, .ref (ad 0)), (1, .int v1), (3, .int v3), (4, .int v4)] rfl ?_
        refine g_iload C dX0_chosenRun_37 1 rfl ?_
        refine g_istore_n C dX0_chosenRun_39 (by decide) [(3, .int r2), (2, .int v4), (5, .int r2), (0, .ref (ad 0)), (1, .int v1), (4, .int v4)] rfl ?_
        obtain ⟨x6, ex6, h⟩ := gl h
        refine g_iinc (v := x6) C dX0_chosenRun_40 5 rfl (by rw [ex6]; rfl) (by decide) [(4, .int x6), (3, .int r2), (2, .int v4), (5, .int r2), (0, .ref (ad 0)), (1, .int v1)] rfl ?_
        refine g_goto (tgt := 8) C dX0_chosenRun_43 (by decide) ?_
        exact g_sub [4, 5, 2, 1, 0] rfl (ih v4 r2 x6 h)
set_option maxHeartbeats 4000000 in
set_option maxRecDepth 100000 in
theorem cn_X0_chosenRun (l : Launch) (Z : gZ) (ad : Nat → Nat) (hI : gInj 21 ad) (d : Nat → Nat → Int32) (v1 : Int32) {r : Int32} (h : f_X0_chosenRun d v1 = some r) : gI l yX0_chosenRun wsX0_chosenRun rm_X0_chosenRun Z 21 ad [.ref (ad 0), .int v1] (dskE Z.2.1 ad d) r (dskE Z.2.1 ad d) := by
  refine g_entryI (cc := cX0_chosenRun) (maxL := 6) (by decide +kernel) rfl hI (Nat.le_of_ble_eq_true rfl) (fun X C e => ?_)
  unfold f_X0_chosenRun at h
  show GG X Z 6 21 ad (dskE Z.2.1 ad d) 0 [(0, .ref (ad 0)), (1, .int v1)] []
  refine g_bipush (v := (-5)) C dX0_chosenRun_0 (by decide) ?_
  refine g_istore_n C dX0_chosenRun_2 (by decide) [(2, .int (-5)), (0, .ref (ad 0)), (1, .int v1)] rfl ?_
  refine g_iconst (v := 0) C dX0_chosenRun_3 (by decide) ?_
  refine g_istore_n C dX0_chosenRun_4 (by decide) [(3, .int 0), (2, .int (-5)), (0, .ref (ad 0)), (1, .int v1)] rfl ?_
  refine g_iconst (v := 0) C dX0_chosenRun_5 (by decide) ?_
  refine g_istore C dX0_chosenRun_6 (by decide) [(4, .int 0), (3, .int 0), (2, .int (-5)), (0, .ref (ad 0)), (1, .int v1)] rfl ?_
  exact g_sub [3, 4, 2, 1, 0] rfl (cl_X0_chosenRun_L8 C e v1 gFu (-5) 0 0 h)
abbrev rm_X0_lengthen : Room := ({ frames := 3, cells := 0, slots := 0, locals := 70 } : Room)
def f_X0_lengthen_L87 (v1 : Int32) (v2 : Int32) (v3 : Int32) (v4 : Int32) (v5 : Int32) : Nat → Int32 → Int32 → (Nat → Nat → Int32) → Option ((Nat → Nat → Int32))
  | 0, _, _, _ => none
  | fu + 1, v6, v7, d => if 64 ≤ v7 then if v5 ≤ v2 then some d else glet (if 16 < (2 * v3) then 16 else (2 * v3)) (fun x11 => gb (f_X3_put 8 (d 7) v1 x11) (fun w12 => glet (va_up d 7 w12) (fun d13 => some d13))) else if v6 ≤ 0 then if v5 ≤ v2 then some d else glet (if 16 < (2 * v3) then 16 else (2 * v3)) (fun x16 => gb (f_X3_put 8 (d 7) v1 x16) (fun w17 => glet (va_up d 7 w17) (fun d18 => some d18))) else gb (f_X0_chosenRun d v6) (fun r19 => gbb2 (f_X0_addFrom d v1 r19 v6) (fun r20 d21 => glet (v6 - r20) (fun x22 => glet (v7 + 1) (fun x23 => f_X0_lengthen_L87 v1 v2 v3 v4 v5 fu x22 x23 d21))))
def f_X0_lengthen (d : Nat → Nat → Int32) (v1 : Int32) (v2 : Int32) : Option ((Nat → Nat → Int32)) := gb (f_X3_at 8 (d 7) v1) (fun r1 => gb (f_X3_at 2 (d 8) 0) (fun r2 => glet (if r2 < r1 then r2 else r1) (fun x3 => glet (v2 + x3) (fun x4 => gb (f_X0_freeBlocks d) (fun r5 => glet (if r5 < x4 then r5 else x4) (fun x6 => gb (f_X3_at 8 (d 4) v1) (fun r7 => if r7 ≤ 0 then f_X0_lengthen_L87 v1 v2 r1 x4 x6 gFu x6 0 d else gb (f_X3_at 8 (d 4) v1) (fun r24 => gb (f_X0_blockAt d v1 (r24 - 1)) (fun r25 => gbb2 (f_X0_addFrom d v1 (r25 + 1) x6) (fun r26 d27 => glet (x6 - r26) (fun x28 => f_X0_lengthen_L87 v1 v2 r1 x4 x6 gFu x28 0 d27)))))))))))
set_option maxRecDepth 20000 in
theorem mm_X0_lengthen_98_1 : Cond.methodLink RX0 98 Lib.Math.min.name ∈ wsX0_lengthen := by decide +kernel
set_option maxRecDepth 20000 in
theorem mm_X0_lengthen_98_2 : Cond.static Lib.Math.min.name ∈ wsX0_lengthen := by decide +kernel
set_option maxRecDepth 20000 in
theorem mm_X0_lengthen_98_3 : Cond.initialized "java/lang/Math" ∈ wsX0_lengthen := by decide +kernel
set_option maxRecDepth 20000 in
theorem mm_X0_lengthen_98_4 : Cond.code Lib.Math.min.name Lib.Math.min.code 2 (some .int) ∈ wsX0_lengthen := by decide +kernel
set_option maxRecDepth 20000 in
theorem in_X0_lengthen : ∀ w ∈ wsX00, w ∈ wsX0_lengthen := by decide +kernel
set_option maxRecDepth 20000 in
theorem fl_X0_lengthen_38 : Cond.fieldLink RX0 38 (TX0 7).1 (TX0 7).2.1 (TX0 7).2.2.1 ∈ wsX0_lengthen := by decide +kernel
set_option maxRecDepth 20000 in
theorem fl_X0_lengthen_29 : Cond.fieldLink RX0 29 (TX0 4).1 (TX0 4).2.1 (TX0 4).2.2.1 ∈ wsX0_lengthen := by decide +kernel
set_option maxRecDepth 20000 in
theorem fl_X0_lengthen_41 : Cond.fieldLink RX0 41 (TX0 8).1 (TX0 8).2.1 (TX0 8).2.2.1 ∈ wsX0_lengthen := by decide +kernel
set_option maxHeartbeats 4000000 in
set_option maxRecDepth 100000 in
theorem cl_X0_lengthen_L87 {X : gX} {Z : gZ} {ad : Nat → Nat}  {d' : Nat → Nat → Int32} (C : GC X Z cX0_lengthen 8 wsX0_lengthen RX0 rm_X0_lengthen 21 ad) (e : gEV X Z 21 ad (dskE Z.2.1 ad d')) (v1 : Int32) (v2 : Int32) (v3 : Int32) (v4 : Int32) (v5 : Int32) : ∀ (fu : Nat) (v6 : Int32) (v7 : Int32) (d : Nat → Nat → Int32) (h : f_X0_lengthen_L87 v1 v2 v3 v4 v5 fu v6 v7 d = some d'), GG X Z 8 21 ad (dskE Z.2.1 ad d) 87 [(0, .ref (ad 0)), (1, .int v1), (2, .int v2), (3, .int v3), (4, .int v4), (5, .int v5), (6, .int v6), (7, .int v7)] [] := by
  intro fu
  induction fu with
  | zero => intro v6 v7 d h; cases h
  | succ fu ih =>
    intro v6 v7 d h
    rw [f_X0_lengthen_L87] at h
    refine g_iload C dX0_lengthen_87 7 rfl ?_
    refine g_bipush (v := 64) C dX0_lengthen_89 (by decide) ?_
    refine g_icmp_ge (tgt := 123) C dX0_lengthen_91 (by decide) (fun c9 => ?_) (fun c9 => ?_)
    · replace h := gi_pos c9 h
      refine g_iload C dX0_lengthen_123 5 rfl ?_
      refine g_iload_n C dX0_lengthen_125 2 rfl ?_
      refine g_icmp_le (tgt := 145) C dX0_lengthen_126 (by decide) (fun c10 => ?_) (fun c10 => ?_)
      · replace h := gi_pos c10 h
        cases h
        exact g_vret C e dX0_lengthen_145
      · replace h := gi_neg c10 h
        refine g_aload_n C dX0_lengthen_129 0 rfl ?_
        refine g_getf (v := .ref (ad 15)) C 0 (by decide) rfl rfl in_X0_lengthen 7 (by decide) fl_X0_lengthen_38 rfl dX0_lengthen_130 ?_
        refine g_iload_n C dX0_lengthen_133 1 rfl ?_
        refine g_iconst (v := 2) C dX0_lengthen_134 (by decide) ?_
        refine g_iload_n C dX0_lengthen_135 3 rfl ?_
        refine g_imul C dX0_lengthen_136 ?_
        refine g_bipush (v := 16) C dX0_lengthen_137 (by decide) ?_
        obtain ⟨x11, ex11, h⟩ := gl h
        refine g_mmin C mm_X0_lengthen_98_1 mm_X0_lengthen_98_2 mm_X0_lengthen_98_3 mm_X0_lengthen_98_4 (by decide) (Nat.le_of_ble_eq_true rfl) dX0_lengthen_139 ?_
        rw [← ex11]
        obtain ⟨w12, ew12, h⟩ := gb1 h
        obtain ⟨d13, ed13, h⟩ := gl h
        refine g_callVv (rest := []) C gX0_lengthen_X3_put rfl ok_X3_put ⟨by decide, by decide⟩ ⟨rfl, rfl⟩ 15 2 (by decide) (adc := fun i => ad (15 + i)) (fun _ _ => rfl) (dskE_row 7 (by decide)) 0 (by decide) rfl rfl (fun hI => cn_X3_put X.2.1 Z (fun i => ad (15 + i)) hI 8 (d 7) v1 x11 ew12) rfl dX0_lengthen_142 rfl (Nat.le_of_ble_eq_true rfl) (dskE Z.2.1 ad d13) (by rw [ed13]; exact (dskE_up 7 (by decide))) ?_
        cases h
        exact g_vret C e dX0_lengthen_145
    · replace h := gi_neg c9 h
      refine g_iload C dX0_lengthen_94 6 rfl ?_
      refine g_if_le (tgt := 123) C dX0_lengthen_96 (by decide) (fun c14 => ?_) (fun c14 => ?_)
      · replace h := gi_pos c14 h
        refine g_iload C dX0_lengthen_123 5 rfl ?_
        refine g_iload_n C dX0_lengthen_125 2 rfl ?_
        refine g_icmp_le (tgt := 145) C dX0_lengthen_126 (by decide) (fun c15 => ?_) (fun c15 => ?_)
        · replace h := gi_pos c15 h
          cases h
          exact g_vret C e dX0_lengthen_145
        · replace h := gi_neg c15 h
          refine g_aload_n C dX0_lengthen_129 0 rfl ?_
          refine g_getf (v := .ref (ad 15)) C 0 (by decide) rfl rfl in_X0_lengthen 7 (by decide) fl_X0_lengthen_38 rfl dX0_lengthen_130 ?_
          refine g_iload_n C dX0_lengthen_133 1 rfl ?_
          refine g_iconst (v := 2) C dX0_lengthen_134 (by decide) ?_
          refine g_iload_n C dX0_lengthen_135 3 rfl ?_
          refine g_imul C dX0_lengthen_136 ?_
          refine g_bipush (v := 16) C dX0_lengthen_137 (by decide) ?_
          obtain ⟨x16, ex16, h⟩ := gl h
          refine g_mmin C mm_X0_lengthen_98_1 mm_X0_lengthen_98_2 mm_X0_lengthen_98_3 mm_X0_lengthen_98_4 (by decide) (Nat.le_of_ble_eq_true rfl) dX0_lengthen_139 ?_
          rw [← ex16]
          obtain ⟨w17, ew17, h⟩ := gb1 h
          obtain ⟨d18, ed18, h⟩ := gl h
          refine g_callVv (rest := []) C gX0_lengthen_X3_put rfl ok_X3_put ⟨by decide, by decide⟩ ⟨rfl, rfl⟩ 15 2 (by decide) (adc := fun i => ad (15 + i)) (fun _ _ => rfl) (dskE_row 7 (by decide)) 0 (by decide) rfl rfl (fun hI => cn_X3_put X.2.1 Z (fun i => ad (15 + i)) hI 8 (d 7) v1 x16 ew17) rfl dX0_lengthen_142 rfl (Nat.le_of_ble_eq_true rfl) (dskE Z.2.1 ad d18) (by rw [ed18]; exact (dskE_up 7 (by decide))) ?_
          cases h
          exact g_vret C e dX0_lengthen_145
      · replace h := gi_neg c14 h
        refine g_iload C dX0_lengthen_99 6 rfl ?_
        refine g_aload_n C dX0_lengthen_101 0 rfl ?_
        refine g_iload_n C dX0_lengthen_102 1 rfl ?_
        refine g_aload_n C dX0_lengthen_103 0 rfl ?_
        refine g_iload C dX0_lengthen_104 6 rfl ?_
        obtain ⟨r19, er19, h⟩ := gb1 h
        refine g_callWi (rest := [.int v1, .ref (ad 0), .int v6]) C gX0_lengthen_X0_chosenRun rfl ok_X0_chosenRun ⟨by decide, by decide⟩ ⟨rfl, rfl⟩ 0 (by decide) rfl rfl (fun hI => cn_X0_chosenRun X.2.1 Z ad hI d v6 er19) rfl dX0_lengthen_106 rfl (Nat.le_of_ble_eq_true rfl) ?_
        refine g_iload C dX0_lengthen_109 6 rfl ?_
        obtain ⟨r20, d21, er20, h⟩ := gb2 h
        refine g_callWi (rest := [.int v6]) C gX0_lengthen_X0_addFrom rfl ok_X0_addFrom ⟨by decide, by decide⟩ ⟨rfl, rfl⟩ 0 (by decide) rfl rfl (fun hI => cn_X0_addFrom X.2.1 Z ad hI d v1 r19 v6 er20) rfl dX0_lengthen_111 rfl (Nat.le_of_ble_eq_true rfl) ?_
        refine g_isub C dX0_lengthen_114 ?_
        obtain ⟨x22, ex22, h⟩ := gl h
        refine g_istore C dX0_lengthen_115 (by decide) [(6, .int x22), (0, .ref (ad 0)), (1, .int v1), (2, .int v2), (3, .int v3), (4, .int v4), (5, .int v5), (7, .int v7)] (by rw [ex22]; rfl) ?_
        obtain ⟨x23, ex23, h⟩ := gl h
        refine g_iinc (v := x23) C dX0_lengthen_117 7 rfl (by rw [ex23]; rfl) (by decide) [(7, .int x23), (6, .int x22), (0, .ref (ad 0)), (1, .int v1), (2, .int v2), (3, .int v3), (4, .int v4), (5, .int v5)] rfl ?_
        refine g_goto (tgt := 87) C dX0_lengthen_120 (by decide) ?_
        exact g_sub [2, 3, 4, 5, 6, 7, 1, 0] rfl (ih x22 x23 d21 h)
set_option maxHeartbeats 4000000 in
set_option maxRecDepth 100000 in
theorem cn_X0_lengthen (l : Launch) (Z : gZ) (ad : Nat → Nat) (hI : gInj 21 ad) (d : Nat → Nat → Int32) (v1 : Int32) (v2 : Int32) {d' : Nat → Nat → Int32} (h : f_X0_lengthen d v1 v2 = some d') : gV l yX0_lengthen wsX0_lengthen rm_X0_lengthen Z 21 ad [.ref (ad 0), .int v1, .int v2] (dskE Z.2.1 ad d) (dskE Z.2.1 ad d') := by
  refine g_entryV (cc := cX0_lengthen) (maxL := 8) (by decide +kernel) rfl hI (Nat.le_of_ble_eq_true rfl) (fun X C e => ?_)
  unfold f_X0_lengthen at h
  show GG X Z 8 21 ad (dskE Z.2.1 ad d) 0 [(0, .ref (ad 0)), (1, .int v1), (2, .int v2)] []
  refine g_aload_n C dX0_lengthen_0 0 rfl ?_
  refine g_getf (v := .ref (ad 15)) C 0 (by decide) rfl rfl in_X0_lengthen 7 (by decide) fl_X0_lengthen_38 rfl dX0_lengthen_1 ?_
  refine g_iload_n C dX0_lengthen_4 1 rfl ?_
  obtain ⟨r1, er1, h⟩ := gb1 h
  refine g_callVi (rest := []) C gX0_lengthen_X3_at rfl ok_X3_at ⟨by decide, by decide⟩ ⟨rfl, rfl⟩ 15 2 (by decide) (adc := fun i => ad (15 + i)) (fun _ _ => rfl) (dskE_row 7 (by decide)) 0 (by decide) rfl rfl (fun hI => cn_X3_at X.2.1 Z (fun i => ad (15 + i)) hI 8 (d 7) v1 er1) rfl dX0_lengthen_5 rfl (Nat.le_of_ble_eq_true rfl) (dskE Z.2.1 ad d) (dskE_id 7 (by decide)) ?_
  refine g_istore_n C dX0_lengthen_8 (by decide) [(3, .int r1), (0, .ref (ad 0)), (1, .int v1), (2, .int v2)] rfl ?_
  refine g_iload_n C dX0_lengthen_9 3 rfl ?_
  refine g_iload_n C dX0_lengthen_10 0 rfl ?_
  refine g_aload_n C dX0_lengthen_11 1 rfl ?_
  refine g_getf (v := .ref (ad 17)) C 0 (by decide) rfl rfl in_X0_lengthen 8 (by decide) fl_X0_lengthen_41 rfl dX0_lengthen_12 ?_
  refine g_iconst (v := 0) C dX0_lengthen_15 (by decide) ?_
  obtain ⟨r2, er2, h⟩ := gb1 h
  refine g_callVi (rest := [.int r1, .int v2]) C gX0_lengthen_X3_at rfl ok_X3_at ⟨by decide, by decide⟩ ⟨rfl, rfl⟩ 17 2 (by decide) (adc := fun i => ad (17 + i)) (fun _ _ => rfl) (dskE_row 8 (by decide)) 0 (by decide) rfl rfl (fun hI => cn_X3_at X.2.1 Z (fun i => ad (17 + i)) hI 2 (d 8) 0 er2) rfl dX0_lengthen_16 rfl (Nat.le_of_ble_eq_true rfl) (dskE Z.2.1 ad d) (dskE_id 8 (by decide)) ?_
  obtain ⟨x3, ex3, h⟩ := gl h
  refine g_mmin C mm_X0_lengthen_98_1 mm_X0_lengthen_98_2 mm_X0_lengthen_98_3 mm_X0_lengthen_98_4 (by decide) (Nat.le_of_ble_eq_true rfl) dX0_lengthen_19 ?_
  rw [← ex3]
  refine g_iadd C dX0_lengthen_22 ?_
  obtain ⟨x4, ex4, h⟩ := gl h
  refine g_istore C dX0_lengthen_23 (by decide) [(4, .int x4), (3, .int r1), (0, .ref (ad 0)), (1, .int v1), (2, .int v2)] (by rw [ex4]; rfl) ?_
  refine g_iload C dX0_lengthen_25 0 rfl ?_
  refine g_aload_n C dX0_lengthen_27 2 rfl ?_
  obtain ⟨r5, er5, h⟩ := gb1 h
  refine g_callWi (rest := [.int x4]) C gX0_lengthen_X0_freeBlocks rfl ok_X0_freeBlocks ⟨by decide, by decide⟩ ⟨rfl, rfl⟩ 0 (by decide) rfl rfl (fun hI => cn_X0_freeBlocks X.2.1 Z ad hI d  er5) rfl dX0_lengthen_28 rfl (Nat.le_of_ble_eq_true rfl) ?_
  obtain ⟨x6, ex6, h⟩ := gl h
  refine g_mmin C mm_X0_lengthen_98_1 mm_X0_lengthen_98_2 mm_X0_lengthen_98_3 mm_X0_lengthen_98_4 (by decide) (Nat.le_of_ble_eq_true rfl) dX0_lengthen_31 ?_
  rw [← ex6]
  refine g_istore C dX0_lengthen_34 (by decide) [(5, .int x6), (4, .int x4), (3, .int r1), (0, .ref (ad 0)), (1, .int v1), (2, .int v2)] rfl ?_
  refine g_iload C dX0_lengthen_36 0 rfl ?_
  refine g_istore C dX0_lengthen_38 (by decide) [(6, .int x6), (5, .int x6), (4, .int x4), (3, .int r1), (0, .ref (ad 0)), (1, .int v1), (2, .int v2)] rfl ?_
  refine g_aload_n C dX0_lengthen_40 4 rfl ?_
  refine g_getf (v := .ref (ad 9)) C 0 (by decide) rfl rfl in_X0_lengthen 4 (by decide) fl_X0_lengthen_29 rfl dX0_lengthen_41 ?_
  refine g_iload_n C dX0_lengthen_44 5 rfl ?_
  obtain ⟨r7, er7, h⟩ := gb1 h
  refine g_callVi (rest := []) C gX0_lengthen_X3_at rfl ok_X3_at ⟨by decide, by decide⟩ ⟨rfl, rfl⟩ 9 2 (by decide) (adc := fun i => ad (9 + i)) (fun _ _ => rfl) (dskE_row 4 (by decide)) 0 (by decide) rfl rfl (fun hI => cn_X3_at X.2.1 Z (fun i => ad (9 + i)) hI 8 (d 4) v1 er7) rfl dX0_lengthen_45 rfl (Nat.le_of_ble_eq_true rfl) (dskE Z.2.1 ad d) (dskE_id 4 (by decide)) ?_
  refine g_if_le (tgt := 84) C dX0_lengthen_48 (by decide) (fun c8 => ?_) (fun c8 => ?_)
  · replace h := gi_pos c8 h
    refine g_iconst (v := 0) C dX0_lengthen_84 (by decide) ?_
    refine g_istore C dX0_lengthen_85 (by decide) [(7, .int 0), (6, .int x6), (5, .int x6), (4, .int x4), (3, .int r1), (0, .ref (ad 0)), (1, .int v1), (2, .int v2)] rfl ?_
    exact g_sub [5, 6, 7, 4, 3, 2, 1, 0] rfl (cl_X0_lengthen_L87 C e v1 v2 r1 x4 x6 gFu x6 0 d h)
  · replace h := gi_neg c8 h
    refine g_aload_n C dX0_lengthen_51 4 rfl ?_
    refine g_iload_n C dX0_lengthen_52 5 rfl ?_
    refine g_aload_n C dX0_lengthen_53 4 rfl ?_
    refine g_getf (v := .ref (ad 9)) C 0 (by decide) rfl rfl in_X0_lengthen 4 (by decide) fl_X0_lengthen_29 rfl dX0_lengthen_54 ?_
    refine g_iload_n C dX0_lengthen_57 5 rfl ?_
    obtain ⟨r24, er24, h⟩ := gb1 h
    refine g_callVi (rest := [.int v1, .ref (ad 0)]) C gX0_lengthen_X3_at rfl ok_X3_at ⟨by decide, by decide⟩ ⟨rfl, rfl⟩ 9 2 (by decide) (adc := fun i => ad (9 + i)) (fun _ _ => rfl) (dskE_row 4 (by decide)) 0 (by decide) rfl rfl (fun hI => cn_X3_at X.2.1 Z (fun i => ad (9 + i)) hI 8 (d 4) v1 er24) rfl dX0_lengthen_58 rfl (Nat.le_of_ble_eq_true rfl) (dskE Z.2.1 ad d) (dskE_id 4 (by decide)) ?_
    refine g_iconst (v := 1) C dX0_lengthen_61 (by decide) ?_
    refine g_isub C dX0_lengthen_62 ?_
    obtain ⟨r25, er25, h⟩ := gb1 h
    refine g_callWi (rest := []) C gX0_lengthen_X0_blockAt rfl ok_X0_blockAt ⟨by decide, by decide⟩ ⟨rfl, rfl⟩ 0 (by decide) rfl rfl (fun hI => cn_X0_blockAt X.2.1 Z ad hI d v1 (r24 - 1) er25) rfl dX0_lengthen_63 rfl (Nat.le_of_ble_eq_true rfl) ?_
    refine g_istore C dX0_lengthen_66 (by decide) [(7, .int r25), (6, .int x6), (5, .int x6), (4, .int x4), (3, .int r1), (0, .ref (ad 0)), (1, .int v1), (2, .int v2)] rfl ?_
    refine g_iload C dX0_lengthen_68 1 rfl ?_
    refine g_aload_n C dX0_lengthen_70 5 rfl ?_
    refine g_iload_n C dX0_lengthen_71 6 rfl ?_
    refine g_iload C dX0_lengthen_72 0 rfl ?_
    refine g_iconst (v := 1) C dX0_lengthen_74 (by decide) ?_
    refine g_iadd C dX0_lengthen_75 ?_
    refine g_iload C dX0_lengthen_76 1 rfl ?_
    obtain ⟨r26, d27, er26, h⟩ := gb2 h
    refine g_callWi (rest := [.int x6]) C gX0_lengthen_X0_addFrom rfl ok_X0_addFrom ⟨by decide, by decide⟩ ⟨rfl, rfl⟩ 0 (by decide) rfl rfl (fun hI => cn_X0_addFrom X.2.1 Z ad hI d v1 (r25 + 1) x6 er26) rfl dX0_lengthen_78 rfl (Nat.le_of_ble_eq_true rfl) ?_
    refine g_isub C dX0_lengthen_81 ?_
    obtain ⟨x28, ex28, h⟩ := gl h
    refine g_istore C dX0_lengthen_82 (by decide) [(6, .int x28), (7, .int r25), (5, .int x6), (4, .int x4), (3, .int r1), (0, .ref (ad 0)), (1, .int v1), (2, .int v2)] (by rw [ex28]; rfl) ?_
    refine g_iconst (v := 0) C dX0_lengthen_84 (by decide) ?_
    refine g_istore C dX0_lengthen_85 (by decide) [(7, .int 0), (6, .int x28), (5, .int x6), (4, .int x4), (3, .int r1), (0, .ref (ad 0)), (1, .int v1), (2, .int v2)] rfl ?_
    exact g_sub [5, 6, 7, 4, 3, 2, 1, 0] rfl (cl_X0_lengthen_L87 C e v1 v2 r1 x4 x6 gFu x28 0 d27 h)
abbrev rm_X0_isPart : Room := ({ frames := 1, cells := 0, slots := 0, locals := 22 } : Room)
def f_X0_isPart (d : Nat → Nat → Int32) (v1 : Int32) (v2 : Int32) (v3 : Int32) (v4 : Int32) : Option Int32 := gb (f_X3_holds 64 (d 1) v1 v2) (fun r1 => if r1 = 0 then some 0 else gb (f_X3_at 64 (d 2) v1) (fun r3 => if r3 < v3 then some 0 else gb (f_X3_at 64 (d 2) v1) (fun r5 => if v4 ≤ r5 then some 0 else some 1)))
set_option maxRecDepth 20000 in
theorem in_X0_isPart : ∀ w ∈ wsX00, w ∈ wsX0_isPart := by decide +kernel
set_option maxRecDepth 20000 in
theorem fl_X0_isPart_23 : Cond.fieldLink RX0 23 (TX0 2).1 (TX0 2).2.1 (TX0 2).2.2.1 ∈ wsX0_isPart := by decide +kernel
set_option maxRecDepth 20000 in
theorem fl_X0_isPart_20 : Cond.fieldLink RX0 20 (TX0 1).1 (TX0 1).2.1 (TX0 1).2.2.1 ∈ wsX0_isPart := by decide +kernel
set_option maxHeartbeats 4000000 in
set_option maxRecDepth 100000 in
theorem cn_X0_isPart (l : Launch) (Z : gZ) (ad : Nat → Nat) (hI : gInj 21 ad) (d : Nat → Nat → Int32) (v1 : Int32) (v2 : Int32) (v3 : Int32) (v4 : Int32) {r : Int32} (h : f_X0_isPart d v1 v2 v3 v4 = some r) : gI l yX0_isPart wsX0_isPart rm_X0_isPart Z 21 ad [.ref (ad 0), .int v1, .int v2, .int v3, .int v4] (dskE Z.2.1 ad d) r (dskE Z.2.1 ad d) := by
  refine g_entryI (cc := cX0_isPart) (maxL := 5) (by decide +kernel) rfl hI (Nat.le_of_ble_eq_true rfl) (fun X C e => ?_)
  unfold f_X0_isPart at h
  show GG X Z 5 21 ad (dskE Z.2.1 ad d) 0 [(0, .ref (ad 0)), (1, .int v1), (2, .int v2), (3, .int v3), (4, .int v4)] []
  refine g_aload_n C dX0_isPart_0 0 rfl ?_
  refine g_getf (v := .ref (ad 3)) C 0 (by decide) rfl rfl in_X0_isPart 1 (by decide) fl_X0_isPart_20 rfl dX0_isPart_1 ?_
  refine g_iload_n C dX0_isPart_4 1 rfl ?_
  refine g_iload_n C dX0_isPart_5 2 rfl ?_
  obtain ⟨r1, er1, h⟩ := gb1 h
  refine g_callVi (rest := []) C gX0_isPart_X3_holds rfl ok_X3_holds ⟨by decide, by decide⟩ ⟨rfl, rfl⟩ 3 2 (by decide) (adc := fun i => ad (3 + i)) (fun _ _ => rfl) (dskE_row 1 (by decide)) 0 (by decide) rfl rfl (fun hI => cn_X3_holds X.2.1 Z (fun i => ad (3 + i)) hI 64 (d 1) v1 v2 er1) rfl dX0_isPart_6 rfl (Nat.le_of_ble_eq_true rfl) (dskE Z.2.1 ad d) (dskE_id 1 (by decide)) ?_
  refine g_if_eq (tgt := 41) C dX0_isPart_9 (by decide) (fun c2 => ?_) (fun c2 => ?_)
  · replace h := gi_pos c2 h
    refine g_iconst (v := 0) C dX0_isPart_41 (by decide) ?_
    cases h
    exact g_zret C e rfl dX0_isPart_42
  · replace h := gi_neg c2 h
    refine g_aload_n C dX0_isPart_12 0 rfl ?_
    refine g_getf (v := .ref (ad 5)) C 0 (by decide) rfl rfl in_X0_isPart 2 (by decide) fl_X0_isPart_23 rfl dX0_isPart_13 ?_
    refine g_iload_n C dX0_isPart_16 1 rfl ?_
    obtain ⟨r3, er3, h⟩ := gb1 h
    refine g_callVi (rest := []) C gX0_isPart_X3_at rfl ok_X3_at ⟨by decide, by decide⟩ ⟨rfl, rfl⟩ 5 2 (by decide) (adc := fun i => ad (5 + i)) (fun _ _ => rfl) (dskE_row 2 (by decide)) 0 (by decide) rfl rfl (fun hI => cn_X3_at X.2.1 Z (fun i => ad (5 + i)) hI 64 (d 2) v1 er3) rfl dX0_isPart_17 rfl (Nat.le_of_ble_eq_true rfl) (dskE Z.2.1 ad d) (dskE_id 2 (by decide)) ?_
    refine g_iload_n C dX0_isPart_20 3 rfl ?_
    refine g_icmp_lt (tgt := 41) C dX0_isPart_21 (by decide) (fun c4 => ?_) (fun c4 => ?_)
    · replace h := gi_pos c4 h
      refine g_iconst (v := 0) C dX0_isPart_41 (by decide) ?_
      cases h
      exact g_zret C e rfl dX0_isPart_42
    · replace h := gi_neg c4 h
      refine g_aload_n C dX0_isPart_24 0 rfl ?_
      refine g_getf (v := .ref (ad 5)) C 0 (by decide) rfl rfl in_X0_isPart 2 (by decide) fl_X0_isPart_23 rfl dX0_isPart_25 ?_
      refine g_iload_n C dX0_isPart_28 1 rfl ?_
      obtain ⟨r5, er5, h⟩ := gb1 h
      refine g_callVi (rest := []) C gX0_isPart_X3_at rfl ok_X3_at ⟨by decide, by decide⟩ ⟨rfl, rfl⟩ 5 2 (by decide) (adc := fun i => ad (5 + i)) (fun _ _ => rfl) (dskE_row 2 (by decide)) 0 (by decide) rfl rfl (fun hI => cn_X3_at X.2.1 Z (fun i => ad (5 + i)) hI 64 (d 2) v1 er5) rfl dX0_isPart_29 rfl (Nat.le_of_ble_eq_true rfl) (dskE Z.2.1 ad d) (dskE_id 2 (by decide)) ?_
      refine g_iload C dX0_isPart_32 4 rfl ?_
      refine g_icmp_ge (tgt := 41) C dX0_isPart_34 (by decide) (fun c6 => ?_) (fun c6 => ?_)
      · replace h := gi_pos c6 h
        refine g_iconst (v := 0) C dX0_isPart_41 (by decide) ?_
        cases h
        exact g_zret C e rfl dX0_isPart_42
      · replace h := gi_neg c6 h
        refine g_iconst (v := 1) C dX0_isPart_37 (by decide) ?_
        refine g_goto (tgt := 42) C dX0_isPart_38 (by decide) ?_
        cases h
        exact g_zret C e rfl dX0_isPart_42
abbrev rm_X0_write : Room := ({ frames := 2, cells := 0, slots := 0, locals := 46 } : Room)
def f_X0_write_L13 (v1 : Int32) (v2 : Int32) (v3 : Int32) (v4 : Int32) : Nat → Int32 → (Nat → Nat → Int32) → Option ((Nat → Nat → Int32))
  | 0, _, _ => none
  | fu + 1, v5, d => if 64 ≤ v5 then gb (f_X3_grow 8 (d 5) v1 v2) (fun w3 => glet (va_up d 5 w3) (fun d4 => gb (f_X3_grow 4 (d4 9) 0 v2) (fun w5 => glet (va_up d4 9 w5) (fun d6 => some d6)))) else gb (f_X0_isPart d v5 v1 v4 (v4 + v2)) (fun r7 => if r7 = 0 then glet (v5 + 1) (fun x9 => f_X0_write_L13 v1 v2 v3 v4 fu x9 d) else gb (f_X3_put 64 (d 0) v5 v3) (fun w10 => glet (va_up d 0 w10) (fun d11 => glet (v5 + 1) (fun x12 => f_X0_write_L13 v1 v2 v3 v4 fu x12 d11))))
def f_X0_write (d : Nat → Nat → Int32) (v1 : Int32) (v2 : Int32) (v3 : Int32) : Option ((Nat → Nat → Int32)) := gb (f_X3_at 8 (d 5) v1) (fun r1 => f_X0_write_L13 v1 v2 v3 r1 gFu 0 d)
set_option maxRecDepth 20000 in
theorem in_X0_write : ∀ w ∈ wsX00, w ∈ wsX0_write := by decide +kernel
set_option maxRecDepth 20000 in
theorem fl_X0_write_44 : Cond.fieldLink RX0 44 (TX0 9).1 (TX0 9).2.1 (TX0 9).2.2.1 ∈ wsX0_write := by decide +kernel
set_option maxRecDepth 20000 in
theorem fl_X0_write_32 : Cond.fieldLink RX0 32 (TX0 5).1 (TX0 5).2.1 (TX0 5).2.2.1 ∈ wsX0_write := by decide +kernel
set_option maxRecDepth 20000 in
theorem fl_X0_write_14 : Cond.fieldLink RX0 14 (TX0 0).1 (TX0 0).2.1 (TX0 0).2.2.1 ∈ wsX0_write := by decide +kernel
set_option maxHeartbeats 4000000 in
set_option maxRecDepth 100000 in
theorem cl_X0_write_L13 {X : gX} {Z : gZ} {ad : Nat → Nat}  {d' : Nat → Nat → Int32} (C : GC X Z cX0_write 6 wsX0_write RX0 rm_X0_write 21 ad) (e : gEV X Z 21 ad (dskE Z.2.1 ad d')) (v1 : Int32) (v2 : Int32) (v3 : Int32) (v4 : Int32) : ∀ (fu : Nat) (v5 : Int32) (d : Nat → Nat → Int32) (h : f_X0_write_L13 v1 v2 v3 v4 fu v5 d = some d'), GG X Z 6 21 ad (dskE Z.2.1 ad d) 13 [(0, .ref (ad 0)), (1, .int v1), (2, .int v2), (3, .int v3), (4, .int v4), (5, .int v5)] [] := by
  intro fu
  induction fu with
  | zero => intro v5 d h; cases h
  | succ fu ih =>
    intro v5 d h
    rw [f_X0_write_L13] at h
    refine g_iload C dX0_write_13 5 rfl ?_
    refine g_bipush (v := 64) C dX0_write_15 (by decide) ?_
    refine g_icmp_ge (tgt := 52) C dX0_write_17 (by decide) (fun c2 => ?_) (fun c2 => ?_)
    · replace h := gi_pos c2 h
      refine g_aload_n C dX0_write_52 0 rfl ?_
      refine g_getf (v := .ref (ad 11)) C 0 (by decide) rfl rfl in_X0_write 5 (by decide) fl_X0_write_32 rfl dX0_write_53 ?_
      refine g_iload_n C dX0_write_56 1 rfl ?_
      refine g_iload_n C dX0_write_57 2 rfl ?_
      obtain ⟨w3, ew3, h⟩ := gb1 h
      obtain ⟨d4, ed4, h⟩ := gl h
      refine g_callVv (rest := []) C gX0_write_X3_grow rfl ok_X3_grow ⟨by decide, by decide⟩ ⟨rfl, rfl⟩ 11 2 (by decide) (adc := fun i => ad (11 + i)) (fun _ _ => rfl) (dskE_row 5 (by decide)) 0 (by decide) rfl rfl (fun hI => cn_X3_grow X.2.1 Z (fun i => ad (11 + i)) hI 8 (d 5) v1 v2 ew3) rfl dX0_write_58 rfl (Nat.le_of_ble_eq_true rfl) (dskE Z.2.1 ad d4) (by rw [ed4]; exact (dskE_up 5 (by decide))) ?_
      refine g_aload_n C dX0_write_61 0 rfl ?_
      refine g_getf (v := .ref (ad 19)) C 0 (by decide) rfl rfl in_X0_write 9 (by decide) fl_X0_write_44 rfl dX0_write_62 ?_
      refine g_iconst (v := 0) C dX0_write_65 (by decide) ?_
      refine g_iload_n C dX0_write_66 2 rfl ?_
      obtain ⟨w5, ew5, h⟩ := gb1 h
      obtain ⟨d6, ed6, h⟩ := gl h
      refine g_callVv (rest := []) C gX0_write_X3_grow rfl ok_X3_grow ⟨by decide, by decide⟩ ⟨rfl, rfl⟩ 19 2 (by decide) (adc := fun i => ad (19 + i)) (fun _ _ => rfl) (dskE_row 9 (by decide)) 0 (by decide) rfl rfl (fun hI => cn_X3_grow X.2.1 Z (fun i => ad (19 + i)) hI 4 (d4 9) 0 v2 ew5) rfl dX0_write_67 rfl (Nat.le_of_ble_eq_true rfl) (dskE Z.2.1 ad d6) (by rw [ed6]; exact (dskE_up 9 (by decide))) ?_
      cases h
      exact g_vret C e dX0_write_70
    · replace h := gi_neg c2 h
      refine g_aload_n C dX0_write_20 0 rfl ?_
      refine g_iload C dX0_write_21 5 rfl ?_
      refine g_iload_n C dX0_write_23 1 rfl ?_
      refine g_iload C dX0_write_24 4 rfl ?_
      refine g_iload C dX0_write_26 4 rfl ?_
      refine g_iload_n C dX0_write_28 2 rfl ?_
      refine g_iadd C dX0_write_29 ?_
      obtain ⟨r7, er7, h⟩ := gb1 h
      refine g_callWi (rest := []) C gX0_write_X0_isPart rfl ok_X0_isPart ⟨by decide, by decide⟩ ⟨rfl, rfl⟩ 0 (by decide) rfl rfl (fun hI => cn_X0_isPart X.2.1 Z ad hI d v5 v1 v4 (v4 + v2) er7) rfl dX0_write_30 rfl (Nat.le_of_ble_eq_true rfl) ?_
      refine g_if_eq (tgt := 46) C dX0_write_33 (by decide) (fun c8 => ?_) (fun c8 => ?_)
      · replace h := gi_pos c8 h
        obtain ⟨x9, ex9, h⟩ := gl h
        refine g_iinc (v := x9) C dX0_write_46 5 rfl (by rw [ex9]; rfl) (by decide) [(5, .int x9), (0, .ref (ad 0)), (1, .int v1), (2, .int v2), (3, .int v3), (4, .int v4)] rfl ?_
        refine g_goto (tgt := 13) C dX0_write_49 (by decide) ?_
        exact g_sub [1, 2, 3, 4, 5, 0] rfl (ih x9 d h)
      · replace h := gi_neg c8 h
        refine g_aload_n C dX0_write_36 0 rfl ?_
        refine g_getf (v := .ref (ad 1)) C 0 (by decide) rfl rfl in_X0_write 0 (by decide) fl_X0_write_14 rfl dX0_write_37 ?_
        refine g_iload C dX0_write_40 5 rfl ?_
        refine g_iload_n C dX0_write_42 3 rfl ?_
        obtain ⟨w10, ew10, h⟩ := gb1 h
        obtain ⟨d11, ed11, h⟩ := gl h
        refine g_callVv (rest := []) C gX0_write_X3_put rfl ok_X3_put ⟨by decide, by decide⟩ ⟨rfl, rfl⟩ 1 2 (by decide) (adc := fun i => ad (1 + i)) (fun _ _ => rfl) (dskE_row 0 (by decide)) 0 (by decide) rfl rfl (fun hI => cn_X3_put X.2.1 Z (fun i => ad (1 + i)) hI 64 (d 0) v5 v3 ew10) rfl dX0_write_43 rfl (Nat.le_of_ble_eq_true rfl) (dskE Z.2.1 ad d11) (by rw [ed11]; exact (dskE_up 0 (by decide))) ?_
        obtain ⟨x12, ex12, h⟩ := gl h
        refine g_iinc (v := x12) C dX0_write_46 5 rfl (by rw [ex12]; rfl) (by decide) [(5, .int x12), (0, .ref (ad 0)), (1, .int v1), (2, .int v2), (3, .int v3), (4, .int v4)] rfl ?_
        refine g_goto (tgt := 13) C dX0_write_49 (by decide) ?_
        exact g_sub [1, 2, 3, 4, 5, 0] rfl (ih x12 d11 h)
set_option maxHeartbeats 4000000 in
set_option maxRecDepth 100000 in
theorem cn_X0_write (l : Launch) (Z : gZ) (ad : Nat → Nat) (hI : gInj 21 ad) (d : Nat → Nat → Int32) (v1 : Int32) (v2 : Int32) (v3 : Int32) {d' : Nat → Nat → Int32} (h : f_X0_write d v1 v2 v3 = some d') : gV l yX0_write wsX0_write rm_X0_write Z 21 ad [.ref (ad 0), .int v1, .int v2, .int v3] (dskE Z.2.1 ad d) (dskE Z.2.1 ad d') := by
  refine g_entryV (cc := cX0_write) (maxL := 6) (by decide +kernel) rfl hI (Nat.le_of_ble_eq_true rfl) (fun X C e => ?_)
  unfold f_X0_write at h
  show GG X Z 6 21 ad (dskE Z.2.1 ad d) 0 [(0, .ref (ad 0)), (1, .int v1), (2, .int v2), (3, .int v3)] []
  refine g_aload_n C dX0_write_0 0 rfl ?_
  refine g_getf (v := .ref (ad 11)) C 0 (by decide) rfl rfl in_X0_write 5 (by decide) fl_X0_write_32 rfl dX0_write_1 ?_
  refine g_iload_n C dX0_write_4 1 rfl ?_
  obtain ⟨r1, er1, h⟩ := gb1 h
  refine g_callVi (rest := []) C gX0_write_X3_at rfl ok_X3_at ⟨by decide, by decide⟩ ⟨rfl, rfl⟩ 11 2 (by decide) (adc := fun i => ad (11 + i)) (fun _ _ => rfl) (dskE_row 5 (by decide)) 0 (by decide) rfl rfl (fun hI => cn_X3_at X.2.1 Z (fun i => ad (11 + i)) hI 8 (d 5) v1 er1) rfl dX0_write_5 rfl (Nat.le_of_ble_eq_true rfl) (dskE Z.2.1 ad d) (dskE_id 5 (by decide)) ?_
  refine g_istore C dX0_write_8 (by decide) [(4, .int r1), (0, .ref (ad 0)), (1, .int v1), (2, .int v2), (3, .int v3)] rfl ?_
  refine g_iconst (v := 0) C dX0_write_10 (by decide) ?_
  refine g_istore C dX0_write_11 (by decide) [(5, .int 0), (4, .int r1), (0, .ref (ad 0)), (1, .int v1), (2, .int v2), (3, .int v3)] rfl ?_
  exact g_sub [2, 3, 4, 5, 1, 0] rfl (cl_X0_write_L13 C e v1 v2 v3 r1 gFu 0 d h)
abbrev rm_X0_beginsExtent : Room := ({ frames := 1, cells := 0, slots := 0, locals := 22 } : Room)
def f_X0_beginsExtent (d : Nat → Nat → Int32) (v1 : Int32) : Option Int32 := gb (f_X3_at 64 (d 1) v1) (fun r1 => gb (f_X3_holds 64 (d 1) (v1 - 1) r1) (fun r2 => if r2 = 0 then some 1 else gb (f_X3_at 64 (d 2) v1) (fun r4 => gb (f_X3_holds 64 (d 2) (v1 - 1) (r4 - 1)) (fun r5 => if r5 = 0 then some 1 else some 0))))
set_option maxRecDepth 20000 in
theorem in_X0_beginsExtent : ∀ w ∈ wsX00, w ∈ wsX0_beginsExtent := by decide +kernel
set_option maxRecDepth 20000 in
theorem fl_X0_beginsExtent_23 : Cond.fieldLink RX0 23 (TX0 2).1 (TX0 2).2.1 (TX0 2).2.2.1 ∈ wsX0_beginsExtent := by decide +kernel
set_option maxRecDepth 20000 in
theorem fl_X0_beginsExtent_20 : Cond.fieldLink RX0 20 (TX0 1).1 (TX0 1).2.1 (TX0 1).2.2.1 ∈ wsX0_beginsExtent := by decide +kernel
set_option maxHeartbeats 4000000 in
set_option maxRecDepth 100000 in
theorem cn_X0_beginsExtent (l : Launch) (Z : gZ) (ad : Nat → Nat) (hI : gInj 21 ad) (d : Nat → Nat → Int32) (v1 : Int32) {r : Int32} (h : f_X0_beginsExtent d v1 = some r) : gI l yX0_beginsExtent wsX0_beginsExtent rm_X0_beginsExtent Z 21 ad [.ref (ad 0), .int v1] (dskE Z.2.1 ad d) r (dskE Z.2.1 ad d) := by
  refine g_entryI (cc := cX0_beginsExtent) (maxL := 2) (by decide +kernel) rfl hI (Nat.le_of_ble_eq_true rfl) (fun X C e => ?_)
  unfold f_X0_beginsExtent at h
  show GG X Z 2 21 ad (dskE Z.2.1 ad d) 0 [(0, .ref (ad 0)), (1, .int v1)] []
  refine g_aload_n C dX0_beginsExtent_0 0 rfl ?_
  refine g_getf (v := .ref (ad 3)) C 0 (by decide) rfl rfl in_X0_beginsExtent 1 (by decide) fl_X0_beginsExtent_20 rfl dX0_beginsExtent_1 ?_
  refine g_iload_n C dX0_beginsExtent_4 1 rfl ?_
  refine g_iconst (v := 1) C dX0_beginsExtent_5 (by decide) ?_
  refine g_isub C dX0_beginsExtent_6 ?_
  refine g_aload_n C dX0_beginsExtent_7 0 rfl ?_
  refine g_getf (v := .ref (ad 3)) C 0 (by decide) rfl rfl in_X0_beginsExtent 1 (by decide) fl_X0_beginsExtent_20 rfl dX0_beginsExtent_8 ?_
  refine g_iload_n C dX0_beginsExtent_11 1 rfl ?_
  obtain ⟨r1, er1, h⟩ := gb1 h
  refine g_callVi (rest := [.int (v1 - 1), .ref (ad 3)]) C gX0_beginsExtent_X3_at rfl ok_X3_at ⟨by decide, by decide⟩ ⟨rfl, rfl⟩ 3 2 (by decide) (adc := fun i => ad (3 + i)) (fun _ _ => rfl) (dskE_row 1 (by decide)) 0 (by decide) rfl rfl (fun hI => cn_X3_at X.2.1 Z (fun i => ad (3 + i)) hI 64 (d 1) v1 er1) rfl dX0_beginsExtent_12 rfl (Nat.le_of_ble_eq_true rfl) (dskE Z.2.1 ad d) (dskE_id 1 (by decide)) ?_
  obtain ⟨r2, er2, h⟩ := gb1 h
  refine g_callVi (rest := []) C gX0_beginsExtent_X3_holds rfl ok_X3_holds ⟨by decide, by decide⟩ ⟨rfl, rfl⟩ 3 2 (by decide) (adc := fun i => ad (3 + i)) (fun _ _ => rfl) (dskE_row 1 (by decide)) 0 (by decide) rfl rfl (fun hI => cn_X3_holds X.2.1 Z (fun i => ad (3 + i)) hI 64 (d 1) (v1 - 1) r1 er2) rfl dX0_beginsExtent_15 rfl (Nat.le_of_ble_eq_true rfl) (dskE Z.2.1 ad d) (dskE_id 1 (by decide)) ?_
  refine g_if_eq (tgt := 44) C dX0_beginsExtent_18 (by decide) (fun c3 => ?_) (fun c3 => ?_)
  · replace h := gi_pos c3 h
    refine g_iconst (v := 1) C dX0_beginsExtent_44 (by decide) ?_
    refine g_goto (tgt := 49) C dX0_beginsExtent_45 (by decide) ?_
    cases h
    exact g_zret C e rfl dX0_beginsExtent_49
  · replace h := gi_neg c3 h
    refine g_aload_n C dX0_beginsExtent_21 0 rfl ?_
    refine g_getf (v := .ref (ad 5)) C 0 (by decide) rfl rfl in_X0_beginsExtent 2 (by decide) fl_X0_beginsExtent_23 rfl dX0_beginsExtent_22 ?_
    refine g_iload_n C dX0_beginsExtent_25 1 rfl ?_
    refine g_iconst (v := 1) C dX0_beginsExtent_26 (by decide) ?_
    refine g_isub C dX0_beginsExtent_27 ?_
    refine g_aload_n C dX0_beginsExtent_28 0 rfl ?_
    refine g_getf (v := .ref (ad 5)) C 0 (by decide) rfl rfl in_X0_beginsExtent 2 (by decide) fl_X0_beginsExtent_23 rfl dX0_beginsExtent_29 ?_
    refine g_iload_n C dX0_beginsExtent_32 1 rfl ?_
    obtain ⟨r4, er4, h⟩ := gb1 h
    refine g_callVi (rest := [.int (v1 - 1), .ref (ad 5)]) C gX0_beginsExtent_X3_at rfl ok_X3_at ⟨by decide, by decide⟩ ⟨rfl, rfl⟩ 5 2 (by decide) (adc := fun i => ad (5 + i)) (fun _ _ => rfl) (dskE_row 2 (by decide)) 0 (by decide) rfl rfl (fun hI => cn_X3_at X.2.1 Z (fun i => ad (5 + i)) hI 64 (d 2) v1 er4) rfl dX0_beginsExtent_33 rfl (Nat.le_of_ble_eq_true rfl) (dskE Z.2.1 ad d) (dskE_id 2 (by decide)) ?_
    refine g_iconst (v := 1) C dX0_beginsExtent_36 (by decide) ?_
    refine g_isub C dX0_beginsExtent_37 ?_
    obtain ⟨r5, er5, h⟩ := gb1 h
    refine g_callVi (rest := []) C gX0_beginsExtent_X3_holds rfl ok_X3_holds ⟨by decide, by decide⟩ ⟨rfl, rfl⟩ 5 2 (by decide) (adc := fun i => ad (5 + i)) (fun _ _ => rfl) (dskE_row 2 (by decide)) 0 (by decide) rfl rfl (fun hI => cn_X3_holds X.2.1 Z (fun i => ad (5 + i)) hI 64 (d 2) (v1 - 1) (r4 - 1) er5) rfl dX0_beginsExtent_38 rfl (Nat.le_of_ble_eq_true rfl) (dskE Z.2.1 ad d) (dskE_id 2 (by decide)) ?_
    refine g_if_ne (tgt := 48) C dX0_beginsExtent_41 (by decide) (fun c6 => ?_) (fun c6 => ?_)
    · replace h := gi_neg c6 h
      refine g_iconst (v := 0) C dX0_beginsExtent_48 (by decide) ?_
      cases h
      exact g_zret C e rfl dX0_beginsExtent_49
    · replace h := gi_pos c6 h
      refine g_iconst (v := 1) C dX0_beginsExtent_44 (by decide) ?_
      refine g_goto (tgt := 49) C dX0_beginsExtent_45 (by decide) ?_
      cases h
      exact g_zret C e rfl dX0_beginsExtent_49
abbrev rm_X0_extentsOf : Room := ({ frames := 2, cells := 0, slots := 0, locals := 43 } : Room)
def f_X0_extentsOf_L4 (d : Nat → Nat → Int32) (v1 : Int32) : Nat → Int32 → Int32 → Option Int32
  | 0, _, _ => none
  | fu + 1, v2, v3 => if 64 ≤ v3 then some v2 else gb (f_X3_holds 64 (d 1) v3 v1) (fun r2 => if r2 = 0 then glet (v3 + 1) (fun x4 => f_X0_extentsOf_L4 d v1 fu v2 x4) else gb (f_X0_beginsExtent d v3) (fun r5 => if r5 = 0 then glet (v3 + 1) (fun x7 => f_X0_extentsOf_L4 d v1 fu v2 x7) else glet (v2 + 1) (fun x8 => glet (v3 + 1) (fun x9 => f_X0_extentsOf_L4 d v1 fu x8 x9))))
def f_X0_extentsOf (d : Nat → Nat → Int32) (v1 : Int32) : Option Int32 := f_X0_extentsOf_L4 d v1 gFu 0 0
set_option maxRecDepth 20000 in
theorem in_X0_extentsOf : ∀ w ∈ wsX00, w ∈ wsX0_extentsOf := by decide +kernel
set_option maxRecDepth 20000 in
theorem fl_X0_extentsOf_20 : Cond.fieldLink RX0 20 (TX0 1).1 (TX0 1).2.1 (TX0 1).2.2.1 ∈ wsX0_extentsOf := by decide +kernel
set_option maxHeartbeats 4000000 in
set_option maxRecDepth 100000 in
theorem cl_X0_extentsOf_L4 {X : gX} {Z : gZ} {ad : Nat → Nat} {d : Nat → Nat → Int32} {r : Int32} (C : GC X Z cX0_extentsOf 4 wsX0_extentsOf RX0 rm_X0_extentsOf 21 ad) (e : gEI X Z 21 ad .int r (dskE Z.2.1 ad d)) (v1 : Int32) : ∀ (fu : Nat) (v2 : Int32) (v3 : Int32) (h : f_X0_extentsOf_L4 d v1 fu v2 v3 = some r), GG X Z 4 21 ad (dskE Z.2.1 ad d) 4 [(0, .ref (ad 0)), (1, .int v1), (2, .int v2), (3, .int v3)] [] := by
  intro fu
  induction fu with
  | zero => intro v2 v3 h; cases h
  | succ fu ih =>
    intro v2 v3 h
    rw [f_X0_extentsOf_L4] at h
    refine g_iload_n C dX0_extentsOf_4 3 rfl ?_
    refine g_bipush (v := 64) C dX0_extentsOf_5 (by decide) ?_
    refine g_icmp_ge (tgt := 39) C dX0_extentsOf_7 (by decide) (fun c1 => ?_) (fun c1 => ?_)
    · replace h := gi_pos c1 h
      refine g_iload_n C dX0_extentsOf_39 2 rfl ?_
      cases h
      exact g_iret C e dX0_extentsOf_40
    · replace h := gi_neg c1 h
      refine g_aload_n C dX0_extentsOf_10 0 rfl ?_
      refine g_getf (v := .ref (ad 3)) C 0 (by decide) rfl rfl in_X0_extentsOf 1 (by decide) fl_X0_extentsOf_20 rfl dX0_extentsOf_11 ?_
      refine g_iload_n C dX0_extentsOf_14 3 rfl ?_
      refine g_iload_n C dX0_extentsOf_15 1 rfl ?_
      obtain ⟨r2, er2, h⟩ := gb1 h
      refine g_callVi (rest := []) C gX0_extentsOf_X3_holds rfl ok_X3_holds ⟨by decide, by decide⟩ ⟨rfl, rfl⟩ 3 2 (by decide) (adc := fun i => ad (3 + i)) (fun _ _ => rfl) (dskE_row 1 (by decide)) 0 (by decide) rfl rfl (fun hI => cn_X3_holds X.2.1 Z (fun i => ad (3 + i)) hI 64 (d 1) v3 v1 er2) rfl dX0_extentsOf_16 rfl (Nat.le_of_ble_eq_true rfl) (dskE Z.2.1 ad d) (dskE_id 1 (by decide)) ?_
      refine g_if_eq (tgt := 33) C dX0_extentsOf_19 (by decide) (fun c3 => ?_) (fun c3 => ?_)
      · replace h := gi_pos c3 h
        obtain ⟨x4, ex4, h⟩ := gl h
        refine g_iinc (v := x4) C dX0_extentsOf_33 3 rfl (by rw [ex4]; rfl) (by decide) [(3, .int x4), (0, .ref (ad 0)), (1, .int v1), (2, .int v2)] rfl ?_
        refine g_goto (tgt := 4) C dX0_extentsOf_36 (by decide) ?_
        exact g_sub [1, 2, 3, 0] rfl (ih v2 x4 h)
      · replace h := gi_neg c3 h
        refine g_aload_n C dX0_extentsOf_22 0 rfl ?_
        refine g_iload_n C dX0_extentsOf_23 3 rfl ?_
        obtain ⟨r5, er5, h⟩ := gb1 h
        refine g_callWi (rest := []) C gX0_extentsOf_X0_beginsExtent rfl ok_X0_beginsExtent ⟨by decide, by decide⟩ ⟨rfl, rfl⟩ 0 (by decide) rfl rfl (fun hI => cn_X0_beginsExtent X.2.1 Z ad hI d v3 er5) rfl dX0_extentsOf_24 rfl (Nat.le_of_ble_eq_true rfl) ?_
        refine g_if_eq (tgt := 33) C dX0_extentsOf_27 (by decide) (fun c6 => ?_) (fun c6 => ?_)
        · replace h := gi_pos c6 h
          obtain ⟨x7, ex7, h⟩ := gl h
          refine g_iinc (v := x7) C dX0_extentsOf_33 3 rfl (by rw [ex7]; rfl) (by decide) [(3, .int x7), (0, .ref (ad 0)), (1, .int v1), (2, .int v2)] rfl ?_
          refine g_goto (tgt := 4) C dX0_extentsOf_36 (by decide) ?_
          exact g_sub [1, 2, 3, 0] rfl (ih v2 x7 h)
        · replace h := gi_neg c6 h
          obtain ⟨x8, ex8, h⟩ := gl h
          refine g_iinc (v := x8) C dX0_extentsOf_30 2 rfl (by rw [ex8]; rfl) (by decide) [(2, .int x8), (0, .ref (ad 0)), (1, .int v1), (3, .int v3)] rfl ?_
          obtain ⟨x9, ex9, h⟩ := gl h
          refine g_iinc (v := x9) C dX0_extentsOf_33 3 rfl (by rw [ex9]; rfl) (by decide) [(3, .int x9), (2, .int x8), (0, .ref (ad 0)), (1, .int v1)] rfl ?_
          refine g_goto (tgt := 4) C dX0_extentsOf_36 (by decide) ?_
          exact g_sub [2, 3, 1, 0] rfl (ih x8 x9 h)
set_option maxHeartbeats 4000000 in
set_option maxRecDepth 100000 in
theorem cn_X0_extentsOf (l : Launch) (Z : gZ) (ad : Nat → Nat) (hI : gInj 21 ad) (d : Nat → Nat → Int32) (v1 : Int32) {r : Int32} (h : f_X0_extentsOf d v1 = some r) : gI l yX0_extentsOf wsX0_extentsOf rm_X0_extentsOf Z 21 ad [.ref (ad 0), .int v1] (dskE Z.2.1 ad d) r (dskE Z.2.1 ad d) := by
  refine g_entryI (cc := cX0_extentsOf) (maxL := 4) (by decide +kernel) rfl hI (Nat.le_of_ble_eq_true rfl) (fun X C e => ?_)
  unfold f_X0_extentsOf at h
  show GG X Z 4 21 ad (dskE Z.2.1 ad d) 0 [(0, .ref (ad 0)), (1, .int v1)] []
  refine g_iconst (v := 0) C dX0_extentsOf_0 (by decide) ?_
  refine g_istore_n C dX0_extentsOf_1 (by decide) [(2, .int 0), (0, .ref (ad 0)), (1, .int v1)] rfl ?_
  refine g_iconst (v := 0) C dX0_extentsOf_2 (by decide) ?_
  refine g_istore_n C dX0_extentsOf_3 (by decide) [(3, .int 0), (2, .int 0), (0, .ref (ad 0)), (1, .int v1)] rfl ?_
  exact g_sub [2, 3, 1, 0] rfl (cl_X0_extentsOf_L4 C e v1 gFu 0 0 h)
abbrev rm_X0_appendTo : Room := ({ frames := 4, cells := 0, slots := 0, locals := 97 } : Room)
def f_X0_appendTo (d : Nat → Nat → Int32) (v1 : Int32) (v2 : Int32) (v3 : Int32) : Option (Int32 × (Nat → Nat → Int32)) := gb (f_X0_isFile d v1) (fun r1 => if r1 = 0 then some ((-1), d) else if v2 < 1 then some ((-2), d) else if 64 < v2 then some ((-2), d) else if v3 < 0 then some ((-2), d) else if v3 ≤ 99 then gb (f_X0_isOpen d v1) (fun r7 => if r7 = 0 then some ((-4), d) else gb (f_X0_blocksWithoutData d) (fun r9 => if v2 ≤ r9 then gb (f_X0_lentOf d v1) (fun r11 => glet (v2 - r11) (fun x12 => if x12 ≤ 0 then gb (f_X0_write d v1 v2 v3) (fun d14 => gb (f_X0_extentsOf d14 v1) (fun r15 => some (r15, d14))) else gb (f_X0_takeBack d v1 x12) (fun d16 => gb (f_X0_lengthen d16 v1 x12) (fun d17 => gb (f_X0_write d17 v1 v2 v3) (fun d18 => gb (f_X0_extentsOf d18 v1) (fun r19 => some (r19, d18))))))) else some ((-4), d))) else some ((-2), d))
set_option maxHeartbeats 4000000 in
set_option maxRecDepth 100000 in
theorem cn_X0_appendTo (l : Launch) (Z : gZ) (ad : Nat → Nat) (hI : gInj 21 ad) (d : Nat → Nat → Int32) (v1 : Int32) (v2 : Int32) (v3 : Int32) {r : Int32} {d' : Nat → Nat → Int32} (h : f_X0_appendTo d v1 v2 v3 = some (r, d')) : gI l yX0_appendTo wsX0_appendTo rm_X0_appendTo Z 21 ad [.ref (ad 0), .int v1, .int v2, .int v3] (dskE Z.2.1 ad d) r (dskE Z.2.1 ad d') := by
  refine g_entryI (cc := cX0_appendTo) (maxL := 5) (by decide +kernel) rfl hI (Nat.le_of_ble_eq_true rfl) (fun X C e => ?_)
  unfold f_X0_appendTo at h
  show GG X Z 5 21 ad (dskE Z.2.1 ad d) 0 [(0, .ref (ad 0)), (1, .int v1), (2, .int v2), (3, .int v3)] []
  refine g_aload_n C dX0_appendTo_0 0 rfl ?_
  refine g_iload_n C dX0_appendTo_1 1 rfl ?_
  obtain ⟨r1, er1, h⟩ := gb1 h
  refine g_callWi (rest := []) C gX0_appendTo_X0_isFile rfl ok_X0_isFile ⟨by decide, by decide⟩ ⟨rfl, rfl⟩ 0 (by decide) rfl rfl (fun hI => cn_X0_isFile X.2.1 Z ad hI d v1 er1) rfl dX0_appendTo_2 rfl (Nat.le_of_ble_eq_true rfl) ?_
  refine g_if_ne (tgt := 10) C dX0_appendTo_5 (by decide) (fun c2 => ?_) (fun c2 => ?_)
  · replace h := gi_neg c2 h
    refine g_iload_n C dX0_appendTo_10 2 rfl ?_
    refine g_iconst (v := 1) C dX0_appendTo_11 (by decide) ?_
    refine g_icmp_lt (tgt := 31) C dX0_appendTo_12 (by decide) (fun c3 => ?_) (fun c3 => ?_)
    · replace h := gi_pos c3 h
      refine g_bipush (v := (-2)) C dX0_appendTo_31 (by decide) ?_
      cases h
      exact g_iret C e dX0_appendTo_33
    · replace h := gi_neg c3 h
      refine g_iload_n C dX0_appendTo_15 2 rfl ?_
      refine g_bipush (v := 64) C dX0_appendTo_16 (by decide) ?_
      refine g_icmp_gt (tgt := 31) C dX0_appendTo_18 (by decide) (fun c4 => ?_) (fun c4 => ?_)
      · replace h := gi_pos c4 h
        refine g_bipush (v := (-2)) C dX0_appendTo_31 (by decide) ?_
        cases h
        exact g_iret C e dX0_appendTo_33
      · replace h := gi_neg c4 h
        refine g_iload_n C dX0_appendTo_21 3 rfl ?_
        refine g_if_lt (tgt := 31) C dX0_appendTo_22 (by decide) (fun c5 => ?_) (fun c5 => ?_)
        · replace h := gi_pos c5 h
          refine g_bipush (v := (-2)) C dX0_appendTo_31 (by decide) ?_
          cases h
          exact g_iret C e dX0_appendTo_33
        · replace h := gi_neg c5 h
          refine g_iload_n C dX0_appendTo_25 3 rfl ?_
          refine g_bipush (v := 99) C dX0_appendTo_26 (by decide) ?_
          refine g_icmp_le (tgt := 34) C dX0_appendTo_28 (by decide) (fun c6 => ?_) (fun c6 => ?_)
          · replace h := gi_pos c6 h
            refine g_aload_n C dX0_appendTo_34 0 rfl ?_
            refine g_iload_n C dX0_appendTo_35 1 rfl ?_
            obtain ⟨r7, er7, h⟩ := gb1 h
            refine g_callWi (rest := []) C gX0_appendTo_X0_isOpen rfl ok_X0_isOpen ⟨by decide, by decide⟩ ⟨rfl, rfl⟩ 0 (by decide) rfl rfl (fun hI => cn_X0_isOpen X.2.1 Z ad hI d v1 er7) rfl dX0_appendTo_36 rfl (Nat.le_of_ble_eq_true rfl) ?_
            refine g_if_eq (tgt := 50) C dX0_appendTo_39 (by decide) (fun c8 => ?_) (fun c8 => ?_)
            · replace h := gi_pos c8 h
              refine g_bipush (v := (-4)) C dX0_appendTo_50 (by decide) ?_
              cases h
              exact g_iret C e dX0_appendTo_52
            · replace h := gi_neg c8 h
              refine g_iload_n C dX0_appendTo_42 2 rfl ?_
              refine g_aload_n C dX0_appendTo_43 0 rfl ?_
              obtain ⟨r9, er9, h⟩ := gb1 h
              refine g_callWi (rest := [.int v2]) C gX0_appendTo_X0_blocksWithoutData rfl ok_X0_blocksWithoutData ⟨by decide, by decide⟩ ⟨rfl, rfl⟩ 0 (by decide) rfl rfl (fun hI => cn_X0_blocksWithoutData X.2.1 Z ad hI d  er9) rfl dX0_appendTo_44 rfl (Nat.le_of_ble_eq_true rfl) ?_
              refine g_icmp_le (tgt := 53) C dX0_appendTo_47 (by decide) (fun c10 => ?_) (fun c10 => ?_)
              · replace h := gi_pos c10 h
                refine g_iload_n C dX0_appendTo_53 2 rfl ?_
                refine g_aload_n C dX0_appendTo_54 0 rfl ?_
                refine g_iload_n C dX0_appendTo_55 1 rfl ?_
                obtain ⟨r11, er11, h⟩ := gb1 h
                refine g_callWi (rest := [.int v2]) C gX0_appendTo_X0_lentOf rfl ok_X0_lentOf ⟨by decide, by decide⟩ ⟨rfl, rfl⟩ 0 (by decide) rfl rfl (fun hI => cn_X0_lentOf X.2.1 Z ad hI d v1 er11) rfl dX0_appendTo_56 rfl (Nat.le_of_ble_eq_true rfl) ?_
                refine g_isub C dX0_appendTo_59 ?_
                obtain ⟨x12, ex12, h⟩ := gl h
                refine g_istore C dX0_appendTo_60 (by decide) [(4, .int x12), (0, .ref (ad 0)), (1, .int v1), (2, .int v2), (3, .int v3)] (by rw [ex12]; rfl) ?_
                refine g_iload C dX0_appendTo_62 0 rfl ?_
                refine g_if_le (tgt := 81) C dX0_appendTo_64 (by decide) (fun c13 => ?_) (fun c13 => ?_)
                · replace h := gi_pos c13 h
                  refine g_aload_n C dX0_appendTo_81 1 rfl ?_
                  refine g_iload_n C dX0_appendTo_82 2 rfl ?_
                  refine g_iload_n C dX0_appendTo_83 3 rfl ?_
                  refine g_iload_n C dX0_appendTo_84 4 rfl ?_
                  obtain ⟨d14, ed14, h⟩ := gb1 h
                  refine g_callWv (rest := []) C gX0_appendTo_X0_write rfl ok_X0_write ⟨by decide, by decide⟩ ⟨rfl, rfl⟩ 0 (by decide) rfl rfl (fun hI => cn_X0_write X.2.1 Z ad hI d v1 v2 v3 ed14) rfl dX0_appendTo_85 rfl (Nat.le_of_ble_eq_true rfl) ?_
                  refine g_aload_n C dX0_appendTo_88 1 rfl ?_
                  refine g_iload_n C dX0_appendTo_89 2 rfl ?_
                  obtain ⟨r15, er15, h⟩ := gb1 h
                  refine g_callWi (rest := []) C gX0_appendTo_X0_extentsOf rfl ok_X0_extentsOf ⟨by decide, by decide⟩ ⟨rfl, rfl⟩ 0 (by decide) rfl rfl (fun hI => cn_X0_extentsOf X.2.1 Z ad hI d14 v1 er15) rfl dX0_appendTo_90 rfl (Nat.le_of_ble_eq_true rfl) ?_
                  cases h
                  exact g_iret C e dX0_appendTo_93
                · replace h := gi_neg c13 h
                  refine g_aload_n C dX0_appendTo_67 1 rfl ?_
                  refine g_iload_n C dX0_appendTo_68 2 rfl ?_
                  refine g_iload C dX0_appendTo_69 0 rfl ?_
                  obtain ⟨d16, ed16, h⟩ := gb1 h
                  refine g_callWv (rest := []) C gX0_appendTo_X0_takeBack rfl ok_X0_takeBack ⟨by decide, by decide⟩ ⟨rfl, rfl⟩ 0 (by decide) rfl rfl (fun hI => cn_X0_takeBack X.2.1 Z ad hI d v1 x12 ed16) rfl dX0_appendTo_71 rfl (Nat.le_of_ble_eq_true rfl) ?_
                  refine g_aload_n C dX0_appendTo_74 1 rfl ?_
                  refine g_iload_n C dX0_appendTo_75 2 rfl ?_
                  refine g_iload C dX0_appendTo_76 0 rfl ?_
                  obtain ⟨d17, ed17, h⟩ := gb1 h
                  refine g_callWv (rest := []) C gX0_appendTo_X0_lengthen rfl ok_X0_lengthen ⟨by decide, by decide⟩ ⟨rfl, rfl⟩ 0 (by decide) rfl rfl (fun hI => cn_X0_lengthen X.2.1 Z ad hI d16 v1 x12 ed17) rfl dX0_appendTo_78 rfl (Nat.le_of_ble_eq_true rfl) ?_
                  refine g_aload_n C dX0_appendTo_81 1 rfl ?_
                  refine g_iload_n C dX0_appendTo_82 2 rfl ?_
                  refine g_iload_n C dX0_appendTo_83 3 rfl ?_
                  refine g_iload_n C dX0_appendTo_84 4 rfl ?_
                  obtain ⟨d18, ed18, h⟩ := gb1 h
                  refine g_callWv (rest := []) C gX0_appendTo_X0_write rfl ok_X0_write ⟨by decide, by decide⟩ ⟨rfl, rfl⟩ 0 (by decide) rfl rfl (fun hI => cn_X0_write X.2.1 Z ad hI d17 v1 v2 v3 ed18) rfl dX0_appendTo_85 rfl (Nat.le_of_ble_eq_true rfl) ?_
                  refine g_aload_n C dX0_appendTo_88 1 rfl ?_
                  refine g_iload_n C dX0_appendTo_89 2 rfl ?_
                  obtain ⟨r19, er19, h⟩ := gb1 h
                  refine g_callWi (rest := []) C gX0_appendTo_X0_extentsOf rfl ok_X0_extentsOf ⟨by decide, by decide⟩ ⟨rfl, rfl⟩ 0 (by decide) rfl rfl (fun hI => cn_X0_extentsOf X.2.1 Z ad hI d18 v1 er19) rfl dX0_appendTo_90 rfl (Nat.le_of_ble_eq_true rfl) ?_
                  cases h
                  exact g_iret C e dX0_appendTo_93
              · replace h := gi_neg c10 h
                refine g_bipush (v := (-4)) C dX0_appendTo_50 (by decide) ?_
                cases h
                exact g_iret C e dX0_appendTo_52
          · replace h := gi_neg c6 h
            refine g_bipush (v := (-2)) C dX0_appendTo_31 (by decide) ?_
            cases h
            exact g_iret C e dX0_appendTo_33
  · replace h := gi_pos c2 h
    refine g_iconst (v := (-1)) C dX0_appendTo_8 (by decide) ?_
    cases h
    exact g_iret C e dX0_appendTo_9
abbrev rm_X0_cutFile : Room := ({ frames := 3, cells := 0, slots := 0, locals := 67 } : Room)
def f_X0_cutFile (d : Nat → Nat → Int32) (v1 : Int32) (v2 : Int32) : Option (Int32 × (Nat → Nat → Int32)) := gb (f_X0_isFile d v1) (fun r1 => if r1 = 0 then some ((-1), d) else if v2 < 0 then some ((-2), d) else if v2 ≤ 64 then gb (f_X0_isOpen d v1) (fun r5 => if r5 = 0 then some ((-4), d) else gb (f_X3_at 8 (d 5) v1) (fun r7 => if v2 ≤ r7 then gb (f_X3_at 8 (d 4) v1) (fun r9 => glet (r9 - v2) (fun x10 => gbb2 (f_X0_giveBack d v1) (fun r11 d12 => gb (f_X0_freeFrom d12 v1 v2) (fun d13 => gb (f_X3_put 8 (d13 5) v1 v2) (fun w14 => glet (va_up d13 5 w14) (fun d15 => gb (f_X3_at 8 (d15 6) v1) (fun r16 => glet (if v2 < r16 then v2 else r16) (fun x17 => gb (f_X3_put 8 (d15 6) v1 x17) (fun w18 => glet (va_up d15 6 w18) (fun d19 => some (x10, d19))))))))))) else some ((-4), d))) else some ((-2), d))
set_option maxRecDepth 20000 in
theorem mm_X0_cutFile_98_1 : Cond.methodLink RX0 98 Lib.Math.min.name ∈ wsX0_cutFile := by decide +kernel
set_option maxRecDepth 20000 in
theorem mm_X0_cutFile_98_2 : Cond.static Lib.Math.min.name ∈ wsX0_cutFile := by decide +kernel
set_option maxRecDepth 20000 in
theorem mm_X0_cutFile_98_3 : Cond.initialized "java/lang/Math" ∈ wsX0_cutFile := by decide +kernel
set_option maxRecDepth 20000 in
theorem mm_X0_cutFile_98_4 : Cond.code Lib.Math.min.name Lib.Math.min.code 2 (some .int) ∈ wsX0_cutFile := by decide +kernel
set_option maxRecDepth 20000 in
theorem in_X0_cutFile : ∀ w ∈ wsX00, w ∈ wsX0_cutFile := by decide +kernel
set_option maxRecDepth 20000 in
theorem fl_X0_cutFile_35 : Cond.fieldLink RX0 35 (TX0 6).1 (TX0 6).2.1 (TX0 6).2.2.1 ∈ wsX0_cutFile := by decide +kernel
set_option maxRecDepth 20000 in
theorem fl_X0_cutFile_32 : Cond.fieldLink RX0 32 (TX0 5).1 (TX0 5).2.1 (TX0 5).2.2.1 ∈ wsX0_cutFile := by decide +kernel
set_option maxRecDepth 20000 in
theorem fl_X0_cutFile_29 : Cond.fieldLink RX0 29 (TX0 4).1 (TX0 4).2.1 (TX0 4).2.2.1 ∈ wsX0_cutFile := by decide +kernel
set_option maxHeartbeats 4000000 in
set_option maxRecDepth 100000 in
theorem cn_X0_cutFile (l : Launch) (Z : gZ) (ad : Nat → Nat) (hI : gInj 21 ad) (d : Nat → Nat → Int32) (v1 : Int32) (v2 : Int32) {r : Int32} {d' : Nat → Nat → Int32} (h : f_X0_cutFile d v1 v2 = some (r, d')) : gI l yX0_cutFile wsX0_cutFile rm_X0_cutFile Z 21 ad [.ref (ad 0), .int v1, .int v2] (dskE Z.2.1 ad d) r (dskE Z.2.1 ad d') := by
  refine g_entryI (cc := cX0_cutFile) (maxL := 4) (by decide +kernel) rfl hI (Nat.le_of_ble_eq_true rfl) (fun X C e => ?_)
  unfold f_X0_cutFile at h
  show GG X Z 4 21 ad (dskE Z.2.1 ad d) 0 [(0, .ref (ad 0)), (1, .int v1), (2, .int v2)] []
  refine g_aload_n C dX0_cutFile_0 0 rfl ?_
  refine g_iload_n C dX0_cutFile_1 1 rfl ?_
  obtain ⟨r1, er1, h⟩ := gb1 h
  refine g_callWi (rest := []) C gX0_cutFile_X0_isFile rfl ok_X0_isFile ⟨by decide, by decide⟩ ⟨rfl, rfl⟩ 0 (by decide) rfl rfl (fun hI => cn_X0_isFile X.2.1 Z ad hI d v1 er1) rfl dX0_cutFile_2 rfl (Nat.le_of_ble_eq_true rfl) ?_
  refine g_if_ne (tgt := 10) C dX0_cutFile_5 (by decide) (fun c2 => ?_) (fun c2 => ?_)
  · replace h := gi_neg c2 h
    refine g_iload_n C dX0_cutFile_10 2 rfl ?_
    refine g_if_lt (tgt := 20) C dX0_cutFile_11 (by decide) (fun c3 => ?_) (fun c3 => ?_)
    · replace h := gi_pos c3 h
      refine g_bipush (v := (-2)) C dX0_cutFile_20 (by decide) ?_
      cases h
      exact g_iret C e dX0_cutFile_22
    · replace h := gi_neg c3 h
      refine g_iload_n C dX0_cutFile_14 2 rfl ?_
      refine g_bipush (v := 64) C dX0_cutFile_15 (by decide) ?_
      refine g_icmp_le (tgt := 23) C dX0_cutFile_17 (by decide) (fun c4 => ?_) (fun c4 => ?_)
      · replace h := gi_pos c4 h
        refine g_aload_n C dX0_cutFile_23 0 rfl ?_
        refine g_iload_n C dX0_cutFile_24 1 rfl ?_
        obtain ⟨r5, er5, h⟩ := gb1 h
        refine g_callWi (rest := []) C gX0_cutFile_X0_isOpen rfl ok_X0_isOpen ⟨by decide, by decide⟩ ⟨rfl, rfl⟩ 0 (by decide) rfl rfl (fun hI => cn_X0_isOpen X.2.1 Z ad hI d v1 er5) rfl dX0_cutFile_25 rfl (Nat.le_of_ble_eq_true rfl) ?_
        refine g_if_eq (tgt := 43) C dX0_cutFile_28 (by decide) (fun c6 => ?_) (fun c6 => ?_)
        · replace h := gi_pos c6 h
          refine g_bipush (v := (-4)) C dX0_cutFile_43 (by decide) ?_
          cases h
          exact g_iret C e dX0_cutFile_45
        · replace h := gi_neg c6 h
          refine g_iload_n C dX0_cutFile_31 2 rfl ?_
          refine g_aload_n C dX0_cutFile_32 0 rfl ?_
          refine g_getf (v := .ref (ad 11)) C 0 (by decide) rfl rfl in_X0_cutFile 5 (by decide) fl_X0_cutFile_32 rfl dX0_cutFile_33 ?_
          refine g_iload_n C dX0_cutFile_36 1 rfl ?_
          obtain ⟨r7, er7, h⟩ := gb1 h
          refine g_callVi (rest := [.int v2]) C gX0_cutFile_X3_at rfl ok_X3_at ⟨by decide, by decide⟩ ⟨rfl, rfl⟩ 11 2 (by decide) (adc := fun i => ad (11 + i)) (fun _ _ => rfl) (dskE_row 5 (by decide)) 0 (by decide) rfl rfl (fun hI => cn_X3_at X.2.1 Z (fun i => ad (11 + i)) hI 8 (d 5) v1 er7) rfl dX0_cutFile_37 rfl (Nat.le_of_ble_eq_true rfl) (dskE Z.2.1 ad d) (dskE_id 5 (by decide)) ?_
          refine g_icmp_le (tgt := 46) C dX0_cutFile_40 (by decide) (fun c8 => ?_) (fun c8 => ?_)
          · replace h := gi_pos c8 h
            refine g_aload_n C dX0_cutFile_46 0 rfl ?_
            refine g_getf (v := .ref (ad 9)) C 0 (by decide) rfl rfl in_X0_cutFile 4 (by decide) fl_X0_cutFile_29 rfl dX0_cutFile_47 ?_
            refine g_iload_n C dX0_cutFile_50 1 rfl ?_
            obtain ⟨r9, er9, h⟩ := gb1 h
            refine g_callVi (rest := []) C gX0_cutFile_X3_at rfl ok_X3_at ⟨by decide, by decide⟩ ⟨rfl, rfl⟩ 9 2 (by decide) (adc := fun i => ad (9 + i)) (fun _ _ => rfl) (dskE_row 4 (by decide)) 0 (by decide) rfl rfl (fun hI => cn_X3_at X.2.1 Z (fun i => ad (9 + i)) hI 8 (d 4) v1 er9) rfl dX0_cutFile_51 rfl (Nat.le_of_ble_eq_true rfl) (dskE Z.2.1 ad d) (dskE_id 4 (by decide)) ?_
            refine g_iload_n C dX0_cutFile_54 2 rfl ?_
            refine g_isub C dX0_cutFile_55 ?_
            obtain ⟨x10, ex10, h⟩ := gl h
            refine g_istore_n C dX0_cutFile_56 (by decide) [(3, .int x10), (0, .ref (ad 0)), (1, .int v1), (2, .int v2)] (by rw [ex10]; rfl) ?_
            refine g_aload_n C dX0_cutFile_57 1 rfl ?_
            refine g_iload_n C dX0_cutFile_58 2 rfl ?_
            obtain ⟨r11, d12, er11, h⟩ := gb2 h
            refine g_callWi (rest := []) C gX0_cutFile_X0_giveBack rfl ok_X0_giveBack ⟨by decide, by decide⟩ ⟨rfl, rfl⟩ 0 (by decide) rfl rfl (fun hI => cn_X0_giveBack X.2.1 Z ad hI d v1 er11) rfl dX0_cutFile_59 rfl (Nat.le_of_ble_eq_true rfl) ?_
            refine g_pop C dX0_cutFile_62 rfl ?_
            refine g_aload_n C dX0_cutFile_63 1 rfl ?_
            refine g_iload_n C dX0_cutFile_64 2 rfl ?_
            refine g_iload_n C dX0_cutFile_65 3 rfl ?_
            obtain ⟨d13, ed13, h⟩ := gb1 h
            refine g_callWv (rest := []) C gX0_cutFile_X0_freeFrom rfl ok_X0_freeFrom ⟨by decide, by decide⟩ ⟨rfl, rfl⟩ 0 (by decide) rfl rfl (fun hI => cn_X0_freeFrom X.2.1 Z ad hI d12 v1 v2 ed13) rfl dX0_cutFile_66 rfl (Nat.le_of_ble_eq_true rfl) ?_
            refine g_aload_n C dX0_cutFile_69 1 rfl ?_
            refine g_getf (v := .ref (ad 11)) C 0 (by decide) rfl rfl in_X0_cutFile 5 (by decide) fl_X0_cutFile_32 rfl dX0_cutFile_70 ?_
            refine g_iload_n C dX0_cutFile_73 2 rfl ?_
            refine g_iload_n C dX0_cutFile_74 3 rfl ?_
            obtain ⟨w14, ew14, h⟩ := gb1 h
            obtain ⟨d15, ed15, h⟩ := gl h
            refine g_callVv (rest := []) C gX0_cutFile_X3_put rfl ok_X3_put ⟨by decide, by decide⟩ ⟨rfl, rfl⟩ 11 2 (by decide) (adc := fun i => ad (11 + i)) (fun _ _ => rfl) (dskE_row 5 (by decide)) 0 (by decide) rfl rfl (fun hI => cn_X3_put X.2.1 Z (fun i => ad (11 + i)) hI 8 (d13 5) v1 v2 ew14) rfl dX0_cutFile_75 rfl (Nat.le_of_ble_eq_true rfl) (dskE Z.2.1 ad d15) (by rw [ed15]; exact (dskE_up 5 (by decide))) ?_
            refine g_aload_n C dX0_cutFile_78 1 rfl ?_
            refine g_getf (v := .ref (ad 13)) C 0 (by decide) rfl rfl in_X0_cutFile 6 (by decide) fl_X0_cutFile_35 rfl dX0_cutFile_79 ?_
            refine g_iload_n C dX0_cutFile_82 2 rfl ?_
            refine g_aload_n C dX0_cutFile_83 1 rfl ?_
            refine g_getf (v := .ref (ad 13)) C 0 (by decide) rfl rfl in_X0_cutFile 6 (by decide) fl_X0_cutFile_35 rfl dX0_cutFile_84 ?_
            refine g_iload_n C dX0_cutFile_87 2 rfl ?_
            obtain ⟨r16, er16, h⟩ := gb1 h
            refine g_callVi (rest := [.int v1, .ref (ad 13)]) C gX0_cutFile_X3_at rfl ok_X3_at ⟨by decide, by decide⟩ ⟨rfl, rfl⟩ 13 2 (by decide) (adc := fun i => ad (13 + i)) (fun _ _ => rfl) (dskE_row 6 (by decide)) 0 (by decide) rfl rfl (fun hI => cn_X3_at X.2.1 Z (fun i => ad (13 + i)) hI 8 (d15 6) v1 er16) rfl dX0_cutFile_88 rfl (Nat.le_of_ble_eq_true rfl) (dskE Z.2.1 ad d15) (dskE_id 6 (by decide)) ?_
            refine g_iload_n C dX0_cutFile_91 3 rfl ?_
            obtain ⟨x17, ex17, h⟩ := gl h
            refine g_mmin C mm_X0_cutFile_98_1 mm_X0_cutFile_98_2 mm_X0_cutFile_98_3 mm_X0_cutFile_98_4 (by decide) (Nat.le_of_ble_eq_true rfl) dX0_cutFile_92 ?_
            rw [← ex17]
            obtain ⟨w18, ew18, h⟩ := gb1 h
            obtain ⟨d19, ed19, h⟩ := gl h
            refine g_callVv (rest := []) C gX0_cutFile_X3_put rfl ok_X3_put ⟨by decide, by decide⟩ ⟨rfl, rfl⟩ 13 2 (by decide) (adc := fun i => ad (13 + i)) (fun _ _ => rfl) (dskE_row 6 (by decide)) 0 (by decide) rfl rfl (fun hI => cn_X3_put X.2.1 Z (fun i => ad (13 + i)) hI 8 (d15 6) v1 x17 ew18) rfl dX0_cutFile_95 rfl (Nat.le_of_ble_eq_true rfl) (dskE Z.2.1 ad d19) (by rw [ed19]; exact (dskE_up 6 (by decide))) ?_
            refine g_iload_n C dX0_cutFile_98 0 rfl ?_
            cases h
            exact g_iret C e dX0_cutFile_99
          · replace h := gi_neg c8 h
            refine g_bipush (v := (-4)) C dX0_cutFile_43 (by decide) ?_
            cases h
            exact g_iret C e dX0_cutFile_45
      · replace h := gi_neg c4 h
        refine g_bipush (v := (-2)) C dX0_cutFile_20 (by decide) ?_
        cases h
        exact g_iret C e dX0_cutFile_22
  · replace h := gi_pos c2 h
    refine g_iconst (v := (-1)) C dX0_cutFile_8 (by decide) ?_
    cases h
    exact g_iret C e dX0_cutFile_9
abbrev rm_X0_crashAll : Room := ({ frames := 2, cells := 0, slots := 0, locals := 43 } : Room)
def f_X0_crashAll_L4  : Nat → Int32 → Int32 → (Nat → Nat → Int32) → Option (Int32 × (Nat → Nat → Int32))
  | 0, _, _, _ => none
  | fu + 1, v1, v2, d => if 8 ≤ v2 then gb (f_X3_grow 4 (d 9) 3 v1) (fun w2 => glet (va_up d 9 w2) (fun d3 => some (v1, d3))) else gb (f_X0_isFile d v2) (fun r4 => if r4 = 0 then glet (v2 + 1) (fun x6 => f_X0_crashAll_L4 fu v1 x6 d) else gb (f_X3_at 8 (d 5) v2) (fun r7 => gb (f_X3_at 8 (d 6) v2) (fun r8 => glet (v1 + (r7 - r8)) (fun x9 => gb (f_X3_at 8 (d 6) v2) (fun r10 => gb (f_X3_put 8 (d 5) v2 r10) (fun w11 => glet (va_up d 5 w11) (fun d12 => gb (f_X3_put 8 (d12 7) v2 1) (fun w13 => glet (va_up d12 7 w13) (fun d14 => gb (f_X3_put 8 (d14 3) v2 1) (fun w15 => glet (va_up d14 3 w15) (fun d16 => glet (v2 + 1) (fun x17 => f_X0_crashAll_L4 fu x9 x17 d16))))))))))))
def f_X0_crashAll (d : Nat → Nat → Int32) : Option (Int32 × (Nat → Nat → Int32)) := f_X0_crashAll_L4 gFu 0 0 d
set_option maxRecDepth 20000 in
theorem in_X0_crashAll : ∀ w ∈ wsX00, w ∈ wsX0_crashAll := by decide +kernel
set_option maxRecDepth 20000 in
theorem fl_X0_crashAll_44 : Cond.fieldLink RX0 44 (TX0 9).1 (TX0 9).2.1 (TX0 9).2.2.1 ∈ wsX0_crashAll := by decide +kernel
set_option maxRecDepth 20000 in
theorem fl_X0_crashAll_26 : Cond.fieldLink RX0 26 (TX0 3).1 (TX0 3).2.1 (TX0 3).2.2.1 ∈ wsX0_crashAll := by decide +kernel
set_option maxRecDepth 20000 in
theorem fl_X0_crashAll_38 : Cond.fieldLink RX0 38 (TX0 7).1 (TX0 7).2.1 (TX0 7).2.2.1 ∈ wsX0_crashAll := by decide +kernel
set_option maxRecDepth 20000 in
theorem fl_X0_crashAll_35 : Cond.fieldLink RX0 35 (TX0 6).1 (TX0 6).2.1 (TX0 6).2.2.1 ∈ wsX0_crashAll := by decide +kernel
set_option maxRecDepth 20000 in
theorem fl_X0_crashAll_32 : Cond.fieldLink RX0 32 (TX0 5).1 (TX0 5).2.1 (TX0 5).2.2.1 ∈ wsX0_crashAll := by decide +kernel
set_option maxHeartbeats 4000000 in
set_option maxRecDepth 100000 in
theorem cl_X0_crashAll_L4 {X : gX} {Z : gZ} {ad : Nat → Nat}  {r : Int32} {d' : Nat → Nat → Int32} (C : GC X Z cX0_crashAll 3 wsX0_crashAll RX0 rm_X0_crashAll 21 ad) (e : gEI X Z 21 ad .int r (dskE Z.2.1 ad d'))  : ∀ (fu : Nat) (v1 : Int32) (v2 : Int32) (d : Nat → Nat → Int32) (h : f_X0_crashAll_L4  fu v1 v2 d = some (r, d')), GG X Z 3 21 ad (dskE Z.2.1 ad d) 4 [(0, .ref (ad 0)), (1, .int v1), (2, .int v2)] [] := by
  intro fu
  induction fu with
  | zero => intro v1 v2 d h; cases h
  | succ fu ih =>
    intro v1 v2 d h
    rw [f_X0_crashAll_L4] at h
    refine g_iload_n C dX0_crashAll_4 2 rfl ?_
    refine g_bipush (v := 8) C dX0_crashAll_5 (by decide) ?_
    refine g_icmp_ge (tgt := 78) C dX0_crashAll_7 (by decide) (fun c1 => ?_) (fun c1 => ?_)
    · replace h := gi_pos c1 h
      refine g_aload_n C dX0_crashAll_78 0 rfl ?_
      refine g_getf (v := .ref (ad 19)) C 0 (by decide) rfl rfl in_X0_crashAll 9 (by decide) fl_X0_crashAll_44 rfl dX0_crashAll_79 ?_
      refine g_iconst (v := 3) C dX0_crashAll_82 (by decide) ?_
      refine g_iload_n C dX0_crashAll_83 1 rfl ?_
      obtain ⟨w2, ew2, h⟩ := gb1 h
      obtain ⟨d3, ed3, h⟩ := gl h
      refine g_callVv (rest := []) C gX0_crashAll_X3_grow rfl ok_X3_grow ⟨by decide, by decide⟩ ⟨rfl, rfl⟩ 19 2 (by decide) (adc := fun i => ad (19 + i)) (fun _ _ => rfl) (dskE_row 9 (by decide)) 0 (by decide) rfl rfl (fun hI => cn_X3_grow X.2.1 Z (fun i => ad (19 + i)) hI 4 (d 9) 3 v1 ew2) rfl dX0_crashAll_84 rfl (Nat.le_of_ble_eq_true rfl) (dskE Z.2.1 ad d3) (by rw [ed3]; exact (dskE_up 9 (by decide))) ?_
      refine g_iload_n C dX0_crashAll_87 1 rfl ?_
      cases h
      exact g_iret C e dX0_crashAll_88
    · replace h := gi_neg c1 h
      refine g_aload_n C dX0_crashAll_10 0 rfl ?_
      refine g_iload_n C dX0_crashAll_11 2 rfl ?_
      obtain ⟨r4, er4, h⟩ := gb1 h
      refine g_callWi (rest := []) C gX0_crashAll_X0_isFile rfl ok_X0_isFile ⟨by decide, by decide⟩ ⟨rfl, rfl⟩ 0 (by decide) rfl rfl (fun hI => cn_X0_isFile X.2.1 Z ad hI d v2 er4) rfl dX0_crashAll_12 rfl (Nat.le_of_ble_eq_true rfl) ?_
      refine g_if_eq (tgt := 72) C dX0_crashAll_15 (by decide) (fun c5 => ?_) (fun c5 => ?_)
      · replace h := gi_pos c5 h
        obtain ⟨x6, ex6, h⟩ := gl h
        refine g_iinc (v := x6) C dX0_crashAll_72 2 rfl (by rw [ex6]; rfl) (by decide) [(2, .int x6), (0, .ref (ad 0)), (1, .int v1)] rfl ?_
        refine g_goto (tgt := 4) C dX0_crashAll_75 (by decide) ?_
        exact g_sub [1, 2, 0] rfl (ih v1 x6 d h)
      · replace h := gi_neg c5 h
        refine g_iload_n C dX0_crashAll_18 1 rfl ?_
        refine g_aload_n C dX0_crashAll_19 0 rfl ?_
        refine g_getf (v := .ref (ad 11)) C 0 (by decide) rfl rfl in_X0_crashAll 5 (by decide) fl_X0_crashAll_32 rfl dX0_crashAll_20 ?_
        refine g_iload_n C dX0_crashAll_23 2 rfl ?_
        obtain ⟨r7, er7, h⟩ := gb1 h
        refine g_callVi (rest := [.int v1]) C gX0_crashAll_X3_at rfl ok_X3_at ⟨by decide, by decide⟩ ⟨rfl, rfl⟩ 11 2 (by decide) (adc := fun i => ad (11 + i)) (fun _ _ => rfl) (dskE_row 5 (by decide)) 0 (by decide) rfl rfl (fun hI => cn_X3_at X.2.1 Z (fun i => ad (11 + i)) hI 8 (d 5) v2 er7) rfl dX0_crashAll_24 rfl (Nat.le_of_ble_eq_true rfl) (dskE Z.2.1 ad d) (dskE_id 5 (by decide)) ?_
        refine g_aload_n C dX0_crashAll_27 0 rfl ?_
        refine g_getf (v := .ref (ad 13)) C 0 (by decide) rfl rfl in_X0_crashAll 6 (by decide) fl_X0_crashAll_35 rfl dX0_crashAll_28 ?_
        refine g_iload_n C dX0_crashAll_31 2 rfl ?_
        obtain ⟨r8, er8, h⟩ := gb1 h
        refine g_callVi (rest := [.int r7, .int v1]) C gX0_crashAll_X3_at rfl ok_X3_at ⟨by decide, by decide⟩ ⟨rfl, rfl⟩ 13 2 (by decide) (adc := fun i => ad (13 + i)) (fun _ _ => rfl) (dskE_row 6 (by decide)) 0 (by decide) rfl rfl (fun hI => cn_X3_at X.2.1 Z (fun i => ad (13 + i)) hI 8 (d 6) v2 er8) rfl dX0_crashAll_32 rfl (Nat.le_of_ble_eq_true rfl) (dskE Z.2.1 ad d) (dskE_id 6 (by decide)) ?_
        refine g_isub C dX0_crashAll_35 ?_
        refine g_iadd C dX0_crashAll_36 ?_
        obtain ⟨x9, ex9, h⟩ := gl h
        refine g_istore_n C dX0_crashAll_37 (by decide) [(1, .int x9), (0, .ref (ad 0)), (2, .int v2)] (by rw [ex9]; rfl) ?_
        refine g_aload_n C dX0_crashAll_38 1 rfl ?_
        refine g_getf (v := .ref (ad 11)) C 0 (by decide) rfl rfl in_X0_crashAll 5 (by decide) fl_X0_crashAll_32 rfl dX0_crashAll_39 ?_
        refine g_iload_n C dX0_crashAll_42 2 rfl ?_
        refine g_aload_n C dX0_crashAll_43 1 rfl ?_
        refine g_getf (v := .ref (ad 13)) C 0 (by decide) rfl rfl in_X0_crashAll 6 (by decide) fl_X0_crashAll_35 rfl dX0_crashAll_44 ?_
        refine g_iload_n C dX0_crashAll_47 2 rfl ?_
        obtain ⟨r10, er10, h⟩ := gb1 h
        refine g_callVi (rest := [.int v2, .ref (ad 11)]) C gX0_crashAll_X3_at rfl ok_X3_at ⟨by decide, by decide⟩ ⟨rfl, rfl⟩ 13 2 (by decide) (adc := fun i => ad (13 + i)) (fun _ _ => rfl) (dskE_row 6 (by decide)) 0 (by decide) rfl rfl (fun hI => cn_X3_at X.2.1 Z (fun i => ad (13 + i)) hI 8 (d 6) v2 er10) rfl dX0_crashAll_48 rfl (Nat.le_of_ble_eq_true rfl) (dskE Z.2.1 ad d) (dskE_id 6 (by decide)) ?_
        obtain ⟨w11, ew11, h⟩ := gb1 h
        obtain ⟨d12, ed12, h⟩ := gl h
        refine g_callVv (rest := []) C gX0_crashAll_X3_put rfl ok_X3_put ⟨by decide, by decide⟩ ⟨rfl, rfl⟩ 11 2 (by decide) (adc := fun i => ad (11 + i)) (fun _ _ => rfl) (dskE_row 5 (by decide)) 0 (by decide) rfl rfl (fun hI => cn_X3_put X.2.1 Z (fun i => ad (11 + i)) hI 8 (d 5) v2 r10 ew11) rfl dX0_crashAll_51 rfl (Nat.le_of_ble_eq_true rfl) (dskE Z.2.1 ad d12) (by rw [ed12]; exact (dskE_up 5 (by decide))) ?_
        refine g_aload_n C dX0_crashAll_54 1 rfl ?_
        refine g_getf (v := .ref (ad 15)) C 0 (by decide) rfl rfl in_X0_crashAll 7 (by decide) fl_X0_crashAll_38 rfl dX0_crashAll_55 ?_
        refine g_iload_n C dX0_crashAll_58 2 rfl ?_
        refine g_iconst (v := 1) C dX0_crashAll_59 (by decide) ?_
        obtain ⟨w13, ew13, h⟩ := gb1 h
        obtain ⟨d14, ed14, h⟩ := gl h
        refine g_callVv (rest := []) C gX0_crashAll_X3_put rfl ok_X3_put ⟨by decide, by decide⟩ ⟨rfl, rfl⟩ 15 2 (by decide) (adc := fun i => ad (15 + i)) (fun _ _ => rfl) (dskE_row 7 (by decide)) 0 (by decide) rfl rfl (fun hI => cn_X3_put X.2.1 Z (fun i => ad (15 + i)) hI 8 (d12 7) v2 1 ew13) rfl dX0_crashAll_60 rfl (Nat.le_of_ble_eq_true rfl) (dskE Z.2.1 ad d14) (by rw [ed14]; exact (dskE_up 7 (by decide))) ?_
        refine g_aload_n C dX0_crashAll_63 1 rfl ?_
        refine g_getf (v := .ref (ad 7)) C 0 (by decide) rfl rfl in_X0_crashAll 3 (by decide) fl_X0_crashAll_26 rfl dX0_crashAll_64 ?_
        refine g_iload_n C dX0_crashAll_67 2 rfl ?_
        refine g_iconst (v := 1) C dX0_crashAll_68 (by decide) ?_
        obtain ⟨w15, ew15, h⟩ := gb1 h
        obtain ⟨d16, ed16, h⟩ := gl h
        refine g_callVv (rest := []) C gX0_crashAll_X3_put rfl ok_X3_put ⟨by decide, by decide⟩ ⟨rfl, rfl⟩ 7 2 (by decide) (adc := fun i => ad (7 + i)) (fun _ _ => rfl) (dskE_row 3 (by decide)) 0 (by decide) rfl rfl (fun hI => cn_X3_put X.2.1 Z (fun i => ad (7 + i)) hI 8 (d14 3) v2 1 ew15) rfl dX0_crashAll_69 rfl (Nat.le_of_ble_eq_true rfl) (dskE Z.2.1 ad d16) (by rw [ed16]; exact (dskE_up 3 (by decide))) ?_
        obtain ⟨x17, ex17, h⟩ := gl h
        refine g_iinc (v := x17) C dX0_crashAll_72 2 rfl (by rw [ex17]; rfl) (by decide) [(2, .int x17), (1, .int x9), (0, .ref (ad 0))] rfl ?_
        refine g_goto (tgt := 4) C dX0_crashAll_75 (by decide) ?_
        exact g_sub [2, 1, 0] rfl (ih x9 x17 d16 h)
set_option maxHeartbeats 4000000 in
set_option maxRecDepth 100000 in
theorem cn_X0_crashAll (l : Launch) (Z : gZ) (ad : Nat → Nat) (hI : gInj 21 ad) (d : Nat → Nat → Int32) {r : Int32} {d' : Nat → Nat → Int32} (h : f_X0_crashAll d = some (r, d')) : gI l yX0_crashAll wsX0_crashAll rm_X0_crashAll Z 21 ad [.ref (ad 0)] (dskE Z.2.1 ad d) r (dskE Z.2.1 ad d') := by
  refine g_entryI (cc := cX0_crashAll) (maxL := 3) (by decide +kernel) rfl hI (Nat.le_of_ble_eq_true rfl) (fun X C e => ?_)
  unfold f_X0_crashAll at h
  show GG X Z 3 21 ad (dskE Z.2.1 ad d) 0 [(0, .ref (ad 0))] []
  refine g_iconst (v := 0) C dX0_crashAll_0 (by decide) ?_
  refine g_istore_n C dX0_crashAll_1 (by decide) [(1, .int 0), (0, .ref (ad 0))] rfl ?_
  refine g_iconst (v := 0) C dX0_crashAll_2 (by decide) ?_
  refine g_istore_n C dX0_crashAll_3 (by decide) [(2, .int 0), (1, .int 0), (0, .ref (ad 0))] rfl ?_
  exact g_sub [2, 1, 0] rfl (cl_X0_crashAll_L4 C e gFu 0 0 d h)
abbrev rm_X0_mendAll : Room := ({ frames := 3, cells := 0, slots := 0, locals := 67 } : Room)
def f_X0_mendAll_L4  : Nat → Int32 → Int32 → (Nat → Nat → Int32) → Option (Int32 × (Nat → Nat → Int32))
  | 0, _, _, _ => none
  | fu + 1, v1, v2, d => if 8 ≤ v2 then some (v1, d) else gb (f_X3_holds 8 (d 3) v2 1) (fun r2 => if r2 = 0 then glet (v2 + 1) (fun x4 => f_X0_mendAll_L4 fu v1 x4 d) else gbb2 (f_X0_giveBack d v2) (fun r5 d6 => glet (v1 + r5) (fun x7 => glet (v2 + 1) (fun x8 => f_X0_mendAll_L4 fu x7 x8 d6))))
def f_X0_mendAll (d : Nat → Nat → Int32) : Option (Int32 × (Nat → Nat → Int32)) := f_X0_mendAll_L4 gFu 0 0 d
set_option maxRecDepth 20000 in
theorem in_X0_mendAll : ∀ w ∈ wsX00, w ∈ wsX0_mendAll := by decide +kernel
set_option maxRecDepth 20000 in
theorem fl_X0_mendAll_26 : Cond.fieldLink RX0 26 (TX0 3).1 (TX0 3).2.1 (TX0 3).2.2.1 ∈ wsX0_mendAll := by decide +kernel
set_option maxHeartbeats 4000000 in
set_option maxRecDepth 100000 in
theorem cl_X0_mendAll_L4 {X : gX} {Z : gZ} {ad : Nat → Nat}  {r : Int32} {d' : Nat → Nat → Int32} (C : GC X Z cX0_mendAll 3 wsX0_mendAll RX0 rm_X0_mendAll 21 ad) (e : gEI X Z 21 ad .int r (dskE Z.2.1 ad d'))  : ∀ (fu : Nat) (v1 : Int32) (v2 : Int32) (d : Nat → Nat → Int32) (h : f_X0_mendAll_L4  fu v1 v2 d = some (r, d')), GG X Z 3 21 ad (dskE Z.2.1 ad d) 4 [(0, .ref (ad 0)), (1, .int v1), (2, .int v2)] [] := by
  intro fu
  induction fu with
  | zero => intro v1 v2 d h; cases h
  | succ fu ih =>
    intro v1 v2 d h
    rw [f_X0_mendAll_L4] at h
    refine g_iload_n C dX0_mendAll_4 2 rfl ?_
    refine g_bipush (v := 8) C dX0_mendAll_5 (by decide) ?_
    refine g_icmp_ge (tgt := 36) C dX0_mendAll_7 (by decide) (fun c1 => ?_) (fun c1 => ?_)
    · replace h := gi_pos c1 h
      refine g_iload_n C dX0_mendAll_36 1 rfl ?_
      cases h
      exact g_iret C e dX0_mendAll_37
    · replace h := gi_neg c1 h
      refine g_aload_n C dX0_mendAll_10 0 rfl ?_
      refine g_getf (v := .ref (ad 7)) C 0 (by decide) rfl rfl in_X0_mendAll 3 (by decide) fl_X0_mendAll_26 rfl dX0_mendAll_11 ?_
      refine g_iload_n C dX0_mendAll_14 2 rfl ?_
      refine g_iconst (v := 1) C dX0_mendAll_15 (by decide) ?_
      obtain ⟨r2, er2, h⟩ := gb1 h
      refine g_callVi (rest := []) C gX0_mendAll_X3_holds rfl ok_X3_holds ⟨by decide, by decide⟩ ⟨rfl, rfl⟩ 7 2 (by decide) (adc := fun i => ad (7 + i)) (fun _ _ => rfl) (dskE_row 3 (by decide)) 0 (by decide) rfl rfl (fun hI => cn_X3_holds X.2.1 Z (fun i => ad (7 + i)) hI 8 (d 3) v2 1 er2) rfl dX0_mendAll_16 rfl (Nat.le_of_ble_eq_true rfl) (dskE Z.2.1 ad d) (dskE_id 3 (by decide)) ?_
      refine g_if_eq (tgt := 30) C dX0_mendAll_19 (by decide) (fun c3 => ?_) (fun c3 => ?_)
      · replace h := gi_pos c3 h
        obtain ⟨x4, ex4, h⟩ := gl h
        refine g_iinc (v := x4) C dX0_mendAll_30 2 rfl (by rw [ex4]; rfl) (by decide) [(2, .int x4), (0, .ref (ad 0)), (1, .int v1)] rfl ?_
        refine g_goto (tgt := 4) C dX0_mendAll_33 (by decide) ?_
        exact g_sub [1, 2, 0] rfl (ih v1 x4 d h)
      · replace h := gi_neg c3 h
        refine g_iload_n C dX0_mendAll_22 1 rfl ?_
        refine g_aload_n C dX0_mendAll_23 0 rfl ?_
        refine g_iload_n C dX0_mendAll_24 2 rfl ?_
        obtain ⟨r5, d6, er5, h⟩ := gb2 h
        refine g_callWi (rest := [.int v1]) C gX0_mendAll_X0_giveBack rfl ok_X0_giveBack ⟨by decide, by decide⟩ ⟨rfl, rfl⟩ 0 (by decide) rfl rfl (fun hI => cn_X0_giveBack X.2.1 Z ad hI d v2 er5) rfl dX0_mendAll_25 rfl (Nat.le_of_ble_eq_true rfl) ?_
        refine g_iadd C dX0_mendAll_28 ?_
        obtain ⟨x7, ex7, h⟩ := gl h
        refine g_istore_n C dX0_mendAll_29 (by decide) [(1, .int x7), (0, .ref (ad 0)), (2, .int v2)] (by rw [ex7]; rfl) ?_
        obtain ⟨x8, ex8, h⟩ := gl h
        refine g_iinc (v := x8) C dX0_mendAll_30 2 rfl (by rw [ex8]; rfl) (by decide) [(2, .int x8), (1, .int x7), (0, .ref (ad 0))] rfl ?_
        refine g_goto (tgt := 4) C dX0_mendAll_33 (by decide) ?_
        exact g_sub [2, 1, 0] rfl (ih x7 x8 d6 h)
set_option maxHeartbeats 4000000 in
set_option maxRecDepth 100000 in
theorem cn_X0_mendAll (l : Launch) (Z : gZ) (ad : Nat → Nat) (hI : gInj 21 ad) (d : Nat → Nat → Int32) {r : Int32} {d' : Nat → Nat → Int32} (h : f_X0_mendAll d = some (r, d')) : gI l yX0_mendAll wsX0_mendAll rm_X0_mendAll Z 21 ad [.ref (ad 0)] (dskE Z.2.1 ad d) r (dskE Z.2.1 ad d') := by
  refine g_entryI (cc := cX0_mendAll) (maxL := 3) (by decide +kernel) rfl hI (Nat.le_of_ble_eq_true rfl) (fun X C e => ?_)
  unfold f_X0_mendAll at h
  show GG X Z 3 21 ad (dskE Z.2.1 ad d) 0 [(0, .ref (ad 0))] []
  refine g_iconst (v := 0) C dX0_mendAll_0 (by decide) ?_
  refine g_istore_n C dX0_mendAll_1 (by decide) [(1, .int 0), (0, .ref (ad 0))] rfl ?_
  refine g_iconst (v := 0) C dX0_mendAll_2 (by decide) ?_
  refine g_istore_n C dX0_mendAll_3 (by decide) [(2, .int 0), (1, .int 0), (0, .ref (ad 0))] rfl ?_
  exact g_sub [2, 1, 0] rfl (cl_X0_mendAll_L4 C e gFu 0 0 d h)
abbrev rm_X0_changeSetting : Room := ({ frames := 1, cells := 0, slots := 0, locals := 22 } : Room)
def f_X0_changeSetting (d : Nat → Nat → Int32) (v1 : Int32) (v2 : Int32) : Option (Int32 × (Nat → Nat → Int32)) := if v1 = 0 then if v2 < 0 then some ((-2), d) else if v2 ≤ 16 then gb (f_X3_at 2 (d 8) v1) (fun r4 => gb (f_X3_put 2 (d 8) v1 v2) (fun w5 => glet (va_up d 8 w5) (fun d6 => some (r4, d6)))) else some ((-2), d) else if v1 = 1 then if v2 < 0 then some ((-2), d) else if v2 ≤ 1 then gb (f_X3_at 2 (d 8) v1) (fun r10 => gb (f_X3_put 2 (d 8) v1 v2) (fun w11 => glet (va_up d 8 w11) (fun d12 => some (r10, d12)))) else some ((-2), d) else some ((-1), d)
set_option maxRecDepth 20000 in
theorem in_X0_changeSetting : ∀ w ∈ wsX00, w ∈ wsX0_changeSetting := by decide +kernel
set_option maxRecDepth 20000 in
theorem fl_X0_changeSetting_41 : Cond.fieldLink RX0 41 (TX0 8).1 (TX0 8).2.1 (TX0 8).2.2.1 ∈ wsX0_changeSetting := by decide +kernel
set_option maxHeartbeats 4000000 in
set_option maxRecDepth 100000 in
theorem cn_X0_changeSetting (l : Launch) (Z : gZ) (ad : Nat → Nat) (hI : gInj 21 ad) (d : Nat → Nat → Int32) (v1 : Int32) (v2 : Int32) {r : Int32} {d' : Nat → Nat → Int32} (h : f_X0_changeSetting d v1 v2 = some (r, d')) : gI l yX0_changeSetting wsX0_changeSetting rm_X0_changeSetting Z 21 ad [.ref (ad 0), .int v1, .int v2] (dskE Z.2.1 ad d) r (dskE Z.2.1 ad d') := by
  refine g_entryI (cc := cX0_changeSetting) (maxL := 5) (by decide +kernel) rfl hI (Nat.le_of_ble_eq_true rfl) (fun X C e => ?_)
  unfold f_X0_changeSetting at h
  show GG X Z 5 21 ad (dskE Z.2.1 ad d) 0 [(0, .ref (ad 0)), (1, .int v1), (2, .int v2)] []
  refine g_iload_n C dX0_changeSetting_0 1 rfl ?_
  refine g_if_eq (tgt := 11) C dX0_changeSetting_1 (by decide) (fun c1 => ?_) (fun c1 => ?_)
  · replace h := gi_pos c1 h
    refine g_iload_n C dX0_changeSetting_11 1 rfl ?_
    refine g_if_ne (tgt := 20) C dX0_changeSetting_12 (by decide) (fun hc => absurd c1 hc) (fun _ => ?_)
    refine g_bipush (v := 16) C dX0_changeSetting_15 (by decide) ?_
    refine g_goto (tgt := 21) C dX0_changeSetting_17 (by decide) ?_
    refine g_istore_n C dX0_changeSetting_21 (by decide) [(3, .int 16), (0, .ref (ad 0)), (1, .int v1), (2, .int v2)] rfl ?_
    refine g_iload_n C dX0_changeSetting_22 3 rfl ?_
    refine g_if_lt (tgt := 31) C dX0_changeSetting_23 (by decide) (fun c2 => ?_) (fun c2 => ?_)
    · replace h := gi_pos c2 h
      refine g_bipush (v := (-2)) C dX0_changeSetting_31 (by decide) ?_
      cases h
      exact g_iret C e dX0_changeSetting_33
    · replace h := gi_neg c2 h
      refine g_iload_n C dX0_changeSetting_26 3 rfl ?_
      refine g_iload_n C dX0_changeSetting_27 0 rfl ?_
      refine g_icmp_le (tgt := 34) C dX0_changeSetting_28 (by decide) (fun c3 => ?_) (fun c3 => ?_)
      · replace h := gi_pos c3 h
        refine g_aload_n C dX0_changeSetting_34 1 rfl ?_
        refine g_getf (v := .ref (ad 17)) C 0 (by decide) rfl rfl in_X0_changeSetting 8 (by decide) fl_X0_changeSetting_41 rfl dX0_changeSetting_35 ?_
        refine g_iload_n C dX0_changeSetting_38 2 rfl ?_
        obtain ⟨r4, er4, h⟩ := gb1 h
        refine g_callVi (rest := []) C gX0_changeSetting_X3_at rfl ok_X3_at ⟨by decide, by decide⟩ ⟨rfl, rfl⟩ 17 2 (by decide) (adc := fun i => ad (17 + i)) (fun _ _ => rfl) (dskE_row 8 (by decide)) 0 (by decide) rfl rfl (fun hI => cn_X3_at X.2.1 Z (fun i => ad (17 + i)) hI 2 (d 8) v1 er4) rfl dX0_changeSetting_39 rfl (Nat.le_of_ble_eq_true rfl) (dskE Z.2.1 ad d) (dskE_id 8 (by decide)) ?_
        refine g_istore C dX0_changeSetting_42 (by decide) [(4, .int r4), (3, .int 16), (0, .ref (ad 0)), (1, .int v1), (2, .int v2)] rfl ?_
        refine g_aload_n C dX0_changeSetting_44 2 rfl ?_
        refine g_getf (v := .ref (ad 17)) C 0 (by decide) rfl rfl in_X0_changeSetting 8 (by decide) fl_X0_changeSetting_41 rfl dX0_changeSetting_45 ?_
        refine g_iload_n C dX0_changeSetting_48 3 rfl ?_
        refine g_iload_n C dX0_changeSetting_49 4 rfl ?_
        obtain ⟨w5, ew5, h⟩ := gb1 h
        obtain ⟨d6, ed6, h⟩ := gl h
        refine g_callVv (rest := []) C gX0_changeSetting_X3_put rfl ok_X3_put ⟨by decide, by decide⟩ ⟨rfl, rfl⟩ 17 2 (by decide) (adc := fun i => ad (17 + i)) (fun _ _ => rfl) (dskE_row 8 (by decide)) 0 (by decide) rfl rfl (fun hI => cn_X3_put X.2.1 Z (fun i => ad (17 + i)) hI 2 (d 8) v1 v2 ew5) rfl dX0_changeSetting_50 rfl (Nat.le_of_ble_eq_true rfl) (dskE Z.2.1 ad d6) (by rw [ed6]; exact (dskE_up 8 (by decide))) ?_
        refine g_iload C dX0_changeSetting_53 0 rfl ?_
        cases h
        exact g_iret C e dX0_changeSetting_55
      · replace h := gi_neg c3 h
        refine g_bipush (v := (-2)) C dX0_changeSetting_31 (by decide) ?_
        cases h
        exact g_iret C e dX0_changeSetting_33
  · replace h := gi_neg c1 h
    refine g_iload_n C dX0_changeSetting_4 1 rfl ?_
    refine g_iconst (v := 1) C dX0_changeSetting_5 (by decide) ?_
    refine g_icmp_eq (tgt := 11) C dX0_changeSetting_6 (by decide) (fun c7 => ?_) (fun c7 => ?_)
    · replace h := gi_pos c7 h
      refine g_iload_n C dX0_changeSetting_11 1 rfl ?_
      refine g_if_ne (tgt := 20) C dX0_changeSetting_12 (by decide) (fun _ => ?_) (fun hc => absurd hc c1)
      refine g_iconst (v := 1) C dX0_changeSetting_20 (by decide) ?_
      refine g_istore_n C dX0_changeSetting_21 (by decide) [(3, .int 1), (0, .ref (ad 0)), (1, .int v1), (2, .int v2)] rfl ?_
      refine g_iload_n C dX0_changeSetting_22 3 rfl ?_
      refine g_if_lt (tgt := 31) C dX0_changeSetting_23 (by decide) (fun c8 => ?_) (fun c8 => ?_)
      · replace h := gi_pos c8 h
        refine g_bipush (v := (-2)) C dX0_changeSetting_31 (by decide) ?_
        cases h
        exact g_iret C e dX0_changeSetting_33
      · replace h := gi_neg c8 h
        refine g_iload_n C dX0_changeSetting_26 3 rfl ?_
        refine g_iload_n C dX0_changeSetting_27 0 rfl ?_
        refine g_icmp_le (tgt := 34) C dX0_changeSetting_28 (by decide) (fun c9 => ?_) (fun c9 => ?_)
        · replace h := gi_pos c9 h
          refine g_aload_n C dX0_changeSetting_34 1 rfl ?_
          refine g_getf (v := .ref (ad 17)) C 0 (by decide) rfl rfl in_X0_changeSetting 8 (by decide) fl_X0_changeSetting_41 rfl dX0_changeSetting_35 ?_
          refine g_iload_n C dX0_changeSetting_38 2 rfl ?_
          obtain ⟨r10, er10, h⟩ := gb1 h
          refine g_callVi (rest := []) C gX0_changeSetting_X3_at rfl ok_X3_at ⟨by decide, by decide⟩ ⟨rfl, rfl⟩ 17 2 (by decide) (adc := fun i => ad (17 + i)) (fun _ _ => rfl) (dskE_row 8 (by decide)) 0 (by decide) rfl rfl (fun hI => cn_X3_at X.2.1 Z (fun i => ad (17 + i)) hI 2 (d 8) v1 er10) rfl dX0_changeSetting_39 rfl (Nat.le_of_ble_eq_true rfl) (dskE Z.2.1 ad d) (dskE_id 8 (by decide)) ?_
          refine g_istore C dX0_changeSetting_42 (by decide) [(4, .int r10), (3, .int 1), (0, .ref (ad 0)), (1, .int v1), (2, .int v2)] rfl ?_
          refine g_aload_n C dX0_changeSetting_44 2 rfl ?_
          refine g_getf (v := .ref (ad 17)) C 0 (by decide) rfl rfl in_X0_changeSetting 8 (by decide) fl_X0_changeSetting_41 rfl dX0_changeSetting_45 ?_
          refine g_iload_n C dX0_changeSetting_48 3 rfl ?_
          refine g_iload_n C dX0_changeSetting_49 4 rfl ?_
          obtain ⟨w11, ew11, h⟩ := gb1 h
          obtain ⟨d12, ed12, h⟩ := gl h
          refine g_callVv (rest := []) C gX0_changeSetting_X3_put rfl ok_X3_put ⟨by decide, by decide⟩ ⟨rfl, rfl⟩ 17 2 (by decide) (adc := fun i => ad (17 + i)) (fun _ _ => rfl) (dskE_row 8 (by decide)) 0 (by decide) rfl rfl (fun hI => cn_X3_put X.2.1 Z (fun i => ad (17 + i)) hI 2 (d 8) v1 v2 ew11) rfl dX0_changeSetting_50 rfl (Nat.le_of_ble_eq_true rfl) (dskE Z.2.1 ad d12) (by rw [ed12]; exact (dskE_up 8 (by decide))) ?_
          refine g_iload C dX0_changeSetting_53 0 rfl ?_
          cases h
          exact g_iret C e dX0_changeSetting_55
        · replace h := gi_neg c9 h
          refine g_bipush (v := (-2)) C dX0_changeSetting_31 (by decide) ?_
          cases h
          exact g_iret C e dX0_changeSetting_33
    · replace h := gi_neg c7 h
      refine g_iconst (v := (-1)) C dX0_changeSetting_9 (by decide) ?_
      cases h
      exact g_iret C e dX0_changeSetting_10
abbrev rm_X0_ownerOf : Room := ({ frames := 1, cells := 0, slots := 0, locals := 21 } : Room)
def f_X0_ownerOf (d : Nat → Nat → Int32) (v1 : Int32) : Option Int32 := gb (f_X3_at 64 (d 1) v1) (fun r1 => some r1)
set_option maxRecDepth 20000 in
theorem in_X0_ownerOf : ∀ w ∈ wsX00, w ∈ wsX0_ownerOf := by decide +kernel
set_option maxRecDepth 20000 in
theorem fl_X0_ownerOf_20 : Cond.fieldLink RX0 20 (TX0 1).1 (TX0 1).2.1 (TX0 1).2.2.1 ∈ wsX0_ownerOf := by decide +kernel
set_option maxHeartbeats 4000000 in
set_option maxRecDepth 100000 in
theorem cn_X0_ownerOf (l : Launch) (Z : gZ) (ad : Nat → Nat) (hI : gInj 21 ad) (d : Nat → Nat → Int32) (v1 : Int32) {r : Int32} (h : f_X0_ownerOf d v1 = some r) : gI l yX0_ownerOf wsX0_ownerOf rm_X0_ownerOf Z 21 ad [.ref (ad 0), .int v1] (dskE Z.2.1 ad d) r (dskE Z.2.1 ad d) := by
  refine g_entryI (cc := cX0_ownerOf) (maxL := 2) (by decide +kernel) rfl hI (Nat.le_of_ble_eq_true rfl) (fun X C e => ?_)
  unfold f_X0_ownerOf at h
  show GG X Z 2 21 ad (dskE Z.2.1 ad d) 0 [(0, .ref (ad 0)), (1, .int v1)] []
  refine g_aload_n C dX0_ownerOf_0 0 rfl ?_
  refine g_getf (v := .ref (ad 3)) C 0 (by decide) rfl rfl in_X0_ownerOf 1 (by decide) fl_X0_ownerOf_20 rfl dX0_ownerOf_1 ?_
  refine g_iload_n C dX0_ownerOf_4 1 rfl ?_
  obtain ⟨r1, er1, h⟩ := gb1 h
  refine g_callVi (rest := []) C gX0_ownerOf_X3_at rfl ok_X3_at ⟨by decide, by decide⟩ ⟨rfl, rfl⟩ 3 2 (by decide) (adc := fun i => ad (3 + i)) (fun _ _ => rfl) (dskE_row 1 (by decide)) 0 (by decide) rfl rfl (fun hI => cn_X3_at X.2.1 Z (fun i => ad (3 + i)) hI 64 (d 1) v1 er1) rfl dX0_ownerOf_5 rfl (Nat.le_of_ble_eq_true rfl) (dskE Z.2.1 ad d) (dskE_id 1 (by decide)) ?_
  cases h
  exact g_iret C e dX0_ownerOf_8
abbrev rm_X0_placeOf : Room := ({ frames := 1, cells := 0, slots := 0, locals := 21 } : Room)
def f_X0_placeOf (d : Nat → Nat → Int32) (v1 : Int32) : Option Int32 := gb (f_X3_at 64 (d 2) v1) (fun r1 => some r1)
set_option maxRecDepth 20000 in
theorem in_X0_placeOf : ∀ w ∈ wsX00, w ∈ wsX0_placeOf := by decide +kernel
set_option maxRecDepth 20000 in
theorem fl_X0_placeOf_23 : Cond.fieldLink RX0 23 (TX0 2).1 (TX0 2).2.1 (TX0 2).2.2.1 ∈ wsX0_placeOf := by decide +kernel
set_option maxHeartbeats 4000000 in
set_option maxRecDepth 100000 in
theorem cn_X0_placeOf (l : Launch) (Z : gZ) (ad : Nat → Nat) (hI : gInj 21 ad) (d : Nat → Nat → Int32) (v1 : Int32) {r : Int32} (h : f_X0_placeOf d v1 = some r) : gI l yX0_placeOf wsX0_placeOf rm_X0_placeOf Z 21 ad [.ref (ad 0), .int v1] (dskE Z.2.1 ad d) r (dskE Z.2.1 ad d) := by
  refine g_entryI (cc := cX0_placeOf) (maxL := 2) (by decide +kernel) rfl hI (Nat.le_of_ble_eq_true rfl) (fun X C e => ?_)
  unfold f_X0_placeOf at h
  show GG X Z 2 21 ad (dskE Z.2.1 ad d) 0 [(0, .ref (ad 0)), (1, .int v1)] []
  refine g_aload_n C dX0_placeOf_0 0 rfl ?_
  refine g_getf (v := .ref (ad 5)) C 0 (by decide) rfl rfl in_X0_placeOf 2 (by decide) fl_X0_placeOf_23 rfl dX0_placeOf_1 ?_
  refine g_iload_n C dX0_placeOf_4 1 rfl ?_
  obtain ⟨r1, er1, h⟩ := gb1 h
  refine g_callVi (rest := []) C gX0_placeOf_X3_at rfl ok_X3_at ⟨by decide, by decide⟩ ⟨rfl, rfl⟩ 5 2 (by decide) (adc := fun i => ad (5 + i)) (fun _ _ => rfl) (dskE_row 2 (by decide)) 0 (by decide) rfl rfl (fun hI => cn_X3_at X.2.1 Z (fun i => ad (5 + i)) hI 64 (d 2) v1 er1) rfl dX0_placeOf_5 rfl (Nat.le_of_ble_eq_true rfl) (dskE Z.2.1 ad d) (dskE_id 2 (by decide)) ?_
  cases h
  exact g_iret C e dX0_placeOf_8
abbrev rm_X0_stampOf : Room := ({ frames := 1, cells := 0, slots := 0, locals := 21 } : Room)
def f_X0_stampOf (d : Nat → Nat → Int32) (v1 : Int32) : Option Int32 := gb (f_X3_at 64 (d 0) v1) (fun r1 => some r1)
set_option maxRecDepth 20000 in
theorem in_X0_stampOf : ∀ w ∈ wsX00, w ∈ wsX0_stampOf := by decide +kernel
set_option maxRecDepth 20000 in
theorem fl_X0_stampOf_14 : Cond.fieldLink RX0 14 (TX0 0).1 (TX0 0).2.1 (TX0 0).2.2.1 ∈ wsX0_stampOf := by decide +kernel
set_option maxHeartbeats 4000000 in
set_option maxRecDepth 100000 in
theorem cn_X0_stampOf (l : Launch) (Z : gZ) (ad : Nat → Nat) (hI : gInj 21 ad) (d : Nat → Nat → Int32) (v1 : Int32) {r : Int32} (h : f_X0_stampOf d v1 = some r) : gI l yX0_stampOf wsX0_stampOf rm_X0_stampOf Z 21 ad [.ref (ad 0), .int v1] (dskE Z.2.1 ad d) r (dskE Z.2.1 ad d) := by
  refine g_entryI (cc := cX0_stampOf) (maxL := 2) (by decide +kernel) rfl hI (Nat.le_of_ble_eq_true rfl) (fun X C e => ?_)
  unfold f_X0_stampOf at h
  show GG X Z 2 21 ad (dskE Z.2.1 ad d) 0 [(0, .ref (ad 0)), (1, .int v1)] []
  refine g_aload_n C dX0_stampOf_0 0 rfl ?_
  refine g_getf (v := .ref (ad 1)) C 0 (by decide) rfl rfl in_X0_stampOf 0 (by decide) fl_X0_stampOf_14 rfl dX0_stampOf_1 ?_
  refine g_iload_n C dX0_stampOf_4 1 rfl ?_
  obtain ⟨r1, er1, h⟩ := gb1 h
  refine g_callVi (rest := []) C gX0_stampOf_X3_at rfl ok_X3_at ⟨by decide, by decide⟩ ⟨rfl, rfl⟩ 1 2 (by decide) (adc := fun i => ad (1 + i)) (fun _ _ => rfl) (dskE_row 0 (by decide)) 0 (by decide) rfl rfl (fun hI => cn_X3_at X.2.1 Z (fun i => ad (1 + i)) hI 64 (d 0) v1 er1) rfl dX0_stampOf_5 rfl (Nat.le_of_ble_eq_true rfl) (dskE Z.2.1 ad d) (dskE_id 0 (by decide)) ?_
  cases h
  exact g_iret C e dX0_stampOf_8
abbrev rm_X0_useOf : Room := ({ frames := 1, cells := 0, slots := 0, locals := 22 } : Room)
def f_X0_useOf (d : Nat → Nat → Int32) (v1 : Int32) : Option Int32 := gb (f_X3_holds 64 (d 1) v1 (-5)) (fun r1 => if r1 = 0 then gb (f_X3_at 64 (d 2) v1) (fun r3 => gb (f_X3_at 64 (d 1) v1) (fun r4 => gb (f_X3_at 8 (d 5) r4) (fun r5 => if r5 ≤ r3 then some 2 else some 1))) else some 0)
set_option maxRecDepth 20000 in
theorem in_X0_useOf : ∀ w ∈ wsX00, w ∈ wsX0_useOf := by decide +kernel
set_option maxRecDepth 20000 in
theorem fl_X0_useOf_20 : Cond.fieldLink RX0 20 (TX0 1).1 (TX0 1).2.1 (TX0 1).2.2.1 ∈ wsX0_useOf := by decide +kernel
set_option maxRecDepth 20000 in
theorem fl_X0_useOf_32 : Cond.fieldLink RX0 32 (TX0 5).1 (TX0 5).2.1 (TX0 5).2.2.1 ∈ wsX0_useOf := by decide +kernel
set_option maxRecDepth 20000 in
theorem fl_X0_useOf_23 : Cond.fieldLink RX0 23 (TX0 2).1 (TX0 2).2.1 (TX0 2).2.2.1 ∈ wsX0_useOf := by decide +kernel
set_option maxHeartbeats 4000000 in
set_option maxRecDepth 100000 in
theorem cn_X0_useOf (l : Launch) (Z : gZ) (ad : Nat → Nat) (hI : gInj 21 ad) (d : Nat → Nat → Int32) (v1 : Int32) {r : Int32} (h : f_X0_useOf d v1 = some r) : gI l yX0_useOf wsX0_useOf rm_X0_useOf Z 21 ad [.ref (ad 0), .int v1] (dskE Z.2.1 ad d) r (dskE Z.2.1 ad d) := by
  refine g_entryI (cc := cX0_useOf) (maxL := 2) (by decide +kernel) rfl hI (Nat.le_of_ble_eq_true rfl) (fun X C e => ?_)
  unfold f_X0_useOf at h
  show GG X Z 2 21 ad (dskE Z.2.1 ad d) 0 [(0, .ref (ad 0)), (1, .int v1)] []
  refine g_aload_n C dX0_useOf_0 0 rfl ?_
  refine g_getf (v := .ref (ad 3)) C 0 (by decide) rfl rfl in_X0_useOf 1 (by decide) fl_X0_useOf_20 rfl dX0_useOf_1 ?_
  refine g_iload_n C dX0_useOf_4 1 rfl ?_
  refine g_bipush (v := (-5)) C dX0_useOf_5 (by decide) ?_
  obtain ⟨r1, er1, h⟩ := gb1 h
  refine g_callVi (rest := []) C gX0_useOf_X3_holds rfl ok_X3_holds ⟨by decide, by decide⟩ ⟨rfl, rfl⟩ 3 2 (by decide) (adc := fun i => ad (3 + i)) (fun _ _ => rfl) (dskE_row 1 (by decide)) 0 (by decide) rfl rfl (fun hI => cn_X3_holds X.2.1 Z (fun i => ad (3 + i)) hI 64 (d 1) v1 (-5) er1) rfl dX0_useOf_7 rfl (Nat.le_of_ble_eq_true rfl) (dskE Z.2.1 ad d) (dskE_id 1 (by decide)) ?_
  refine g_if_eq (tgt := 15) C dX0_useOf_10 (by decide) (fun c2 => ?_) (fun c2 => ?_)
  · replace h := gi_pos c2 h
    refine g_aload_n C dX0_useOf_15 0 rfl ?_
    refine g_getf (v := .ref (ad 5)) C 0 (by decide) rfl rfl in_X0_useOf 2 (by decide) fl_X0_useOf_23 rfl dX0_useOf_16 ?_
    refine g_iload_n C dX0_useOf_19 1 rfl ?_
    obtain ⟨r3, er3, h⟩ := gb1 h
    refine g_callVi (rest := []) C gX0_useOf_X3_at rfl ok_X3_at ⟨by decide, by decide⟩ ⟨rfl, rfl⟩ 5 2 (by decide) (adc := fun i => ad (5 + i)) (fun _ _ => rfl) (dskE_row 2 (by decide)) 0 (by decide) rfl rfl (fun hI => cn_X3_at X.2.1 Z (fun i => ad (5 + i)) hI 64 (d 2) v1 er3) rfl dX0_useOf_20 rfl (Nat.le_of_ble_eq_true rfl) (dskE Z.2.1 ad d) (dskE_id 2 (by decide)) ?_
    refine g_aload_n C dX0_useOf_23 0 rfl ?_
    refine g_getf (v := .ref (ad 11)) C 0 (by decide) rfl rfl in_X0_useOf 5 (by decide) fl_X0_useOf_32 rfl dX0_useOf_24 ?_
    refine g_aload_n C dX0_useOf_27 0 rfl ?_
    refine g_getf (v := .ref (ad 3)) C 0 (by decide) rfl rfl in_X0_useOf 1 (by decide) fl_X0_useOf_20 rfl dX0_useOf_28 ?_
    refine g_iload_n C dX0_useOf_31 1 rfl ?_
    obtain ⟨r4, er4, h⟩ := gb1 h
    refine g_callVi (rest := [.ref (ad 11), .int r3]) C gX0_useOf_X3_at rfl ok_X3_at ⟨by decide, by decide⟩ ⟨rfl, rfl⟩ 3 2 (by decide) (adc := fun i => ad (3 + i)) (fun _ _ => rfl) (dskE_row 1 (by decide)) 0 (by decide) rfl rfl (fun hI => cn_X3_at X.2.1 Z (fun i => ad (3 + i)) hI 64 (d 1) v1 er4) rfl dX0_useOf_32 rfl (Nat.le_of_ble_eq_true rfl) (dskE Z.2.1 ad d) (dskE_id 1 (by decide)) ?_
    obtain ⟨r5, er5, h⟩ := gb1 h
    refine g_callVi (rest := [.int r3]) C gX0_useOf_X3_at rfl ok_X3_at ⟨by decide, by decide⟩ ⟨rfl, rfl⟩ 11 2 (by decide) (adc := fun i => ad (11 + i)) (fun _ _ => rfl) (dskE_row 5 (by decide)) 0 (by decide) rfl rfl (fun hI => cn_X3_at X.2.1 Z (fun i => ad (11 + i)) hI 8 (d 5) r4 er5) rfl dX0_useOf_35 rfl (Nat.le_of_ble_eq_true rfl) (dskE Z.2.1 ad d) (dskE_id 5 (by decide)) ?_
    refine g_icmp_ge (tgt := 45) C dX0_useOf_38 (by decide) (fun c6 => ?_) (fun c6 => ?_)
    · replace h := gi_pos c6 h
      refine g_iconst (v := 2) C dX0_useOf_45 (by decide) ?_
      cases h
      exact g_iret C e dX0_useOf_46
    · replace h := gi_neg c6 h
      refine g_iconst (v := 1) C dX0_useOf_41 (by decide) ?_
      refine g_goto (tgt := 46) C dX0_useOf_42 (by decide) ?_
      cases h
      exact g_iret C e dX0_useOf_46
  · replace h := gi_neg c2 h
    refine g_iconst (v := 0) C dX0_useOf_13 (by decide) ?_
    cases h
    exact g_iret C e dX0_useOf_14
abbrev rm_X0_sizeOf : Room := ({ frames := 1, cells := 0, slots := 0, locals := 21 } : Room)
def f_X0_sizeOf (d : Nat → Nat → Int32) (v1 : Int32) : Option Int32 := gb (f_X3_at 8 (d 5) v1) (fun r1 => some r1)
set_option maxRecDepth 20000 in
theorem in_X0_sizeOf : ∀ w ∈ wsX00, w ∈ wsX0_sizeOf := by decide +kernel
set_option maxRecDepth 20000 in
theorem fl_X0_sizeOf_32 : Cond.fieldLink RX0 32 (TX0 5).1 (TX0 5).2.1 (TX0 5).2.2.1 ∈ wsX0_sizeOf := by decide +kernel
set_option maxHeartbeats 4000000 in
set_option maxRecDepth 100000 in
theorem cn_X0_sizeOf (l : Launch) (Z : gZ) (ad : Nat → Nat) (hI : gInj 21 ad) (d : Nat → Nat → Int32) (v1 : Int32) {r : Int32} (h : f_X0_sizeOf d v1 = some r) : gI l yX0_sizeOf wsX0_sizeOf rm_X0_sizeOf Z 21 ad [.ref (ad 0), .int v1] (dskE Z.2.1 ad d) r (dskE Z.2.1 ad d) := by
  refine g_entryI (cc := cX0_sizeOf) (maxL := 2) (by decide +kernel) rfl hI (Nat.le_of_ble_eq_true rfl) (fun X C e => ?_)
  unfold f_X0_sizeOf at h
  show GG X Z 2 21 ad (dskE Z.2.1 ad d) 0 [(0, .ref (ad 0)), (1, .int v1)] []
  refine g_aload_n C dX0_sizeOf_0 0 rfl ?_
  refine g_getf (v := .ref (ad 11)) C 0 (by decide) rfl rfl in_X0_sizeOf 5 (by decide) fl_X0_sizeOf_32 rfl dX0_sizeOf_1 ?_
  refine g_iload_n C dX0_sizeOf_4 1 rfl ?_
  obtain ⟨r1, er1, h⟩ := gb1 h
  refine g_callVi (rest := []) C gX0_sizeOf_X3_at rfl ok_X3_at ⟨by decide, by decide⟩ ⟨rfl, rfl⟩ 11 2 (by decide) (adc := fun i => ad (11 + i)) (fun _ _ => rfl) (dskE_row 5 (by decide)) 0 (by decide) rfl rfl (fun hI => cn_X3_at X.2.1 Z (fun i => ad (11 + i)) hI 8 (d 5) v1 er1) rfl dX0_sizeOf_5 rfl (Nat.le_of_ble_eq_true rfl) (dskE Z.2.1 ad d) (dskE_id 5 (by decide)) ?_
  cases h
  exact g_iret C e dX0_sizeOf_8
abbrev rm_X0_safeSizeOf : Room := ({ frames := 1, cells := 0, slots := 0, locals := 21 } : Room)
def f_X0_safeSizeOf (d : Nat → Nat → Int32) (v1 : Int32) : Option Int32 := gb (f_X3_at 8 (d 6) v1) (fun r1 => some r1)
set_option maxRecDepth 20000 in
theorem in_X0_safeSizeOf : ∀ w ∈ wsX00, w ∈ wsX0_safeSizeOf := by decide +kernel
set_option maxRecDepth 20000 in
theorem fl_X0_safeSizeOf_35 : Cond.fieldLink RX0 35 (TX0 6).1 (TX0 6).2.1 (TX0 6).2.2.1 ∈ wsX0_safeSizeOf := by decide +kernel
set_option maxHeartbeats 4000000 in
set_option maxRecDepth 100000 in
theorem cn_X0_safeSizeOf (l : Launch) (Z : gZ) (ad : Nat → Nat) (hI : gInj 21 ad) (d : Nat → Nat → Int32) (v1 : Int32) {r : Int32} (h : f_X0_safeSizeOf d v1 = some r) : gI l yX0_safeSizeOf wsX0_safeSizeOf rm_X0_safeSizeOf Z 21 ad [.ref (ad 0), .int v1] (dskE Z.2.1 ad d) r (dskE Z.2.1 ad d) := by
  refine g_entryI (cc := cX0_safeSizeOf) (maxL := 2) (by decide +kernel) rfl hI (Nat.le_of_ble_eq_true rfl) (fun X C e => ?_)
  unfold f_X0_safeSizeOf at h
  show GG X Z 2 21 ad (dskE Z.2.1 ad d) 0 [(0, .ref (ad 0)), (1, .int v1)] []
  refine g_aload_n C dX0_safeSizeOf_0 0 rfl ?_
  refine g_getf (v := .ref (ad 13)) C 0 (by decide) rfl rfl in_X0_safeSizeOf 6 (by decide) fl_X0_safeSizeOf_35 rfl dX0_safeSizeOf_1 ?_
  refine g_iload_n C dX0_safeSizeOf_4 1 rfl ?_
  obtain ⟨r1, er1, h⟩ := gb1 h
  refine g_callVi (rest := []) C gX0_safeSizeOf_X3_at rfl ok_X3_at ⟨by decide, by decide⟩ ⟨rfl, rfl⟩ 13 2 (by decide) (adc := fun i => ad (13 + i)) (fun _ _ => rfl) (dskE_row 6 (by decide)) 0 (by decide) rfl rfl (fun hI => cn_X3_at X.2.1 Z (fun i => ad (13 + i)) hI 8 (d 6) v1 er1) rfl dX0_safeSizeOf_5 rfl (Nat.le_of_ble_eq_true rfl) (dskE Z.2.1 ad d) (dskE_id 6 (by decide)) ?_
  cases h
  exact g_iret C e dX0_safeSizeOf_8
abbrev rm_X0_lendOf : Room := ({ frames := 1, cells := 0, slots := 0, locals := 21 } : Room)
def f_X0_lendOf (d : Nat → Nat → Int32) (v1 : Int32) : Option Int32 := gb (f_X3_at 8 (d 7) v1) (fun r1 => some r1)
set_option maxRecDepth 20000 in
theorem in_X0_lendOf : ∀ w ∈ wsX00, w ∈ wsX0_lendOf := by decide +kernel
set_option maxRecDepth 20000 in
theorem fl_X0_lendOf_38 : Cond.fieldLink RX0 38 (TX0 7).1 (TX0 7).2.1 (TX0 7).2.2.1 ∈ wsX0_lendOf := by decide +kernel
set_option maxHeartbeats 4000000 in
set_option maxRecDepth 100000 in
theorem cn_X0_lendOf (l : Launch) (Z : gZ) (ad : Nat → Nat) (hI : gInj 21 ad) (d : Nat → Nat → Int32) (v1 : Int32) {r : Int32} (h : f_X0_lendOf d v1 = some r) : gI l yX0_lendOf wsX0_lendOf rm_X0_lendOf Z 21 ad [.ref (ad 0), .int v1] (dskE Z.2.1 ad d) r (dskE Z.2.1 ad d) := by
  refine g_entryI (cc := cX0_lendOf) (maxL := 2) (by decide +kernel) rfl hI (Nat.le_of_ble_eq_true rfl) (fun X C e => ?_)
  unfold f_X0_lendOf at h
  show GG X Z 2 21 ad (dskE Z.2.1 ad d) 0 [(0, .ref (ad 0)), (1, .int v1)] []
  refine g_aload_n C dX0_lendOf_0 0 rfl ?_
  refine g_getf (v := .ref (ad 15)) C 0 (by decide) rfl rfl in_X0_lendOf 7 (by decide) fl_X0_lendOf_38 rfl dX0_lendOf_1 ?_
  refine g_iload_n C dX0_lendOf_4 1 rfl ?_
  obtain ⟨r1, er1, h⟩ := gb1 h
  refine g_callVi (rest := []) C gX0_lendOf_X3_at rfl ok_X3_at ⟨by decide, by decide⟩ ⟨rfl, rfl⟩ 15 2 (by decide) (adc := fun i => ad (15 + i)) (fun _ _ => rfl) (dskE_row 7 (by decide)) 0 (by decide) rfl rfl (fun hI => cn_X3_at X.2.1 Z (fun i => ad (15 + i)) hI 8 (d 7) v1 er1) rfl dX0_lendOf_5 rfl (Nat.le_of_ble_eq_true rfl) (dskE Z.2.1 ad d) (dskE_id 7 (by decide)) ?_
  cases h
  exact g_iret C e dX0_lendOf_8
abbrev rm_X0_placeOfExtent : Room := ({ frames := 2, cells := 0, slots := 0, locals := 45 } : Room)
def f_X0_placeOfExtent_L5 (d : Nat → Nat → Int32) (v1 : Int32) (v2 : Int32) : Nat → Int32 → Int32 → Option Int32
  | 0, _, _ => none
  | fu + 1, v3, v4 => gb (f_X3_at 8 (d 4) v1) (fun r1 => if r1 ≤ v4 then some (-5) else gb (f_X0_blockAt d v1 v4) (fun r3 => gb (f_X0_beginsExtent d r3) (fun r4 => if r4 = 0 then glet (v4 + 1) (fun x6 => f_X0_placeOfExtent_L5 d v1 v2 fu v3 x6) else if v3 = v2 then some v4 else glet (v3 + 1) (fun x8 => glet (v4 + 1) (fun x9 => f_X0_placeOfExtent_L5 d v1 v2 fu x8 x9)))))
def f_X0_placeOfExtent (d : Nat → Nat → Int32) (v1 : Int32) (v2 : Int32) : Option Int32 := f_X0_placeOfExtent_L5 d v1 v2 gFu 0 0
set_option maxRecDepth 20000 in
theorem in_X0_placeOfExtent : ∀ w ∈ wsX00, w ∈ wsX0_placeOfExtent := by decide +kernel
set_option maxRecDepth 20000 in
theorem fl_X0_placeOfExtent_29 : Cond.fieldLink RX0 29 (TX0 4).1 (TX0 4).2.1 (TX0 4).2.2.1 ∈ wsX0_placeOfExtent := by decide +kernel
set_option maxHeartbeats 4000000 in
set_option maxRecDepth 100000 in
theorem cl_X0_placeOfExtent_L5 {X : gX} {Z : gZ} {ad : Nat → Nat} {d : Nat → Nat → Int32} {r : Int32} (C : GC X Z cX0_placeOfExtent 5 wsX0_placeOfExtent RX0 rm_X0_placeOfExtent 21 ad) (e : gEI X Z 21 ad .int r (dskE Z.2.1 ad d)) (v1 : Int32) (v2 : Int32) : ∀ (fu : Nat) (v3 : Int32) (v4 : Int32) (h : f_X0_placeOfExtent_L5 d v1 v2 fu v3 v4 = some r), GG X Z 5 21 ad (dskE Z.2.1 ad d) 5 [(0, .ref (ad 0)), (1, .int v1), (2, .int v2), (3, .int v3), (4, .int v4)] [] := by
  intro fu
  induction fu with
  | zero => intro v3 v4 h; cases h
  | succ fu ih =>
    intro v3 v4 h
    rw [f_X0_placeOfExtent_L5] at h
    refine g_iload C dX0_placeOfExtent_5 4 rfl ?_
    refine g_aload_n C dX0_placeOfExtent_7 0 rfl ?_
    refine g_getf (v := .ref (ad 9)) C 0 (by decide) rfl rfl in_X0_placeOfExtent 4 (by decide) fl_X0_placeOfExtent_29 rfl dX0_placeOfExtent_8 ?_
    refine g_iload_n C dX0_placeOfExtent_11 1 rfl ?_
    obtain ⟨r1, er1, h⟩ := gb1 h
    refine g_callVi (rest := [.int v4]) C gX0_placeOfExtent_X3_at rfl ok_X3_at ⟨by decide, by decide⟩ ⟨rfl, rfl⟩ 9 2 (by decide) (adc := fun i => ad (9 + i)) (fun _ _ => rfl) (dskE_row 4 (by decide)) 0 (by decide) rfl rfl (fun hI => cn_X3_at X.2.1 Z (fun i => ad (9 + i)) hI 8 (d 4) v1 er1) rfl dX0_placeOfExtent_12 rfl (Nat.le_of_ble_eq_true rfl) (dskE Z.2.1 ad d) (dskE_id 4 (by decide)) ?_
    refine g_icmp_ge (tgt := 49) C dX0_placeOfExtent_15 (by decide) (fun c2 => ?_) (fun c2 => ?_)
    · replace h := gi_pos c2 h
      refine g_bipush (v := (-5)) C dX0_placeOfExtent_49 (by decide) ?_
      cases h
      exact g_iret C e dX0_placeOfExtent_51
    · replace h := gi_neg c2 h
      refine g_aload_n C dX0_placeOfExtent_18 0 rfl ?_
      refine g_aload_n C dX0_placeOfExtent_19 0 rfl ?_
      refine g_iload_n C dX0_placeOfExtent_20 1 rfl ?_
      refine g_iload C dX0_placeOfExtent_21 4 rfl ?_
      obtain ⟨r3, er3, h⟩ := gb1 h
      refine g_callWi (rest := [.ref (ad 0)]) C gX0_placeOfExtent_X0_blockAt rfl ok_X0_blockAt ⟨by decide, by decide⟩ ⟨rfl, rfl⟩ 0 (by decide) rfl rfl (fun hI => cn_X0_blockAt X.2.1 Z ad hI d v1 v4 er3) rfl dX0_placeOfExtent_23 rfl (Nat.le_of_ble_eq_true rfl) ?_
      obtain ⟨r4, er4, h⟩ := gb1 h
      refine g_callWi (rest := []) C gX0_placeOfExtent_X0_beginsExtent rfl ok_X0_beginsExtent ⟨by decide, by decide⟩ ⟨rfl, rfl⟩ 0 (by decide) rfl rfl (fun hI => cn_X0_beginsExtent X.2.1 Z ad hI d r3 er4) rfl dX0_placeOfExtent_26 rfl (Nat.le_of_ble_eq_true rfl) ?_
      refine g_if_eq (tgt := 43) C dX0_placeOfExtent_29 (by decide) (fun c5 => ?_) (fun c5 => ?_)
      · replace h := gi_pos c5 h
        obtain ⟨x6, ex6, h⟩ := gl h
        refine g_iinc (v := x6) C dX0_placeOfExtent_43 4 rfl (by rw [ex6]; rfl) (by decide) [(4, .int x6), (0, .ref (ad 0)), (1, .int v1), (2, .int v2), (3, .int v3)] rfl ?_
        refine g_goto (tgt := 5) C dX0_placeOfExtent_46 (by decide) ?_
        exact g_sub [1, 2, 3, 4, 0] rfl (ih v3 x6 h)
      · replace h := gi_neg c5 h
        refine g_iload_n C dX0_placeOfExtent_32 3 rfl ?_
        refine g_iload_n C dX0_placeOfExtent_33 2 rfl ?_
        refine g_icmp_ne (tgt := 40) C dX0_placeOfExtent_34 (by decide) (fun c7 => ?_) (fun c7 => ?_)
        · replace h := gi_neg c7 h
          obtain ⟨x8, ex8, h⟩ := gl h
          refine g_iinc (v := x8) C dX0_placeOfExtent_40 3 rfl (by rw [ex8]; rfl) (by decide) [(3, .int x8), (0, .ref (ad 0)), (1, .int v1), (2, .int v2), (4, .int v4)] rfl ?_
          obtain ⟨x9, ex9, h⟩ := gl h
          refine g_iinc (v := x9) C dX0_placeOfExtent_43 4 rfl (by rw [ex9]; rfl) (by decide) [(4, .int x9), (3, .int x8), (0, .ref (ad 0)), (1, .int v1), (2, .int v2)] rfl ?_
          refine g_goto (tgt := 5) C dX0_placeOfExtent_46 (by decide) ?_
          exact g_sub [2, 3, 4, 1, 0] rfl (ih x8 x9 h)
        · replace h := gi_pos c7 h
          refine g_iload C dX0_placeOfExtent_37 4 rfl ?_
          cases h
          exact g_iret C e dX0_placeOfExtent_39
set_option maxHeartbeats 4000000 in
set_option maxRecDepth 100000 in
theorem cn_X0_placeOfExtent (l : Launch) (Z : gZ) (ad : Nat → Nat) (hI : gInj 21 ad) (d : Nat → Nat → Int32) (v1 : Int32) (v2 : Int32) {r : Int32} (h : f_X0_placeOfExtent d v1 v2 = some r) : gI l yX0_placeOfExtent wsX0_placeOfExtent rm_X0_placeOfExtent Z 21 ad [.ref (ad 0), .int v1, .int v2] (dskE Z.2.1 ad d) r (dskE Z.2.1 ad d) := by
  refine g_entryI (cc := cX0_placeOfExtent) (maxL := 5) (by decide +kernel) rfl hI (Nat.le_of_ble_eq_true rfl) (fun X C e => ?_)
  unfold f_X0_placeOfExtent at h
  show GG X Z 5 21 ad (dskE Z.2.1 ad d) 0 [(0, .ref (ad 0)), (1, .int v1), (2, .int v2)] []
  refine g_iconst (v := 0) C dX0_placeOfExtent_0 (by decide) ?_
  refine g_istore_n C dX0_placeOfExtent_1 (by decide) [(3, .int 0), (0, .ref (ad 0)), (1, .int v1), (2, .int v2)] rfl ?_
  refine g_iconst (v := 0) C dX0_placeOfExtent_2 (by decide) ?_
  refine g_istore C dX0_placeOfExtent_3 (by decide) [(4, .int 0), (3, .int 0), (0, .ref (ad 0)), (1, .int v1), (2, .int v2)] rfl ?_
  exact g_sub [2, 3, 4, 1, 0] rfl (cl_X0_placeOfExtent_L5 C e v1 v2 gFu 0 0 h)
abbrev rm_X0_extentFrom : Room := ({ frames := 2, cells := 0, slots := 0, locals := 45 } : Room)
def f_X0_extentFrom_L4 (d : Nat → Nat → Int32) (v1 : Int32) (v2 : Int32) : Nat → Int32 → Option Int32
  | 0, _ => none
  | fu + 1, v3 => gb (f_X3_at 8 (d 4) v1) (fun r2 => if r2 ≤ v3 then some (v3 - v2) else gb (f_X0_blockAt d v1 v3) (fun r4 => gb (f_X0_beginsExtent d r4) (fun r5 => if r5 = 0 then glet (v3 + 1) (fun x7 => f_X0_extentFrom_L4 d v1 v2 fu x7) else some (v3 - v2))))
def f_X0_extentFrom (d : Nat → Nat → Int32) (v1 : Int32) (v2 : Int32) : Option Int32 := glet (v2 + 1) (fun x1 => f_X0_extentFrom_L4 d v1 v2 gFu x1)
set_option maxRecDepth 20000 in
theorem in_X0_extentFrom : ∀ w ∈ wsX00, w ∈ wsX0_extentFrom := by decide +kernel
set_option maxRecDepth 20000 in
theorem fl_X0_extentFrom_29 : Cond.fieldLink RX0 29 (TX0 4).1 (TX0 4).2.1 (TX0 4).2.2.1 ∈ wsX0_extentFrom := by decide +kernel
set_option maxHeartbeats 4000000 in
set_option maxRecDepth 100000 in
theorem cl_X0_extentFrom_L4 {X : gX} {Z : gZ} {ad : Nat → Nat} {d : Nat → Nat → Int32} {r : Int32} (C : GC X Z cX0_extentFrom 4 wsX0_extentFrom RX0 rm_X0_extentFrom 21 ad) (e : gEI X Z 21 ad .int r (dskE Z.2.1 ad d)) (v1 : Int32) (v2 : Int32) : ∀ (fu : Nat) (v3 : Int32) (h : f_X0_extentFrom_L4 d v1 v2 fu v3 = some r), GG X Z 4 21 ad (dskE Z.2.1 ad d) 4 [(0, .ref (ad 0)), (1, .int v1), (2, .int v2), (3, .int v3)] [] := by
  intro fu
  induction fu with
  | zero => intro v3 h; cases h
  | succ fu ih =>
    intro v3 h
    rw [f_X0_extentFrom_L4] at h
    refine g_iload_n C dX0_extentFrom_4 3 rfl ?_
    refine g_aload_n C dX0_extentFrom_5 0 rfl ?_
    refine g_getf (v := .ref (ad 9)) C 0 (by decide) rfl rfl in_X0_extentFrom 4 (by decide) fl_X0_extentFrom_29 rfl dX0_extentFrom_6 ?_
    refine g_iload_n C dX0_extentFrom_9 1 rfl ?_
    obtain ⟨r2, er2, h⟩ := gb1 h
    refine g_callVi (rest := [.int v3]) C gX0_extentFrom_X3_at rfl ok_X3_at ⟨by decide, by decide⟩ ⟨rfl, rfl⟩ 9 2 (by decide) (adc := fun i => ad (9 + i)) (fun _ _ => rfl) (dskE_row 4 (by decide)) 0 (by decide) rfl rfl (fun hI => cn_X3_at X.2.1 Z (fun i => ad (9 + i)) hI 8 (d 4) v1 er2) rfl dX0_extentFrom_10 rfl (Nat.le_of_ble_eq_true rfl) (dskE Z.2.1 ad d) (dskE_id 4 (by decide)) ?_
    refine g_icmp_ge (tgt := 35) C dX0_extentFrom_13 (by decide) (fun c3 => ?_) (fun c3 => ?_)
    · replace h := gi_pos c3 h
      refine g_iload_n C dX0_extentFrom_35 3 rfl ?_
      refine g_iload_n C dX0_extentFrom_36 2 rfl ?_
      refine g_isub C dX0_extentFrom_37 ?_
      cases h
      exact g_iret C e dX0_extentFrom_38
    · replace h := gi_neg c3 h
      refine g_aload_n C dX0_extentFrom_16 0 rfl ?_
      refine g_aload_n C dX0_extentFrom_17 0 rfl ?_
      refine g_iload_n C dX0_extentFrom_18 1 rfl ?_
      refine g_iload_n C dX0_extentFrom_19 3 rfl ?_
      obtain ⟨r4, er4, h⟩ := gb1 h
      refine g_callWi (rest := [.ref (ad 0)]) C gX0_extentFrom_X0_blockAt rfl ok_X0_blockAt ⟨by decide, by decide⟩ ⟨rfl, rfl⟩ 0 (by decide) rfl rfl (fun hI => cn_X0_blockAt X.2.1 Z ad hI d v1 v3 er4) rfl dX0_extentFrom_20 rfl (Nat.le_of_ble_eq_true rfl) ?_
      obtain ⟨r5, er5, h⟩ := gb1 h
      refine g_callWi (rest := []) C gX0_extentFrom_X0_beginsExtent rfl ok_X0_beginsExtent ⟨by decide, by decide⟩ ⟨rfl, rfl⟩ 0 (by decide) rfl rfl (fun hI => cn_X0_beginsExtent X.2.1 Z ad hI d r4 er5) rfl dX0_extentFrom_23 rfl (Nat.le_of_ble_eq_true rfl) ?_
      refine g_if_ne (tgt := 35) C dX0_extentFrom_26 (by decide) (fun c6 => ?_) (fun c6 => ?_)
      · replace h := gi_neg c6 h
        refine g_iload_n C dX0_extentFrom_35 3 rfl ?_
        refine g_iload_n C dX0_extentFrom_36 2 rfl ?_
        refine g_isub C dX0_extentFrom_37 ?_
        cases h
        exact g_iret C e dX0_extentFrom_38
      · replace h := gi_pos c6 h
        obtain ⟨x7, ex7, h⟩ := gl h
        refine g_iinc (v := x7) C dX0_extentFrom_29 3 rfl (by rw [ex7]; rfl) (by decide) [(3, .int x7), (0, .ref (ad 0)), (1, .int v1), (2, .int v2)] rfl ?_
        refine g_goto (tgt := 4) C dX0_extentFrom_32 (by decide) ?_
        exact g_sub [1, 2, 3, 0] rfl (ih x7 h)
set_option maxHeartbeats 4000000 in
set_option maxRecDepth 100000 in
theorem cn_X0_extentFrom (l : Launch) (Z : gZ) (ad : Nat → Nat) (hI : gInj 21 ad) (d : Nat → Nat → Int32) (v1 : Int32) (v2 : Int32) {r : Int32} (h : f_X0_extentFrom d v1 v2 = some r) : gI l yX0_extentFrom wsX0_extentFrom rm_X0_extentFrom Z 21 ad [.ref (ad 0), .int v1, .int v2] (dskE Z.2.1 ad d) r (dskE Z.2.1 ad d) := by
  refine g_entryI (cc := cX0_extentFrom) (maxL := 4) (by decide +kernel) rfl hI (Nat.le_of_ble_eq_true rfl) (fun X C e => ?_)
  unfold f_X0_extentFrom at h
  show GG X Z 4 21 ad (dskE Z.2.1 ad d) 0 [(0, .ref (ad 0)), (1, .int v1), (2, .int v2)] []
  refine g_iload_n C dX0_extentFrom_0 2 rfl ?_
  refine g_iconst (v := 1) C dX0_extentFrom_1 (by decide) ?_
  refine g_iadd C dX0_extentFrom_2 ?_
  obtain ⟨x1, ex1, h⟩ := gl h
  refine g_istore_n C dX0_extentFrom_3 (by decide) [(3, .int x1), (0, .ref (ad 0)), (1, .int v1), (2, .int v2)] (by rw [ex1]; rfl) ?_
  exact g_sub [1, 2, 3, 0] rfl (cl_X0_extentFrom_L4 C e v1 v2 gFu x1 h)
abbrev rm_X0_sumOfStamps : Room := ({ frames := 2, cells := 0, slots := 0, locals := 46 } : Room)
def f_X0_sumOfStamps_L6 (d : Nat → Nat → Int32) (v1 : Int32) (v2 : Int32) (v3 : Int32) : Nat → Int32 → Int32 → Option Int32
  | 0, _, _ => none
  | fu + 1, v4, v5 => if 64 ≤ v5 then some v4 else gb (f_X0_isPart d v5 v1 v2 v3) (fun r2 => if r2 = 0 then glet (v5 + 1) (fun x4 => f_X0_sumOfStamps_L6 d v1 v2 v3 fu v4 x4) else gb (f_X3_at 64 (d 0) v5) (fun r5 => glet (v4 + r5) (fun x6 => glet (v5 + 1) (fun x7 => f_X0_sumOfStamps_L6 d v1 v2 v3 fu x6 x7))))
def f_X0_sumOfStamps (d : Nat → Nat → Int32) (v1 : Int32) (v2 : Int32) (v3 : Int32) : Option Int32 := f_X0_sumOfStamps_L6 d v1 v2 v3 gFu 0 0
set_option maxRecDepth 20000 in
theorem in_X0_sumOfStamps : ∀ w ∈ wsX00, w ∈ wsX0_sumOfStamps := by decide +kernel
set_option maxRecDepth 20000 in
theorem fl_X0_sumOfStamps_14 : Cond.fieldLink RX0 14 (TX0 0).1 (TX0 0).2.1 (TX0 0).2.2.1 ∈ wsX0_sumOfStamps := by decide +kernel
set_option maxHeartbeats 4000000 in
set_option maxRecDepth 100000 in
theorem cl_X0_sumOfStamps_L6 {X : gX} {Z : gZ} {ad : Nat → Nat} {d : Nat → Nat → Int32} {r : Int32} (C : GC X Z cX0_sumOfStamps 6 wsX0_sumOfStamps RX0 rm_X0_sumOfStamps 21 ad) (e : gEI X Z 21 ad .int r (dskE Z.2.1 ad d)) (v1 : Int32) (v2 : Int32) (v3 : Int32) : ∀ (fu : Nat) (v4 : Int32) (v5 : Int32) (h : f_X0_sumOfStamps_L6 d v1 v2 v3 fu v4 v5 = some r), GG X Z 6 21 ad (dskE Z.2.1 ad d) 6 [(0, .ref (ad 0)), (1, .int v1), (2, .int v2), (3, .int v3), (4, .int v4), (5, .int v5)] [] := by
  intro fu
  induction fu with
  | zero => intro v4 v5 h; cases h
  | succ fu ih =>
    intro v4 v5 h
    rw [f_X0_sumOfStamps_L6] at h
    refine g_iload C dX0_sumOfStamps_6 5 rfl ?_
    refine g_bipush (v := 64) C dX0_sumOfStamps_8 (by decide) ?_
    refine g_icmp_ge (tgt := 45) C dX0_sumOfStamps_10 (by decide) (fun c1 => ?_) (fun c1 => ?_)
    · replace h := gi_pos c1 h
      refine g_iload C dX0_sumOfStamps_45 4 rfl ?_
      cases h
      exact g_iret C e dX0_sumOfStamps_47
    · replace h := gi_neg c1 h
      refine g_aload_n C dX0_sumOfStamps_13 0 rfl ?_
      refine g_iload C dX0_sumOfStamps_14 5 rfl ?_
      refine g_iload_n C dX0_sumOfStamps_16 1 rfl ?_
      refine g_iload_n C dX0_sumOfStamps_17 2 rfl ?_
      refine g_iload_n C dX0_sumOfStamps_18 3 rfl ?_
      obtain ⟨r2, er2, h⟩ := gb1 h
      refine g_callWi (rest := []) C gX0_sumOfStamps_X0_isPart rfl ok_X0_isPart ⟨by decide, by decide⟩ ⟨rfl, rfl⟩ 0 (by decide) rfl rfl (fun hI => cn_X0_isPart X.2.1 Z ad hI d v5 v1 v2 v3 er2) rfl dX0_sumOfStamps_19 rfl (Nat.le_of_ble_eq_true rfl) ?_
      refine g_if_eq (tgt := 39) C dX0_sumOfStamps_22 (by decide) (fun c3 => ?_) (fun c3 => ?_)
      · replace h := gi_pos c3 h
        obtain ⟨x4, ex4, h⟩ := gl h
        refine g_iinc (v := x4) C dX0_sumOfStamps_39 5 rfl (by rw [ex4]; rfl) (by decide) [(5, .int x4), (0, .ref (ad 0)), (1, .int v1), (2, .int v2), (3, .int v3), (4, .int v4)] rfl ?_
        refine g_goto (tgt := 6) C dX0_sumOfStamps_42 (by decide) ?_
        exact g_sub [1, 2, 3, 4, 5, 0] rfl (ih v4 x4 h)
      · replace h := gi_neg c3 h
        refine g_iload C dX0_sumOfStamps_25 4 rfl ?_
        refine g_aload_n C dX0_sumOfStamps_27 0 rfl ?_
        refine g_getf (v := .ref (ad 1)) C 0 (by decide) rfl rfl in_X0_sumOfStamps 0 (by decide) fl_X0_sumOfStamps_14 rfl dX0_sumOfStamps_28 ?_
        refine g_iload C dX0_sumOfStamps_31 5 rfl ?_
        obtain ⟨r5, er5, h⟩ := gb1 h
        refine g_callVi (rest := [.int v4]) C gX0_sumOfStamps_X3_at rfl ok_X3_at ⟨by decide, by decide⟩ ⟨rfl, rfl⟩ 1 2 (by decide) (adc := fun i => ad (1 + i)) (fun _ _ => rfl) (dskE_row 0 (by decide)) 0 (by decide) rfl rfl (fun hI => cn_X3_at X.2.1 Z (fun i => ad (1 + i)) hI 64 (d 0) v5 er5) rfl dX0_sumOfStamps_33 rfl (Nat.le_of_ble_eq_true rfl) (dskE Z.2.1 ad d) (dskE_id 0 (by decide)) ?_
        refine g_iadd C dX0_sumOfStamps_36 ?_
        obtain ⟨x6, ex6, h⟩ := gl h
        refine g_istore C dX0_sumOfStamps_37 (by decide) [(4, .int x6), (0, .ref (ad 0)), (1, .int v1), (2, .int v2), (3, .int v3), (5, .int v5)] (by rw [ex6]; rfl) ?_
        obtain ⟨x7, ex7, h⟩ := gl h
        refine g_iinc (v := x7) C dX0_sumOfStamps_39 5 rfl (by rw [ex7]; rfl) (by decide) [(5, .int x7), (4, .int x6), (0, .ref (ad 0)), (1, .int v1), (2, .int v2), (3, .int v3)] rfl ?_
        refine g_goto (tgt := 6) C dX0_sumOfStamps_42 (by decide) ?_
        exact g_sub [2, 3, 4, 5, 1, 0] rfl (ih x6 x7 h)
set_option maxHeartbeats 4000000 in
set_option maxRecDepth 100000 in
theorem cn_X0_sumOfStamps (l : Launch) (Z : gZ) (ad : Nat → Nat) (hI : gInj 21 ad) (d : Nat → Nat → Int32) (v1 : Int32) (v2 : Int32) (v3 : Int32) {r : Int32} (h : f_X0_sumOfStamps d v1 v2 v3 = some r) : gI l yX0_sumOfStamps wsX0_sumOfStamps rm_X0_sumOfStamps Z 21 ad [.ref (ad 0), .int v1, .int v2, .int v3] (dskE Z.2.1 ad d) r (dskE Z.2.1 ad d) := by
  refine g_entryI (cc := cX0_sumOfStamps) (maxL := 6) (by decide +kernel) rfl hI (Nat.le_of_ble_eq_true rfl) (fun X C e => ?_)
  unfold f_X0_sumOfStamps at h
  show GG X Z 6 21 ad (dskE Z.2.1 ad d) 0 [(0, .ref (ad 0)), (1, .int v1), (2, .int v2), (3, .int v3)] []
  refine g_iconst (v := 0) C dX0_sumOfStamps_0 (by decide) ?_
  refine g_istore C dX0_sumOfStamps_1 (by decide) [(4, .int 0), (0, .ref (ad 0)), (1, .int v1), (2, .int v2), (3, .int v3)] rfl ?_
  refine g_iconst (v := 0) C dX0_sumOfStamps_3 (by decide) ?_
  refine g_istore C dX0_sumOfStamps_4 (by decide) [(5, .int 0), (4, .int 0), (0, .ref (ad 0)), (1, .int v1), (2, .int v2), (3, .int v3)] rfl ?_
  exact g_sub [2, 3, 4, 5, 1, 0] rfl (cl_X0_sumOfStamps_L6 C e v1 v2 v3 gFu 0 0 h)
abbrev rm_X0_firstOfRun : Room := ({ frames := 2, cells := 0, slots := 0, locals := 44 } : Room)
def f_X0_firstOfRun_L4 (d : Nat → Nat → Int32) (v1 : Int32) : Nat → Int32 → Int32 → Option Int32
  | 0, _, _ => none
  | fu + 1, v2, v3 => if 64 ≤ v3 then some (-5) else gb (f_X0_runFrom d v3) (fun r2 => if r2 ≤ 0 then glet (v3 + 1) (fun x4 => f_X0_firstOfRun_L4 d v1 fu v2 x4) else if v2 = v1 then some v3 else glet (v2 + 1) (fun x6 => glet (v3 + 1) (fun x7 => f_X0_firstOfRun_L4 d v1 fu x6 x7)))
def f_X0_firstOfRun (d : Nat → Nat → Int32) (v1 : Int32) : Option Int32 := f_X0_firstOfRun_L4 d v1 gFu 0 0
set_option maxHeartbeats 4000000 in
set_option maxRecDepth 100000 in
theorem cl_X0_firstOfRun_L4 {X : gX} {Z : gZ} {ad : Nat → Nat} {d : Nat → Nat → Int32} {r : Int32} (C : GC X Z cX0_firstOfRun 4 wsX0_firstOfRun RX0 rm_X0_firstOfRun 21 ad) (e : gEI X Z 21 ad .int r (dskE Z.2.1 ad d)) (v1 : Int32) : ∀ (fu : Nat) (v2 : Int32) (v3 : Int32) (h : f_X0_firstOfRun_L4 d v1 fu v2 v3 = some r), GG X Z 4 21 ad (dskE Z.2.1 ad d) 4 [(0, .ref (ad 0)), (1, .int v1), (2, .int v2), (3, .int v3)] [] := by
  intro fu
  induction fu with
  | zero => intro v2 v3 h; cases h
  | succ fu ih =>
    intro v2 v3 h
    rw [f_X0_firstOfRun_L4] at h
    refine g_iload_n C dX0_firstOfRun_4 3 rfl ?_
    refine g_bipush (v := 64) C dX0_firstOfRun_5 (by decide) ?_
    refine g_icmp_ge (tgt := 34) C dX0_firstOfRun_7 (by decide) (fun c1 => ?_) (fun c1 => ?_)
    · replace h := gi_pos c1 h
      refine g_bipush (v := (-5)) C dX0_firstOfRun_34 (by decide) ?_
      cases h
      exact g_iret C e dX0_firstOfRun_36
    · replace h := gi_neg c1 h
      refine g_aload_n C dX0_firstOfRun_10 0 rfl ?_
      refine g_iload_n C dX0_firstOfRun_11 3 rfl ?_
      obtain ⟨r2, er2, h⟩ := gb1 h
      refine g_callWi (rest := []) C gX0_firstOfRun_X0_runFrom rfl ok_X0_runFrom ⟨by decide, by decide⟩ ⟨rfl, rfl⟩ 0 (by decide) rfl rfl (fun hI => cn_X0_runFrom X.2.1 Z ad hI d v3 er2) rfl dX0_firstOfRun_12 rfl (Nat.le_of_ble_eq_true rfl) ?_
      refine g_if_le (tgt := 28) C dX0_firstOfRun_15 (by decide) (fun c3 => ?_) (fun c3 => ?_)
      · replace h := gi_pos c3 h
        obtain ⟨x4, ex4, h⟩ := gl h
        refine g_iinc (v := x4) C dX0_firstOfRun_28 3 rfl (by rw [ex4]; rfl) (by decide) [(3, .int x4), (0, .ref (ad 0)), (1, .int v1), (2, .int v2)] rfl ?_
        refine g_goto (tgt := 4) C dX0_firstOfRun_31 (by decide) ?_
        exact g_sub [1, 2, 3, 0] rfl (ih v2 x4 h)
      · replace h := gi_neg c3 h
        refine g_iload_n C dX0_firstOfRun_18 2 rfl ?_
        refine g_iload_n C dX0_firstOfRun_19 1 rfl ?_
        refine g_icmp_ne (tgt := 25) C dX0_firstOfRun_20 (by decide) (fun c5 => ?_) (fun c5 => ?_)
        · replace h := gi_neg c5 h
          obtain ⟨x6, ex6, h⟩ := gl h
          refine g_iinc (v := x6) C dX0_firstOfRun_25 2 rfl (by rw [ex6]; rfl) (by decide) [(2, .int x6), (0, .ref (ad 0)), (1, .int v1), (3, .int v3)] rfl ?_
          obtain ⟨x7, ex7, h⟩ := gl h
          refine g_iinc (v := x7) C dX0_firstOfRun_28 3 rfl (by rw [ex7]; rfl) (by decide) [(3, .int x7), (2, .int x6), (0, .ref (ad 0)), (1, .int v1)] rfl ?_
          refine g_goto (tgt := 4) C dX0_firstOfRun_31 (by decide) ?_
          exact g_sub [2, 3, 1, 0] rfl (ih x6 x7 h)
        · replace h := gi_pos c5 h
          refine g_iload_n C dX0_firstOfRun_23 3 rfl ?_
          cases h
          exact g_iret C e dX0_firstOfRun_24
set_option maxHeartbeats 4000000 in
set_option maxRecDepth 100000 in
theorem cn_X0_firstOfRun (l : Launch) (Z : gZ) (ad : Nat → Nat) (hI : gInj 21 ad) (d : Nat → Nat → Int32) (v1 : Int32) {r : Int32} (h : f_X0_firstOfRun d v1 = some r) : gI l yX0_firstOfRun wsX0_firstOfRun rm_X0_firstOfRun Z 21 ad [.ref (ad 0), .int v1] (dskE Z.2.1 ad d) r (dskE Z.2.1 ad d) := by
  refine g_entryI (cc := cX0_firstOfRun) (maxL := 4) (by decide +kernel) rfl hI (Nat.le_of_ble_eq_true rfl) (fun X C e => ?_)
  unfold f_X0_firstOfRun at h
  show GG X Z 4 21 ad (dskE Z.2.1 ad d) 0 [(0, .ref (ad 0)), (1, .int v1)] []
  refine g_iconst (v := 0) C dX0_firstOfRun_0 (by decide) ?_
  refine g_istore_n C dX0_firstOfRun_1 (by decide) [(2, .int 0), (0, .ref (ad 0)), (1, .int v1)] rfl ?_
  refine g_iconst (v := 0) C dX0_firstOfRun_2 (by decide) ?_
  refine g_istore_n C dX0_firstOfRun_3 (by decide) [(3, .int 0), (2, .int 0), (0, .ref (ad 0)), (1, .int v1)] rfl ?_
  exact g_sub [2, 3, 1, 0] rfl (cl_X0_firstOfRun_L4 C e v1 gFu 0 0 h)
abbrev rm_X0_freeRuns : Room := ({ frames := 2, cells := 0, slots := 0, locals := 44 } : Room)
def f_X0_freeRuns_L4 (d : Nat → Nat → Int32) : Nat → Int32 → Int32 → Option Int32
  | 0, _, _ => none
  | fu + 1, v1, v2 => if 64 ≤ v2 then some v1 else gb (f_X0_runFrom d v2) (fun r2 => if r2 ≤ 0 then glet (v2 + 1) (fun x4 => f_X0_freeRuns_L4 d fu v1 x4) else glet (v1 + 1) (fun x5 => glet (v2 + 1) (fun x6 => f_X0_freeRuns_L4 d fu x5 x6)))
def f_X0_freeRuns (d : Nat → Nat → Int32) : Option Int32 := f_X0_freeRuns_L4 d gFu 0 0
set_option maxHeartbeats 4000000 in
set_option maxRecDepth 100000 in
theorem cl_X0_freeRuns_L4 {X : gX} {Z : gZ} {ad : Nat → Nat} {d : Nat → Nat → Int32} {r : Int32} (C : GC X Z cX0_freeRuns 3 wsX0_freeRuns RX0 rm_X0_freeRuns 21 ad) (e : gEI X Z 21 ad .int r (dskE Z.2.1 ad d))  : ∀ (fu : Nat) (v1 : Int32) (v2 : Int32) (h : f_X0_freeRuns_L4 d fu v1 v2 = some r), GG X Z 3 21 ad (dskE Z.2.1 ad d) 4 [(0, .ref (ad 0)), (1, .int v1), (2, .int v2)] [] := by
  intro fu
  induction fu with
  | zero => intro v1 v2 h; cases h
  | succ fu ih =>
    intro v1 v2 h
    rw [f_X0_freeRuns_L4] at h
    refine g_iload_n C dX0_freeRuns_4 2 rfl ?_
    refine g_bipush (v := 64) C dX0_freeRuns_5 (by decide) ?_
    refine g_icmp_ge (tgt := 27) C dX0_freeRuns_7 (by decide) (fun c1 => ?_) (fun c1 => ?_)
    · replace h := gi_pos c1 h
      refine g_iload_n C dX0_freeRuns_27 1 rfl ?_
      cases h
      exact g_iret C e dX0_freeRuns_28
    · replace h := gi_neg c1 h
      refine g_aload_n C dX0_freeRuns_10 0 rfl ?_
      refine g_iload_n C dX0_freeRuns_11 2 rfl ?_
      obtain ⟨r2, er2, h⟩ := gb1 h
      refine g_callWi (rest := []) C gX0_freeRuns_X0_runFrom rfl ok_X0_runFrom ⟨by decide, by decide⟩ ⟨rfl, rfl⟩ 0 (by decide) rfl rfl (fun hI => cn_X0_runFrom X.2.1 Z ad hI d v2 er2) rfl dX0_freeRuns_12 rfl (Nat.le_of_ble_eq_true rfl) ?_
      refine g_if_le (tgt := 21) C dX0_freeRuns_15 (by decide) (fun c3 => ?_) (fun c3 => ?_)
      · replace h := gi_pos c3 h
        obtain ⟨x4, ex4, h⟩ := gl h
        refine g_iinc (v := x4) C dX0_freeRuns_21 2 rfl (by rw [ex4]; rfl) (by decide) [(2, .int x4), (0, .ref (ad 0)), (1, .int v1)] rfl ?_
        refine g_goto (tgt := 4) C dX0_freeRuns_24 (by decide) ?_
        exact g_sub [1, 2, 0] rfl (ih v1 x4 h)
      · replace h := gi_neg c3 h
        obtain ⟨x5, ex5, h⟩ := gl h
        refine g_iinc (v := x5) C dX0_freeRuns_18 1 rfl (by rw [ex5]; rfl) (by decide) [(1, .int x5), (0, .ref (ad 0)), (2, .int v2)] rfl ?_
        obtain ⟨x6, ex6, h⟩ := gl h
        refine g_iinc (v := x6) C dX0_freeRuns_21 2 rfl (by rw [ex6]; rfl) (by decide) [(2, .int x6), (1, .int x5), (0, .ref (ad 0))] rfl ?_
        refine g_goto (tgt := 4) C dX0_freeRuns_24 (by decide) ?_
        exact g_sub [2, 1, 0] rfl (ih x5 x6 h)
set_option maxHeartbeats 4000000 in
set_option maxRecDepth 100000 in
theorem cn_X0_freeRuns (l : Launch) (Z : gZ) (ad : Nat → Nat) (hI : gInj 21 ad) (d : Nat → Nat → Int32) {r : Int32} (h : f_X0_freeRuns d = some r) : gI l yX0_freeRuns wsX0_freeRuns rm_X0_freeRuns Z 21 ad [.ref (ad 0)] (dskE Z.2.1 ad d) r (dskE Z.2.1 ad d) := by
  refine g_entryI (cc := cX0_freeRuns) (maxL := 3) (by decide +kernel) rfl hI (Nat.le_of_ble_eq_true rfl) (fun X C e => ?_)
  unfold f_X0_freeRuns at h
  show GG X Z 3 21 ad (dskE Z.2.1 ad d) 0 [(0, .ref (ad 0))] []
  refine g_iconst (v := 0) C dX0_freeRuns_0 (by decide) ?_
  refine g_istore_n C dX0_freeRuns_1 (by decide) [(1, .int 0), (0, .ref (ad 0))] rfl ?_
  refine g_iconst (v := 0) C dX0_freeRuns_2 (by decide) ?_
  refine g_istore_n C dX0_freeRuns_3 (by decide) [(2, .int 0), (1, .int 0), (0, .ref (ad 0))] rfl ?_
  exact g_sub [2, 1, 0] rfl (cl_X0_freeRuns_L4 C e gFu 0 0 h)
abbrev rm_X0_longestRun : Room := ({ frames := 2, cells := 0, slots := 0, locals := 44 } : Room)
def f_X0_longestRun_L4 (d : Nat → Nat → Int32) : Nat → Int32 → Int32 → Option Int32
  | 0, _, _ => none
  | fu + 1, v1, v2 => if 64 ≤ v2 then some v1 else gb (f_X0_runFrom d v2) (fun r2 => glet (if v1 < r2 then r2 else v1) (fun x3 => glet (v2 + 1) (fun x4 => f_X0_longestRun_L4 d fu x3 x4)))
def f_X0_longestRun (d : Nat → Nat → Int32) : Option Int32 := f_X0_longestRun_L4 d gFu 0 0
set_option maxRecDepth 20000 in
theorem mm_X0_longestRun_137_1 : Cond.methodLink RX0 137 Lib.Math.max.name ∈ wsX0_longestRun := by decide +kernel
set_option maxRecDepth 20000 in
theorem mm_X0_longestRun_137_2 : Cond.static Lib.Math.max.name ∈ wsX0_longestRun := by decide +kernel
set_option maxRecDepth 20000 in
theorem mm_X0_longestRun_137_3 : Cond.initialized "java/lang/Math" ∈ wsX0_longestRun := by decide +kernel
set_option maxRecDepth 20000 in
theorem mm_X0_longestRun_137_4 : Cond.code Lib.Math.max.name Lib.Math.max.code 2 (some .int) ∈ wsX0_longestRun := by decide +kernel
set_option maxHeartbeats 4000000 in
set_option maxRecDepth 100000 in
theorem cl_X0_longestRun_L4 {X : gX} {Z : gZ} {ad : Nat → Nat} {d : Nat → Nat → Int32} {r : Int32} (C : GC X Z cX0_longestRun 3 wsX0_longestRun RX0 rm_X0_longestRun 21 ad) (e : gEI X Z 21 ad .int r (dskE Z.2.1 ad d))  : ∀ (fu : Nat) (v1 : Int32) (v2 : Int32) (h : f_X0_longestRun_L4 d fu v1 v2 = some r), GG X Z 3 21 ad (dskE Z.2.1 ad d) 4 [(0, .ref (ad 0)), (1, .int v1), (2, .int v2)] [] := by
  intro fu
  induction fu with
  | zero => intro v1 v2 h; cases h
  | succ fu ih =>
    intro v1 v2 h
    rw [f_X0_longestRun_L4] at h
    refine g_iload_n C dX0_longestRun_4 2 rfl ?_
    refine g_bipush (v := 64) C dX0_longestRun_5 (by decide) ?_
    refine g_icmp_ge (tgt := 26) C dX0_longestRun_7 (by decide) (fun c1 => ?_) (fun c1 => ?_)
    · replace h := gi_pos c1 h
      refine g_iload_n C dX0_longestRun_26 1 rfl ?_
      cases h
      exact g_iret C e dX0_longestRun_27
    · replace h := gi_neg c1 h
      refine g_iload_n C dX0_longestRun_10 1 rfl ?_
      refine g_aload_n C dX0_longestRun_11 0 rfl ?_
      refine g_iload_n C dX0_longestRun_12 2 rfl ?_
      obtain ⟨r2, er2, h⟩ := gb1 h
      refine g_callWi (rest := [.int v1]) C gX0_longestRun_X0_runFrom rfl ok_X0_runFrom ⟨by decide, by decide⟩ ⟨rfl, rfl⟩ 0 (by decide) rfl rfl (fun hI => cn_X0_runFrom X.2.1 Z ad hI d v2 er2) rfl dX0_longestRun_13 rfl (Nat.le_of_ble_eq_true rfl) ?_
      obtain ⟨x3, ex3, h⟩ := gl h
      refine g_mmax C mm_X0_longestRun_137_1 mm_X0_longestRun_137_2 mm_X0_longestRun_137_3 mm_X0_longestRun_137_4 (by decide) (Nat.le_of_ble_eq_true rfl) dX0_longestRun_16 ?_
      rw [← ex3]
      refine g_istore_n C dX0_longestRun_19 (by decide) [(1, .int x3), (0, .ref (ad 0)), (2, .int v2)] rfl ?_
      obtain ⟨x4, ex4, h⟩ := gl h
      refine g_iinc (v := x4) C dX0_longestRun_20 2 rfl (by rw [ex4]; rfl) (by decide) [(2, .int x4), (1, .int x3), (0, .ref (ad 0))] rfl ?_
      refine g_goto (tgt := 4) C dX0_longestRun_23 (by decide) ?_
      exact g_sub [2, 1, 0] rfl (ih x3 x4 h)
set_option maxHeartbeats 4000000 in
set_option maxRecDepth 100000 in
theorem cn_X0_longestRun (l : Launch) (Z : gZ) (ad : Nat → Nat) (hI : gInj 21 ad) (d : Nat → Nat → Int32) {r : Int32} (h : f_X0_longestRun d = some r) : gI l yX0_longestRun wsX0_longestRun rm_X0_longestRun Z 21 ad [.ref (ad 0)] (dskE Z.2.1 ad d) r (dskE Z.2.1 ad d) := by
  refine g_entryI (cc := cX0_longestRun) (maxL := 3) (by decide +kernel) rfl hI (Nat.le_of_ble_eq_true rfl) (fun X C e => ?_)
  unfold f_X0_longestRun at h
  show GG X Z 3 21 ad (dskE Z.2.1 ad d) 0 [(0, .ref (ad 0))] []
  refine g_iconst (v := 0) C dX0_longestRun_0 (by decide) ?_
  refine g_istore_n C dX0_longestRun_1 (by decide) [(1, .int 0), (0, .ref (ad 0))] rfl ?_
  refine g_iconst (v := 0) C dX0_longestRun_2 (by decide) ?_
  refine g_istore_n C dX0_longestRun_3 (by decide) [(2, .int 0), (1, .int 0), (0, .ref (ad 0))] rfl ?_
  exact g_sub [2, 1, 0] rfl (cl_X0_longestRun_L4 C e gFu 0 0 h)
abbrev rm_X0_totalOf : Room := ({ frames := 1, cells := 0, slots := 0, locals := 21 } : Room)
def f_X0_totalOf (d : Nat → Nat → Int32) (v1 : Int32) : Option Int32 := gb (f_X3_at 4 (d 9) v1) (fun r1 => some r1)
set_option maxRecDepth 20000 in
theorem in_X0_totalOf : ∀ w ∈ wsX00, w ∈ wsX0_totalOf := by decide +kernel
set_option maxRecDepth 20000 in
theorem fl_X0_totalOf_44 : Cond.fieldLink RX0 44 (TX0 9).1 (TX0 9).2.1 (TX0 9).2.2.1 ∈ wsX0_totalOf := by decide +kernel
set_option maxHeartbeats 4000000 in
set_option maxRecDepth 100000 in
theorem cn_X0_totalOf (l : Launch) (Z : gZ) (ad : Nat → Nat) (hI : gInj 21 ad) (d : Nat → Nat → Int32) (v1 : Int32) {r : Int32} (h : f_X0_totalOf d v1 = some r) : gI l yX0_totalOf wsX0_totalOf rm_X0_totalOf Z 21 ad [.ref (ad 0), .int v1] (dskE Z.2.1 ad d) r (dskE Z.2.1 ad d) := by
  refine g_entryI (cc := cX0_totalOf) (maxL := 2) (by decide +kernel) rfl hI (Nat.le_of_ble_eq_true rfl) (fun X C e => ?_)
  unfold f_X0_totalOf at h
  show GG X Z 2 21 ad (dskE Z.2.1 ad d) 0 [(0, .ref (ad 0)), (1, .int v1)] []
  refine g_aload_n C dX0_totalOf_0 0 rfl ?_
  refine g_getf (v := .ref (ad 19)) C 0 (by decide) rfl rfl in_X0_totalOf 9 (by decide) fl_X0_totalOf_44 rfl dX0_totalOf_1 ?_
  refine g_iload_n C dX0_totalOf_4 1 rfl ?_
  obtain ⟨r1, er1, h⟩ := gb1 h
  refine g_callVi (rest := []) C gX0_totalOf_X3_at rfl ok_X3_at ⟨by decide, by decide⟩ ⟨rfl, rfl⟩ 19 2 (by decide) (adc := fun i => ad (19 + i)) (fun _ _ => rfl) (dskE_row 9 (by decide)) 0 (by decide) rfl rfl (fun hI => cn_X3_at X.2.1 Z (fun i => ad (19 + i)) hI 4 (d 9) v1 er1) rfl dX0_totalOf_5 rfl (Nat.le_of_ble_eq_true rfl) (dskE Z.2.1 ad d) (dskE_id 9 (by decide)) ?_
  cases h
  exact g_iret C e dX0_totalOf_8
abbrev rm_X0_lentToFilesThatAre : Room := ({ frames := 2, cells := 0, slots := 0, locals := 42 } : Room)
def f_X0_lentToFilesThatAre_L4 (d : Nat → Nat → Int32) (v1 : Int32) : Nat → Int32 → Int32 → Option Int32
  | 0, _, _ => none
  | fu + 1, v2, v3 => if 8 ≤ v3 then some v2 else gb (f_X3_holds 8 (d 3) v3 v1) (fun r2 => if r2 = 0 then glet (v3 + 1) (fun x4 => f_X0_lentToFilesThatAre_L4 d v1 fu v2 x4) else gb (f_X0_lentOf d v3) (fun r5 => glet (v2 + r5) (fun x6 => glet (v3 + 1) (fun x7 => f_X0_lentToFilesThatAre_L4 d v1 fu x6 x7))))
def f_X0_lentToFilesThatAre (d : Nat → Nat → Int32) (v1 : Int32) : Option Int32 := f_X0_lentToFilesThatAre_L4 d v1 gFu 0 0
set_option maxRecDepth 20000 in
theorem in_X0_lentToFilesThatAre : ∀ w ∈ wsX00, w ∈ wsX0_lentToFilesThatAre := by decide +kernel
set_option maxRecDepth 20000 in
theorem fl_X0_lentToFilesThatAre_26 : Cond.fieldLink RX0 26 (TX0 3).1 (TX0 3).2.1 (TX0 3).2.2.1 ∈ wsX0_lentToFilesThatAre := by decide +kernel
set_option maxHeartbeats 4000000 in
set_option maxRecDepth 100000 in
theorem cl_X0_lentToFilesThatAre_L4 {X : gX} {Z : gZ} {ad : Nat → Nat} {d : Nat → Nat → Int32} {r : Int32} (C : GC X Z cX0_lentToFilesThatAre 4 wsX0_lentToFilesThatAre RX0 rm_X0_lentToFilesThatAre 21 ad) (e : gEI X Z 21 ad .int r (dskE Z.2.1 ad d)) (v1 : Int32) : ∀ (fu : Nat) (v2 : Int32) (v3 : Int32) (h : f_X0_lentToFilesThatAre_L4 d v1 fu v2 v3 = some r), GG X Z 4 21 ad (dskE Z.2.1 ad d) 4 [(0, .ref (ad 0)), (1, .int v1), (2, .int v2), (3, .int v3)] [] := by
  intro fu
  induction fu with
  | zero => intro v2 v3 h; cases h
  | succ fu ih =>
    intro v2 v3 h
    rw [f_X0_lentToFilesThatAre_L4] at h
    refine g_iload_n C dX0_lentToFilesThatAre_4 3 rfl ?_
    refine g_bipush (v := 8) C dX0_lentToFilesThatAre_5 (by decide) ?_
    refine g_icmp_ge (tgt := 36) C dX0_lentToFilesThatAre_7 (by decide) (fun c1 => ?_) (fun c1 => ?_)
    · replace h := gi_pos c1 h
      refine g_iload_n C dX0_lentToFilesThatAre_36 2 rfl ?_
      cases h
      exact g_iret C e dX0_lentToFilesThatAre_37
    · replace h := gi_neg c1 h
      refine g_aload_n C dX0_lentToFilesThatAre_10 0 rfl ?_
      refine g_getf (v := .ref (ad 7)) C 0 (by decide) rfl rfl in_X0_lentToFilesThatAre 3 (by decide) fl_X0_lentToFilesThatAre_26 rfl dX0_lentToFilesThatAre_11 ?_
      refine g_iload_n C dX0_lentToFilesThatAre_14 3 rfl ?_
      refine g_iload_n C dX0_lentToFilesThatAre_15 1 rfl ?_
      obtain ⟨r2, er2, h⟩ := gb1 h
      refine g_callVi (rest := []) C gX0_lentToFilesThatAre_X3_holds rfl ok_X3_holds ⟨by decide, by decide⟩ ⟨rfl, rfl⟩ 7 2 (by decide) (adc := fun i => ad (7 + i)) (fun _ _ => rfl) (dskE_row 3 (by decide)) 0 (by decide) rfl rfl (fun hI => cn_X3_holds X.2.1 Z (fun i => ad (7 + i)) hI 8 (d 3) v3 v1 er2) rfl dX0_lentToFilesThatAre_16 rfl (Nat.le_of_ble_eq_true rfl) (dskE Z.2.1 ad d) (dskE_id 3 (by decide)) ?_
      refine g_if_eq (tgt := 30) C dX0_lentToFilesThatAre_19 (by decide) (fun c3 => ?_) (fun c3 => ?_)
      · replace h := gi_pos c3 h
        obtain ⟨x4, ex4, h⟩ := gl h
        refine g_iinc (v := x4) C dX0_lentToFilesThatAre_30 3 rfl (by rw [ex4]; rfl) (by decide) [(3, .int x4), (0, .ref (ad 0)), (1, .int v1), (2, .int v2)] rfl ?_
        refine g_goto (tgt := 4) C dX0_lentToFilesThatAre_33 (by decide) ?_
        exact g_sub [1, 2, 3, 0] rfl (ih v2 x4 h)
      · replace h := gi_neg c3 h
        refine g_iload_n C dX0_lentToFilesThatAre_22 2 rfl ?_
        refine g_aload_n C dX0_lentToFilesThatAre_23 0 rfl ?_
        refine g_iload_n C dX0_lentToFilesThatAre_24 3 rfl ?_
        obtain ⟨r5, er5, h⟩ := gb1 h
        refine g_callWi (rest := [.int v2]) C gX0_lentToFilesThatAre_X0_lentOf rfl ok_X0_lentOf ⟨by decide, by decide⟩ ⟨rfl, rfl⟩ 0 (by decide) rfl rfl (fun hI => cn_X0_lentOf X.2.1 Z ad hI d v3 er5) rfl dX0_lentToFilesThatAre_25 rfl (Nat.le_of_ble_eq_true rfl) ?_
        refine g_iadd C dX0_lentToFilesThatAre_28 ?_
        obtain ⟨x6, ex6, h⟩ := gl h
        refine g_istore_n C dX0_lentToFilesThatAre_29 (by decide) [(2, .int x6), (0, .ref (ad 0)), (1, .int v1), (3, .int v3)] (by rw [ex6]; rfl) ?_
        obtain ⟨x7, ex7, h⟩ := gl h
        refine g_iinc (v := x7) C dX0_lentToFilesThatAre_30 3 rfl (by rw [ex7]; rfl) (by decide) [(3, .int x7), (2, .int x6), (0, .ref (ad 0)), (1, .int v1)] rfl ?_
        refine g_goto (tgt := 4) C dX0_lentToFilesThatAre_33 (by decide) ?_
        exact g_sub [2, 3, 1, 0] rfl (ih x6 x7 h)
set_option maxHeartbeats 4000000 in
set_option maxRecDepth 100000 in
theorem cn_X0_lentToFilesThatAre (l : Launch) (Z : gZ) (ad : Nat → Nat) (hI : gInj 21 ad) (d : Nat → Nat → Int32) (v1 : Int32) {r : Int32} (h : f_X0_lentToFilesThatAre d v1 = some r) : gI l yX0_lentToFilesThatAre wsX0_lentToFilesThatAre rm_X0_lentToFilesThatAre Z 21 ad [.ref (ad 0), .int v1] (dskE Z.2.1 ad d) r (dskE Z.2.1 ad d) := by
  refine g_entryI (cc := cX0_lentToFilesThatAre) (maxL := 4) (by decide +kernel) rfl hI (Nat.le_of_ble_eq_true rfl) (fun X C e => ?_)
  unfold f_X0_lentToFilesThatAre at h
  show GG X Z 4 21 ad (dskE Z.2.1 ad d) 0 [(0, .ref (ad 0)), (1, .int v1)] []
  refine g_iconst (v := 0) C dX0_lentToFilesThatAre_0 (by decide) ?_
  refine g_istore_n C dX0_lentToFilesThatAre_1 (by decide) [(2, .int 0), (0, .ref (ad 0)), (1, .int v1)] rfl ?_
  refine g_iconst (v := 0) C dX0_lentToFilesThatAre_2 (by decide) ?_
  refine g_istore_n C dX0_lentToFilesThatAre_3 (by decide) [(3, .int 0), (2, .int 0), (0, .ref (ad 0)), (1, .int v1)] rfl ?_
  exact g_sub [2, 3, 1, 0] rfl (cl_X0_lentToFilesThatAre_L4 C e v1 gFu 0 0 h)
abbrev rm_X0_filesWithBlocks : Room := ({ frames := 1, cells := 0, slots := 0, locals := 21 } : Room)
def f_X0_filesWithBlocks_L4 (d : Nat → Nat → Int32) : Nat → Int32 → Int32 → Option Int32
  | 0, _, _ => none
  | fu + 1, v1, v2 => if 8 ≤ v2 then some v1 else gb (f_X3_at 8 (d 4) v2) (fun r2 => if r2 ≤ 0 then glet (v2 + 1) (fun x4 => f_X0_filesWithBlocks_L4 d fu v1 x4) else glet (v1 + 1) (fun x5 => glet (v2 + 1) (fun x6 => f_X0_filesWithBlocks_L4 d fu x5 x6)))
def f_X0_filesWithBlocks (d : Nat → Nat → Int32) : Option Int32 := f_X0_filesWithBlocks_L4 d gFu 0 0
set_option maxRecDepth 20000 in
theorem in_X0_filesWithBlocks : ∀ w ∈ wsX00, w ∈ wsX0_filesWithBlocks := by decide +kernel
set_option maxRecDepth 20000 in
theorem fl_X0_filesWithBlocks_29 : Cond.fieldLink RX0 29 (TX0 4).1 (TX0 4).2.1 (TX0 4).2.2.1 ∈ wsX0_filesWithBlocks := by decide +kernel
set_option maxHeartbeats 4000000 in
set_option maxRecDepth 100000 in
theorem cl_X0_filesWithBlocks_L4 {X : gX} {Z : gZ} {ad : Nat → Nat} {d : Nat → Nat → Int32} {r : Int32} (C : GC X Z cX0_filesWithBlocks 3 wsX0_filesWithBlocks RX0 rm_X0_filesWithBlocks 21 ad) (e : gEI X Z 21 ad .int r (dskE Z.2.1 ad d))  : ∀ (fu : Nat) (v1 : Int32) (v2 : Int32) (h : f_X0_filesWithBlocks_L4 d fu v1 v2 = some r), GG X Z 3 21 ad (dskE Z.2.1 ad d) 4 [(0, .ref (ad 0)), (1, .int v1), (2, .int v2)] [] := by
  intro fu
  induction fu with
  | zero => intro v1 v2 h; cases h
  | succ fu ih =>
    intro v1 v2 h
    rw [f_X0_filesWithBlocks_L4] at h
    refine g_iload_n C dX0_filesWithBlocks_4 2 rfl ?_
    refine g_bipush (v := 8) C dX0_filesWithBlocks_5 (by decide) ?_
    refine g_icmp_ge (tgt := 30) C dX0_filesWithBlocks_7 (by decide) (fun c1 => ?_) (fun c1 => ?_)
    · replace h := gi_pos c1 h
      refine g_iload_n C dX0_filesWithBlocks_30 1 rfl ?_
      cases h
      exact g_iret C e dX0_filesWithBlocks_31
    · replace h := gi_neg c1 h
      refine g_aload_n C dX0_filesWithBlocks_10 0 rfl ?_
      refine g_getf (v := .ref (ad 9)) C 0 (by decide) rfl rfl in_X0_filesWithBlocks 4 (by decide) fl_X0_filesWithBlocks_29 rfl dX0_filesWithBlocks_11 ?_
      refine g_iload_n C dX0_filesWithBlocks_14 2 rfl ?_
      obtain ⟨r2, er2, h⟩ := gb1 h
      refine g_callVi (rest := []) C gX0_filesWithBlocks_X3_at rfl ok_X3_at ⟨by decide, by decide⟩ ⟨rfl, rfl⟩ 9 2 (by decide) (adc := fun i => ad (9 + i)) (fun _ _ => rfl) (dskE_row 4 (by decide)) 0 (by decide) rfl rfl (fun hI => cn_X3_at X.2.1 Z (fun i => ad (9 + i)) hI 8 (d 4) v2 er2) rfl dX0_filesWithBlocks_15 rfl (Nat.le_of_ble_eq_true rfl) (dskE Z.2.1 ad d) (dskE_id 4 (by decide)) ?_
      refine g_if_le (tgt := 24) C dX0_filesWithBlocks_18 (by decide) (fun c3 => ?_) (fun c3 => ?_)
      · replace h := gi_pos c3 h
        obtain ⟨x4, ex4, h⟩ := gl h
        refine g_iinc (v := x4) C dX0_filesWithBlocks_24 2 rfl (by rw [ex4]; rfl) (by decide) [(2, .int x4), (0, .ref (ad 0)), (1, .int v1)] rfl ?_
        refine g_goto (tgt := 4) C dX0_filesWithBlocks_27 (by decide) ?_
        exact g_sub [1, 2, 0] rfl (ih v1 x4 h)
      · replace h := gi_neg c3 h
        obtain ⟨x5, ex5, h⟩ := gl h
        refine g_iinc (v := x5) C dX0_filesWithBlocks_21 1 rfl (by rw [ex5]; rfl) (by decide) [(1, .int x5), (0, .ref (ad 0)), (2, .int v2)] rfl ?_
        obtain ⟨x6, ex6, h⟩ := gl h
        refine g_iinc (v := x6) C dX0_filesWithBlocks_24 2 rfl (by rw [ex6]; rfl) (by decide) [(2, .int x6), (1, .int x5), (0, .ref (ad 0))] rfl ?_
        refine g_goto (tgt := 4) C dX0_filesWithBlocks_27 (by decide) ?_
        exact g_sub [2, 1, 0] rfl (ih x5 x6 h)
set_option maxHeartbeats 4000000 in
set_option maxRecDepth 100000 in
theorem cn_X0_filesWithBlocks (l : Launch) (Z : gZ) (ad : Nat → Nat) (hI : gInj 21 ad) (d : Nat → Nat → Int32) {r : Int32} (h : f_X0_filesWithBlocks d = some r) : gI l yX0_filesWithBlocks wsX0_filesWithBlocks rm_X0_filesWithBlocks Z 21 ad [.ref (ad 0)] (dskE Z.2.1 ad d) r (dskE Z.2.1 ad d) := by
  refine g_entryI (cc := cX0_filesWithBlocks) (maxL := 3) (by decide +kernel) rfl hI (Nat.le_of_ble_eq_true rfl) (fun X C e => ?_)
  unfold f_X0_filesWithBlocks at h
  show GG X Z 3 21 ad (dskE Z.2.1 ad d) 0 [(0, .ref (ad 0))] []
  refine g_iconst (v := 0) C dX0_filesWithBlocks_0 (by decide) ?_
  refine g_istore_n C dX0_filesWithBlocks_1 (by decide) [(1, .int 0), (0, .ref (ad 0))] rfl ?_
  refine g_iconst (v := 0) C dX0_filesWithBlocks_2 (by decide) ?_
  refine g_istore_n C dX0_filesWithBlocks_3 (by decide) [(2, .int 0), (1, .int 0), (0, .ref (ad 0))] rfl ?_
  exact g_sub [2, 1, 0] rfl (cl_X0_filesWithBlocks_L4 C e gFu 0 0 h)
abbrev rm_X0_allExtents : Room := ({ frames := 3, cells := 0, slots := 0, locals := 66 } : Room)
def f_X0_allExtents_L4 (d : Nat → Nat → Int32) : Nat → Int32 → Int32 → Option Int32
  | 0, _, _ => none
  | fu + 1, v1, v2 => if 8 ≤ v2 then some v1 else gb (f_X0_extentsOf d v2) (fun r2 => glet (v1 + r2) (fun x3 => glet (v2 + 1) (fun x4 => f_X0_allExtents_L4 d fu x3 x4)))
def f_X0_allExtents (d : Nat → Nat → Int32) : Option Int32 := f_X0_allExtents_L4 d gFu 0 0
set_option maxHeartbeats 4000000 in
set_option maxRecDepth 100000 in
theorem cl_X0_allExtents_L4 {X : gX} {Z : gZ} {ad : Nat → Nat} {d : Nat → Nat → Int32} {r : Int32} (C : GC X Z cX0_allExtents 3 wsX0_allExtents RX0 rm_X0_allExtents 21 ad) (e : gEI X Z 21 ad .int r (dskE Z.2.1 ad d))  : ∀ (fu : Nat) (v1 : Int32) (v2 : Int32) (h : f_X0_allExtents_L4 d fu v1 v2 = some r), GG X Z 3 21 ad (dskE Z.2.1 ad d) 4 [(0, .ref (ad 0)), (1, .int v1), (2, .int v2)] [] := by
  intro fu
  induction fu with
  | zero => intro v1 v2 h; cases h
  | succ fu ih =>
    intro v1 v2 h
    rw [f_X0_allExtents_L4] at h
    refine g_iload_n C dX0_allExtents_4 2 rfl ?_
    refine g_bipush (v := 8) C dX0_allExtents_5 (by decide) ?_
    refine g_icmp_ge (tgt := 24) C dX0_allExtents_7 (by decide) (fun c1 => ?_) (fun c1 => ?_)
    · replace h := gi_pos c1 h
      refine g_iload_n C dX0_allExtents_24 1 rfl ?_
      cases h
      exact g_iret C e dX0_allExtents_25
    · replace h := gi_neg c1 h
      refine g_iload_n C dX0_allExtents_10 1 rfl ?_
      refine g_aload_n C dX0_allExtents_11 0 rfl ?_
      refine g_iload_n C dX0_allExtents_12 2 rfl ?_
      obtain ⟨r2, er2, h⟩ := gb1 h
      refine g_callWi (rest := [.int v1]) C gX0_allExtents_X0_extentsOf rfl ok_X0_extentsOf ⟨by decide, by decide⟩ ⟨rfl, rfl⟩ 0 (by decide) rfl rfl (fun hI => cn_X0_extentsOf X.2.1 Z ad hI d v2 er2) rfl dX0_allExtents_13 rfl (Nat.le_of_ble_eq_true rfl) ?_
      refine g_iadd C dX0_allExtents_16 ?_
      obtain ⟨x3, ex3, h⟩ := gl h
      refine g_istore_n C dX0_allExtents_17 (by decide) [(1, .int x3), (0, .ref (ad 0)), (2, .int v2)] (by rw [ex3]; rfl) ?_
      obtain ⟨x4, ex4, h⟩ := gl h
      refine g_iinc (v := x4) C dX0_allExtents_18 2 rfl (by rw [ex4]; rfl) (by decide) [(2, .int x4), (1, .int x3), (0, .ref (ad 0))] rfl ?_
      refine g_goto (tgt := 4) C dX0_allExtents_21 (by decide) ?_
      exact g_sub [2, 1, 0] rfl (ih x3 x4 h)
set_option maxHeartbeats 4000000 in
set_option maxRecDepth 100000 in
theorem cn_X0_allExtents (l : Launch) (Z : gZ) (ad : Nat → Nat) (hI : gInj 21 ad) (d : Nat → Nat → Int32) {r : Int32} (h : f_X0_allExtents d = some r) : gI l yX0_allExtents wsX0_allExtents rm_X0_allExtents Z 21 ad [.ref (ad 0)] (dskE Z.2.1 ad d) r (dskE Z.2.1 ad d) := by
  refine g_entryI (cc := cX0_allExtents) (maxL := 3) (by decide +kernel) rfl hI (Nat.le_of_ble_eq_true rfl) (fun X C e => ?_)
  unfold f_X0_allExtents at h
  show GG X Z 3 21 ad (dskE Z.2.1 ad d) 0 [(0, .ref (ad 0))] []
  refine g_iconst (v := 0) C dX0_allExtents_0 (by decide) ?_
  refine g_istore_n C dX0_allExtents_1 (by decide) [(1, .int 0), (0, .ref (ad 0))] rfl ?_
  refine g_iconst (v := 0) C dX0_allExtents_2 (by decide) ?_
  refine g_istore_n C dX0_allExtents_3 (by decide) [(2, .int 0), (1, .int 0), (0, .ref (ad 0))] rfl ?_
  exact g_sub [2, 1, 0] rfl (cl_X0_allExtents_L4 C e gFu 0 0 h)
end
section
theorem dX2_init_0 : decode cX2_init 0 = .ok (.aload_n 0, 1) := by decide +kernel
theorem dX2_init_1 : decode cX2_init 1 = .ok (.invokespecial 3, 3) := by decide +kernel
theorem dX2_init_4 : decode cX2_init 4 = .ok (.aload_n 0, 1) := by decide +kernel
theorem dX2_init_5 : decode cX2_init 5 = .ok (.iconst 0, 1) := by decide +kernel
theorem dX2_init_6 : decode cX2_init 6 = .ok (.putfield 11, 3) := by decide +kernel
theorem dX2_init_9 : decode cX2_init 9 = .ok (.aload_n 0, 1) := by decide +kernel
theorem dX2_init_10 : decode cX2_init 10 = .ok (.iconst 0, 1) := by decide +kernel
theorem dX2_init_11 : decode cX2_init 11 = .ok (.putfield 15, 3) := by decide +kernel
theorem dX2_init_14 : decode cX2_init 14 = .ok (.aload_n 0, 1) := by decide +kernel
theorem dX2_init_15 : decode cX2_init 15 = .ok (.iconst 0, 1) := by decide +kernel
theorem dX2_init_16 : decode cX2_init 16 = .ok (.putfield 18, 3) := by decide +kernel
theorem dX2_init_19 : decode cX2_init 19 = .ok (.aload_n 0, 1) := by decide +kernel
theorem dX2_init_20 : decode cX2_init 20 = .ok (.iconst 0, 1) := by decide +kernel
theorem dX2_init_21 : decode cX2_init 21 = .ok (.putfield 21, 3) := by decide +kernel
theorem dX2_init_24 : decode cX2_init 24 = .ok (.aload_n 0, 1) := by decide +kernel
theorem dX2_init_25 : decode cX2_init 25 = .ok (.iconst 0, 1) := by decide +kernel
theorem dX2_init_26 : decode cX2_init 26 = .ok (.putfield 24, 3) := by decide +kernel
theorem dX2_init_29 : decode cX2_init 29 = .ok (.return_, 1) := by decide +kernel
theorem dX2_letter_0 : decode cX2_letter 0 = .ok (.aload_n 0, 1) := by decide +kernel
theorem dX2_letter_1 : decode cX2_letter 1 = .ok (.getfield 15, 3) := by decide +kernel
theorem dX2_letter_4 : decode cX2_letter 4 = .ok (.ireturn, 1) := by decide +kernel
theorem dX2_fileNumber_0 : decode cX2_fileNumber 0 = .ok (.aload_n 0, 1) := by decide +kernel
theorem dX2_fileNumber_1 : decode cX2_fileNumber 1 = .ok (.getfield 18, 3) := by decide +kernel
theorem dX2_fileNumber_4 : decode cX2_fileNumber 4 = .ok (.ireturn, 1) := by decide +kernel
theorem dX2_firstNumber_0 : decode cX2_firstNumber 0 = .ok (.aload_n 0, 1) := by decide +kernel
theorem dX2_firstNumber_1 : decode cX2_firstNumber 1 = .ok (.getfield 21, 3) := by decide +kernel
theorem dX2_firstNumber_4 : decode cX2_firstNumber 4 = .ok (.ireturn, 1) := by decide +kernel
theorem dX2_secondNumber_0 : decode cX2_secondNumber 0 = .ok (.aload_n 0, 1) := by decide +kernel
theorem dX2_secondNumber_1 : decode cX2_secondNumber 1 = .ok (.getfield 24, 3) := by decide +kernel
theorem dX2_secondNumber_4 : decode cX2_secondNumber 4 = .ok (.ireturn, 1) := by decide +kernel
theorem dX2_begin_0 : decode cX2_begin 0 = .ok (.aload_n 0, 1) := by decide +kernel
theorem dX2_begin_1 : decode cX2_begin 1 = .ok (.iconst 0, 1) := by decide +kernel
theorem dX2_begin_2 : decode cX2_begin 2 = .ok (.putfield 11, 3) := by decide +kernel
theorem dX2_begin_5 : decode cX2_begin 5 = .ok (.return_, 1) := by decide +kernel
theorem dX2_isWhole_0 : decode cX2_isWhole 0 = .ok (.aload_n 0, 1) := by decide +kernel
theorem dX2_isWhole_1 : decode cX2_isWhole 1 = .ok (.getfield 11, 3) := by decide +kernel
theorem dX2_isWhole_4 : decode cX2_isWhole 4 = .ok (.bipush 7, 2) := by decide +kernel
theorem dX2_isWhole_6 : decode cX2_isWhole 6 = .ok (.if_icmp .eq 29, 3) := by decide +kernel
theorem dX2_isWhole_9 : decode cX2_isWhole 9 = .ok (.aload_n 0, 1) := by decide +kernel
theorem dX2_isWhole_10 : decode cX2_isWhole 10 = .ok (.getfield 11, 3) := by decide +kernel
theorem dX2_isWhole_13 : decode cX2_isWhole 13 = .ok (.bipush 6, 2) := by decide +kernel
theorem dX2_isWhole_15 : decode cX2_isWhole 15 = .ok (.if_icmp .eq 20, 3) := by decide +kernel
theorem dX2_isWhole_18 : decode cX2_isWhole 18 = .ok (.aload_n 0, 1) := by decide +kernel
theorem dX2_isWhole_19 : decode cX2_isWhole 19 = .ok (.getfield 11, 3) := by decide +kernel
theorem dX2_isWhole_22 : decode cX2_isWhole 22 = .ok (.iconst 4, 1) := by decide +kernel
theorem dX2_isWhole_23 : decode cX2_isWhole 23 = .ok (.if_icmp .ne 16, 3) := by decide +kernel
theorem dX2_isWhole_26 : decode cX2_isWhole 26 = .ok (.aload_n 0, 1) := by decide +kernel
theorem dX2_isWhole_27 : decode cX2_isWhole 27 = .ok (.getfield 15, 3) := by decide +kernel
theorem dX2_isWhole_30 : decode cX2_isWhole 30 = .ok (.bipush 116, 2) := by decide +kernel
theorem dX2_isWhole_32 : decode cX2_isWhole 32 = .ok (.if_icmp .ne 7, 3) := by decide +kernel
theorem dX2_isWhole_35 : decode cX2_isWhole 35 = .ok (.iconst 1, 1) := by decide +kernel
theorem dX2_isWhole_36 : decode cX2_isWhole 36 = .ok (.goto 4, 3) := by decide +kernel
theorem dX2_isWhole_39 : decode cX2_isWhole 39 = .ok (.iconst 0, 1) := by decide +kernel
theorem dX2_isWhole_40 : decode cX2_isWhole 40 = .ok (.ireturn, 1) := by decide +kernel
set_option maxRecDepth 20000 in
theorem ggX2_takes_X2_isWhole : GoodIn wsX2_takes wsX2_isWhole := goodIn_r _ [6, 1, 7, 42, 43, 44, 45, 46] (by decide +kernel) (by decide +kernel)
set_option maxRecDepth 20000 in
theorem gX2_takes_X2_isWhole : GoodIn wsX2_takes (wsV RX2 27 RX2 yX2_isWhole wsX2_isWhole) := goodIn_app (goodIn_of _ (by decide +kernel)) ggX2_takes_X2_isWhole
set_option maxRecDepth 20000 in
theorem ggX2_takes_X2_takesLetter : GoodIn wsX2_takes wsX2_takesLetter := goodIn_r _ [11, 7, 1, 42, 43, 44, 45, 46] (by decide +kernel) (by decide +kernel)
set_option maxRecDepth 20000 in
theorem gX2_takes_X2_takesLetter : GoodIn wsX2_takes (wsV RX2 31 RX2 yX2_takesLetter wsX2_takesLetter) := goodIn_app (goodIn_of _ (by decide +kernel)) ggX2_takes_X2_takesLetter
set_option maxRecDepth 20000 in
theorem ggX2_takes_X2_takesFile : GoodIn wsX2_takes wsX2_takesFile := goodIn_r _ [15, 16, 7, 1, 42, 43, 44, 45, 46] (by decide +kernel) (by decide +kernel)
set_option maxRecDepth 20000 in
theorem gX2_takes_X2_takesFile : GoodIn wsX2_takes (wsV RX2 35 RX2 yX2_takesFile wsX2_takesFile) := goodIn_app (goodIn_of _ (by decide +kernel)) ggX2_takes_X2_takesFile
set_option maxRecDepth 20000 in
theorem ggX2_takes_X2_takesMark : GoodIn wsX2_takes wsX2_takesMark := goodIn_r _ [20, 1, 42, 43, 44, 45, 46] (by decide +kernel) (by decide +kernel)
set_option maxRecDepth 20000 in
theorem gX2_takes_X2_takesMark : GoodIn wsX2_takes (wsV RX2 38 RX2 yX2_takesMark wsX2_takesMark) := goodIn_app (goodIn_of _ (by decide +kernel)) ggX2_takes_X2_takesMark
set_option maxRecDepth 20000 in
theorem ggX2_takes_X2_takesFirst : GoodIn wsX2_takes wsX2_takesFirst := goodIn_r _ [24, 25, 1, 7, 42, 43, 44, 45, 46] (by decide +kernel) (by decide +kernel)
set_option maxRecDepth 20000 in
theorem gX2_takes_X2_takesFirst : GoodIn wsX2_takes (wsV RX2 42 RX2 yX2_takesFirst wsX2_takesFirst) := goodIn_app (goodIn_of _ (by decide +kernel)) ggX2_takes_X2_takesFirst
set_option maxRecDepth 20000 in
theorem ggX2_takes_X2_takesMoreOfFirst : GoodIn wsX2_takes wsX2_takesMoreOfFirst := goodIn_r _ [29, 7, 25, 17, 18, 19, 5, 20, 1, 30, 31, 32, 42, 43, 44, 45, 46] (by decide +kernel) (by decide +kernel)
set_option maxRecDepth 20000 in
theorem gX2_takes_X2_takesMoreOfFirst : GoodIn wsX2_takes (wsV RX2 45 RX2 yX2_takesMoreOfFirst wsX2_takesMoreOfFirst) := goodIn_app (goodIn_of _ (by decide +kernel)) ggX2_takes_X2_takesMoreOfFirst
set_option maxRecDepth 20000 in
theorem ggX2_takes_X2_takesSecond : GoodIn wsX2_takes wsX2_takesSecond := goodIn_r _ [36, 37, 1, 42, 43, 44, 45, 46] (by decide +kernel) (by decide +kernel)
set_option maxRecDepth 20000 in
theorem gX2_takes_X2_takesSecond : GoodIn wsX2_takes (wsV RX2 48 RX2 yX2_takesSecond wsX2_takesSecond) := goodIn_app (goodIn_of _ (by decide +kernel)) ggX2_takes_X2_takesSecond
set_option maxRecDepth 20000 in
theorem ggX2_takes_X2_takesMoreOfSecond : GoodIn wsX2_takes wsX2_takesMoreOfSecond := goodIn_r _ [41, 37, 30, 31, 5, 32, 42, 43, 44, 45, 46] (by decide +kernel) (by decide +kernel)
set_option maxRecDepth 20000 in
theorem gX2_takes_X2_takesMoreOfSecond : GoodIn wsX2_takes (wsV RX2 51 RX2 yX2_takesMoreOfSecond wsX2_takesMoreOfSecond) := goodIn_app (goodIn_of _ (by decide +kernel)) ggX2_takes_X2_takesMoreOfSecond
theorem dX2_takes_0 : decode cX2_takes 0 = .ok (.iload_n 1, 1) := by decide +kernel
theorem dX2_takes_1 : decode cX2_takes 1 = .ok (.bipush 59, 2) := by decide +kernel
theorem dX2_takes_3 : decode cX2_takes 3 = .ok (.if_icmp .ne 26, 3) := by decide +kernel
theorem dX2_takes_6 : decode cX2_takes 6 = .ok (.aload_n 0, 1) := by decide +kernel
theorem dX2_takes_7 : decode cX2_takes 7 = .ok (.invokevirtual 27, 3) := by decide +kernel
theorem dX2_takes_10 : decode cX2_takes 10 = .ok (.istore_n 2, 1) := by decide +kernel
theorem dX2_takes_11 : decode cX2_takes 11 = .ok (.aload_n 0, 1) := by decide +kernel
theorem dX2_takes_12 : decode cX2_takes 12 = .ok (.iload_n 2, 1) := by decide +kernel
theorem dX2_takes_13 : decode cX2_takes 13 = .ok (.ifCond .eq 7, 3) := by decide +kernel
theorem dX2_takes_16 : decode cX2_takes 16 = .ok (.iconst 0, 1) := by decide +kernel
theorem dX2_takes_17 : decode cX2_takes 17 = .ok (.goto 7, 3) := by decide +kernel
theorem dX2_takes_20 : decode cX2_takes 20 = .ok (.aload_n 0, 1) := by decide +kernel
theorem dX2_takes_21 : decode cX2_takes 21 = .ok (.getfield 11, 3) := by decide +kernel
theorem dX2_takes_24 : decode cX2_takes 24 = .ok (.putfield 11, 3) := by decide +kernel
theorem dX2_takes_27 : decode cX2_takes 27 = .ok (.iload_n 2, 1) := by decide +kernel
theorem dX2_takes_28 : decode cX2_takes 28 = .ok (.ireturn, 1) := by decide +kernel
theorem dX2_takes_29 : decode cX2_takes 29 = .ok (.aload_n 0, 1) := by decide +kernel
theorem dX2_takes_30 : decode cX2_takes 30 = .ok (.getfield 11, 3) := by decide +kernel
theorem dX2_takes_33 : decode cX2_takes 33 = .ok (.tableswitch 88 0 6 #[43, 49, 55, 64, 70, 76, 82], 43) := by decide +kernel
theorem dX2_takes_76 : decode cX2_takes 76 = .ok (.aload_n 0, 1) := by decide +kernel
theorem dX2_takes_77 : decode cX2_takes 77 = .ok (.iload_n 1, 1) := by decide +kernel
theorem dX2_takes_78 : decode cX2_takes 78 = .ok (.invokevirtual 31, 3) := by decide +kernel
theorem dX2_takes_81 : decode cX2_takes 81 = .ok (.ireturn, 1) := by decide +kernel
theorem dX2_takes_82 : decode cX2_takes 82 = .ok (.aload_n 0, 1) := by decide +kernel
theorem dX2_takes_83 : decode cX2_takes 83 = .ok (.iload_n 1, 1) := by decide +kernel
theorem dX2_takes_84 : decode cX2_takes 84 = .ok (.invokevirtual 35, 3) := by decide +kernel
theorem dX2_takes_87 : decode cX2_takes 87 = .ok (.ireturn, 1) := by decide +kernel
theorem dX2_takes_88 : decode cX2_takes 88 = .ok (.aload_n 0, 1) := by decide +kernel
theorem dX2_takes_89 : decode cX2_takes 89 = .ok (.iload_n 1, 1) := by decide +kernel
theorem dX2_takes_90 : decode cX2_takes 90 = .ok (.bipush 58, 2) := by decide +kernel
theorem dX2_takes_92 : decode cX2_takes 92 = .ok (.iconst 3, 1) := by decide +kernel
theorem dX2_takes_93 : decode cX2_takes 93 = .ok (.invokevirtual 38, 3) := by decide +kernel
theorem dX2_takes_96 : decode cX2_takes 96 = .ok (.ireturn, 1) := by decide +kernel
theorem dX2_takes_97 : decode cX2_takes 97 = .ok (.aload_n 0, 1) := by decide +kernel
theorem dX2_takes_98 : decode cX2_takes 98 = .ok (.iload_n 1, 1) := by decide +kernel
theorem dX2_takes_99 : decode cX2_takes 99 = .ok (.invokevirtual 42, 3) := by decide +kernel
theorem dX2_takes_102 : decode cX2_takes 102 = .ok (.ireturn, 1) := by decide +kernel
theorem dX2_takes_103 : decode cX2_takes 103 = .ok (.aload_n 0, 1) := by decide +kernel
theorem dX2_takes_104 : decode cX2_takes 104 = .ok (.iload_n 1, 1) := by decide +kernel
theorem dX2_takes_105 : decode cX2_takes 105 = .ok (.invokevirtual 45, 3) := by decide +kernel
theorem dX2_takes_108 : decode cX2_takes 108 = .ok (.ireturn, 1) := by decide +kernel
theorem dX2_takes_109 : decode cX2_takes 109 = .ok (.aload_n 0, 1) := by decide +kernel
theorem dX2_takes_110 : decode cX2_takes 110 = .ok (.iload_n 1, 1) := by decide +kernel
theorem dX2_takes_111 : decode cX2_takes 111 = .ok (.invokevirtual 48, 3) := by decide +kernel
theorem dX2_takes_114 : decode cX2_takes 114 = .ok (.ireturn, 1) := by decide +kernel
theorem dX2_takes_115 : decode cX2_takes 115 = .ok (.aload_n 0, 1) := by decide +kernel
theorem dX2_takes_116 : decode cX2_takes 116 = .ok (.iload_n 1, 1) := by decide +kernel
theorem dX2_takes_117 : decode cX2_takes 117 = .ok (.invokevirtual 51, 3) := by decide +kernel
theorem dX2_takes_120 : decode cX2_takes 120 = .ok (.ireturn, 1) := by decide +kernel
theorem dX2_takes_121 : decode cX2_takes 121 = .ok (.iconst 0, 1) := by decide +kernel
theorem dX2_takes_122 : decode cX2_takes 122 = .ok (.ireturn, 1) := by decide +kernel
theorem dX2_takesLetter_0 : decode cX2_takesLetter 0 = .ok (.aload_n 0, 1) := by decide +kernel
theorem dX2_takesLetter_1 : decode cX2_takesLetter 1 = .ok (.iload_n 1, 1) := by decide +kernel
theorem dX2_takesLetter_2 : decode cX2_takesLetter 2 = .ok (.putfield 15, 3) := by decide +kernel
theorem dX2_takesLetter_5 : decode cX2_takesLetter 5 = .ok (.iload_n 1, 1) := by decide +kernel
theorem dX2_takesLetter_6 : decode cX2_takesLetter 6 = .ok (.lookupswitch 97 #[(33, 82), (97, 90), (100, 90), (109, 82), (110, 82), (111, 90), (115, 90), (116, 90), (120, 90)], 82) := by decide +kernel
theorem dX2_takesLetter_88 : decode cX2_takesLetter 88 = .ok (.aload_n 0, 1) := by decide +kernel
theorem dX2_takesLetter_89 : decode cX2_takesLetter 89 = .ok (.bipush 7, 2) := by decide +kernel
theorem dX2_takesLetter_91 : decode cX2_takesLetter 91 = .ok (.putfield 11, 3) := by decide +kernel
theorem dX2_takesLetter_94 : decode cX2_takesLetter 94 = .ok (.iconst 1, 1) := by decide +kernel
theorem dX2_takesLetter_95 : decode cX2_takesLetter 95 = .ok (.ireturn, 1) := by decide +kernel
theorem dX2_takesLetter_96 : decode cX2_takesLetter 96 = .ok (.aload_n 0, 1) := by decide +kernel
theorem dX2_takesLetter_97 : decode cX2_takesLetter 97 = .ok (.iconst 1, 1) := by decide +kernel
theorem dX2_takesLetter_98 : decode cX2_takesLetter 98 = .ok (.putfield 11, 3) := by decide +kernel
theorem dX2_takesLetter_101 : decode cX2_takesLetter 101 = .ok (.iconst 1, 1) := by decide +kernel
theorem dX2_takesLetter_102 : decode cX2_takesLetter 102 = .ok (.ireturn, 1) := by decide +kernel
theorem dX2_takesLetter_103 : decode cX2_takesLetter 103 = .ok (.iconst 0, 1) := by decide +kernel
theorem dX2_takesLetter_104 : decode cX2_takesLetter 104 = .ok (.ireturn, 1) := by decide +kernel
theorem dX2_takesFile_0 : decode cX2_takesFile 0 = .ok (.aload_n 0, 1) := by decide +kernel
theorem dX2_takesFile_1 : decode cX2_takesFile 1 = .ok (.iload_n 1, 1) := by decide +kernel
theorem dX2_takesFile_2 : decode cX2_takesFile 2 = .ok (.bipush 48, 2) := by decide +kernel
theorem dX2_takesFile_4 : decode cX2_takesFile 4 = .ok (.isub, 1) := by decide +kernel
theorem dX2_takesFile_5 : decode cX2_takesFile 5 = .ok (.putfield 18, 3) := by decide +kernel
theorem dX2_takesFile_8 : decode cX2_takesFile 8 = .ok (.aload_n 0, 1) := by decide +kernel
theorem dX2_takesFile_9 : decode cX2_takesFile 9 = .ok (.aload_n 0, 1) := by decide +kernel
theorem dX2_takesFile_10 : decode cX2_takesFile 10 = .ok (.getfield 15, 3) := by decide +kernel
theorem dX2_takesFile_13 : decode cX2_takesFile 13 = .ok (.bipush 97, 2) := by decide +kernel
theorem dX2_takesFile_15 : decode cX2_takesFile 15 = .ok (.if_icmp .eq 12, 3) := by decide +kernel
theorem dX2_takesFile_18 : decode cX2_takesFile 18 = .ok (.aload_n 0, 1) := by decide +kernel
theorem dX2_takesFile_19 : decode cX2_takesFile 19 = .ok (.getfield 15, 3) := by decide +kernel
theorem dX2_takesFile_22 : decode cX2_takesFile 22 = .ok (.bipush 116, 2) := by decide +kernel
theorem dX2_takesFile_24 : decode cX2_takesFile 24 = .ok (.if_icmp .ne 7, 3) := by decide +kernel
theorem dX2_takesFile_27 : decode cX2_takesFile 27 = .ok (.iconst 2, 1) := by decide +kernel
theorem dX2_takesFile_28 : decode cX2_takesFile 28 = .ok (.goto 5, 3) := by decide +kernel
theorem dX2_takesFile_31 : decode cX2_takesFile 31 = .ok (.bipush 7, 2) := by decide +kernel
theorem dX2_takesFile_33 : decode cX2_takesFile 33 = .ok (.putfield 11, 3) := by decide +kernel
theorem dX2_takesFile_36 : decode cX2_takesFile 36 = .ok (.aload_n 0, 1) := by decide +kernel
theorem dX2_takesFile_37 : decode cX2_takesFile 37 = .ok (.getfield 18, 3) := by decide +kernel
theorem dX2_takesFile_40 : decode cX2_takesFile 40 = .ok (.ifCond .lt 16, 3) := by decide +kernel
theorem dX2_takesFile_43 : decode cX2_takesFile 43 = .ok (.aload_n 0, 1) := by decide +kernel
theorem dX2_takesFile_44 : decode cX2_takesFile 44 = .ok (.getfield 18, 3) := by decide +kernel
theorem dX2_takesFile_47 : decode cX2_takesFile 47 = .ok (.bipush 8, 2) := by decide +kernel
theorem dX2_takesFile_49 : decode cX2_takesFile 49 = .ok (.if_icmp .ge 7, 3) := by decide +kernel
theorem dX2_takesFile_52 : decode cX2_takesFile 52 = .ok (.iconst 1, 1) := by decide +kernel
theorem dX2_takesFile_53 : decode cX2_takesFile 53 = .ok (.goto 4, 3) := by decide +kernel
theorem dX2_takesFile_56 : decode cX2_takesFile 56 = .ok (.iconst 0, 1) := by decide +kernel
theorem dX2_takesFile_57 : decode cX2_takesFile 57 = .ok (.ireturn, 1) := by decide +kernel
theorem dX2_takesMark_0 : decode cX2_takesMark 0 = .ok (.aload_n 0, 1) := by decide +kernel
theorem dX2_takesMark_1 : decode cX2_takesMark 1 = .ok (.iload_n 3, 1) := by decide +kernel
theorem dX2_takesMark_2 : decode cX2_takesMark 2 = .ok (.putfield 11, 3) := by decide +kernel
theorem dX2_takesMark_5 : decode cX2_takesMark 5 = .ok (.iload_n 1, 1) := by decide +kernel
theorem dX2_takesMark_6 : decode cX2_takesMark 6 = .ok (.iload_n 2, 1) := by decide +kernel
theorem dX2_takesMark_7 : decode cX2_takesMark 7 = .ok (.if_icmp .ne 7, 3) := by decide +kernel
theorem dX2_takesMark_10 : decode cX2_takesMark 10 = .ok (.iconst 1, 1) := by decide +kernel
theorem dX2_takesMark_11 : decode cX2_takesMark 11 = .ok (.goto 4, 3) := by decide +kernel
theorem dX2_takesMark_14 : decode cX2_takesMark 14 = .ok (.iconst 0, 1) := by decide +kernel
theorem dX2_takesMark_15 : decode cX2_takesMark 15 = .ok (.ireturn, 1) := by decide +kernel
theorem dX2_takesFirst_0 : decode cX2_takesFirst 0 = .ok (.aload_n 0, 1) := by decide +kernel
theorem dX2_takesFirst_1 : decode cX2_takesFirst 1 = .ok (.iload_n 1, 1) := by decide +kernel
theorem dX2_takesFirst_2 : decode cX2_takesFirst 2 = .ok (.bipush 48, 2) := by decide +kernel
theorem dX2_takesFirst_4 : decode cX2_takesFirst 4 = .ok (.isub, 1) := by decide +kernel
theorem dX2_takesFirst_5 : decode cX2_takesFirst 5 = .ok (.putfield 21, 3) := by decide +kernel
theorem dX2_takesFirst_8 : decode cX2_takesFirst 8 = .ok (.aload_n 0, 1) := by decide +kernel
theorem dX2_takesFirst_9 : decode cX2_takesFirst 9 = .ok (.iconst 4, 1) := by decide +kernel
theorem dX2_takesFirst_10 : decode cX2_takesFirst 10 = .ok (.putfield 11, 3) := by decide +kernel
theorem dX2_takesFirst_13 : decode cX2_takesFirst 13 = .ok (.aload_n 0, 1) := by decide +kernel
theorem dX2_takesFirst_14 : decode cX2_takesFirst 14 = .ok (.getfield 15, 3) := by decide +kernel
theorem dX2_takesFirst_17 : decode cX2_takesFirst 17 = .ok (.bipush 97, 2) := by decide +kernel
theorem dX2_takesFirst_19 : decode cX2_takesFirst 19 = .ok (.if_icmp .ne 7, 3) := by decide +kernel
theorem dX2_takesFirst_22 : decode cX2_takesFirst 22 = .ok (.iconst 1, 1) := by decide +kernel
theorem dX2_takesFirst_23 : decode cX2_takesFirst 23 = .ok (.goto 4, 3) := by decide +kernel
theorem dX2_takesFirst_26 : decode cX2_takesFirst 26 = .ok (.iconst 0, 1) := by decide +kernel
theorem dX2_takesFirst_27 : decode cX2_takesFirst 27 = .ok (.istore_n 2, 1) := by decide +kernel
theorem dX2_takesFirst_28 : decode cX2_takesFirst 28 = .ok (.aload_n 0, 1) := by decide +kernel
theorem dX2_takesFirst_29 : decode cX2_takesFirst 29 = .ok (.getfield 21, 3) := by decide +kernel
theorem dX2_takesFirst_32 : decode cX2_takesFirst 32 = .ok (.iload_n 2, 1) := by decide +kernel
theorem dX2_takesFirst_33 : decode cX2_takesFirst 33 = .ok (.if_icmp .lt 16, 3) := by decide +kernel
theorem dX2_takesFirst_36 : decode cX2_takesFirst 36 = .ok (.aload_n 0, 1) := by decide +kernel
theorem dX2_takesFirst_37 : decode cX2_takesFirst 37 = .ok (.getfield 21, 3) := by decide +kernel
theorem dX2_takesFirst_40 : decode cX2_takesFirst 40 = .ok (.bipush 9, 2) := by decide +kernel
theorem dX2_takesFirst_42 : decode cX2_takesFirst 42 = .ok (.if_icmp .gt 7, 3) := by decide +kernel
theorem dX2_takesFirst_45 : decode cX2_takesFirst 45 = .ok (.iconst 1, 1) := by decide +kernel
theorem dX2_takesFirst_46 : decode cX2_takesFirst 46 = .ok (.goto 4, 3) := by decide +kernel
theorem dX2_takesFirst_49 : decode cX2_takesFirst 49 = .ok (.iconst 0, 1) := by decide +kernel
theorem dX2_takesFirst_50 : decode cX2_takesFirst 50 = .ok (.ireturn, 1) := by decide +kernel
set_option maxRecDepth 20000 in
theorem ggX2_takesMoreOfFirst_X2_takesMark : GoodIn wsX2_takesMoreOfFirst wsX2_takesMark := goodIn_r _ [7, 8, 12, 13, 14, 15, 16] (by decide +kernel) (by decide +kernel)
set_option maxRecDepth 20000 in
theorem gX2_takesMoreOfFirst_X2_takesMark : GoodIn wsX2_takesMoreOfFirst (wsV RX2 38 RX2 yX2_takesMark wsX2_takesMark) := goodIn_app (goodIn_of _ (by decide +kernel)) ggX2_takesMoreOfFirst_X2_takesMark
set_option maxRecDepth 20000 in
theorem ggX2_takesMoreOfFirst_X2_isMore : GoodIn wsX2_takesMoreOfFirst wsX2_isMore := goodIn_r _ [11] (by decide +kernel) (by decide +kernel)
set_option maxRecDepth 20000 in
theorem gX2_takesMoreOfFirst_X2_isMore : GoodIn wsX2_takesMoreOfFirst (va_wsS RX2 54 yX2_isMore wsX2_isMore) := goodIn_app (goodIn_of _ (by decide +kernel)) ggX2_takesMoreOfFirst_X2_isMore
theorem dX2_takesMoreOfFirst_0 : decode cX2_takesMoreOfFirst 0 = .ok (.aload_n 0, 1) := by decide +kernel
theorem dX2_takesMoreOfFirst_1 : decode cX2_takesMoreOfFirst 1 = .ok (.getfield 15, 3) := by decide +kernel
theorem dX2_takesMoreOfFirst_4 : decode cX2_takesMoreOfFirst 4 = .ok (.bipush 97, 2) := by decide +kernel
theorem dX2_takesMoreOfFirst_6 : decode cX2_takesMoreOfFirst 6 = .ok (.if_icmp .ne 18, 3) := by decide +kernel
theorem dX2_takesMoreOfFirst_9 : decode cX2_takesMoreOfFirst 9 = .ok (.iload_n 1, 1) := by decide +kernel
theorem dX2_takesMoreOfFirst_10 : decode cX2_takesMoreOfFirst 10 = .ok (.bipush 61, 2) := by decide +kernel
theorem dX2_takesMoreOfFirst_12 : decode cX2_takesMoreOfFirst 12 = .ok (.if_icmp .ne 12, 3) := by decide +kernel
theorem dX2_takesMoreOfFirst_15 : decode cX2_takesMoreOfFirst 15 = .ok (.aload_n 0, 1) := by decide +kernel
theorem dX2_takesMoreOfFirst_16 : decode cX2_takesMoreOfFirst 16 = .ok (.iload_n 1, 1) := by decide +kernel
theorem dX2_takesMoreOfFirst_17 : decode cX2_takesMoreOfFirst 17 = .ok (.bipush 61, 2) := by decide +kernel
theorem dX2_takesMoreOfFirst_19 : decode cX2_takesMoreOfFirst 19 = .ok (.iconst 5, 1) := by decide +kernel
theorem dX2_takesMoreOfFirst_20 : decode cX2_takesMoreOfFirst 20 = .ok (.invokevirtual 38, 3) := by decide +kernel
theorem dX2_takesMoreOfFirst_23 : decode cX2_takesMoreOfFirst 23 = .ok (.ireturn, 1) := by decide +kernel
theorem dX2_takesMoreOfFirst_24 : decode cX2_takesMoreOfFirst 24 = .ok (.aload_n 0, 1) := by decide +kernel
theorem dX2_takesMoreOfFirst_25 : decode cX2_takesMoreOfFirst 25 = .ok (.getfield 21, 3) := by decide +kernel
theorem dX2_takesMoreOfFirst_28 : decode cX2_takesMoreOfFirst 28 = .ok (.iload_n 1, 1) := by decide +kernel
theorem dX2_takesMoreOfFirst_29 : decode cX2_takesMoreOfFirst 29 = .ok (.bipush 64, 2) := by decide +kernel
theorem dX2_takesMoreOfFirst_31 : decode cX2_takesMoreOfFirst 31 = .ok (.invokestatic 54, 3) := by decide +kernel
theorem dX2_takesMoreOfFirst_34 : decode cX2_takesMoreOfFirst 34 = .ok (.istore_n 2, 1) := by decide +kernel
theorem dX2_takesMoreOfFirst_35 : decode cX2_takesMoreOfFirst 35 = .ok (.aload_n 0, 1) := by decide +kernel
theorem dX2_takesMoreOfFirst_36 : decode cX2_takesMoreOfFirst 36 = .ok (.bipush 10, 2) := by decide +kernel
theorem dX2_takesMoreOfFirst_38 : decode cX2_takesMoreOfFirst 38 = .ok (.aload_n 0, 1) := by decide +kernel
theorem dX2_takesMoreOfFirst_39 : decode cX2_takesMoreOfFirst 39 = .ok (.getfield 21, 3) := by decide +kernel
theorem dX2_takesMoreOfFirst_42 : decode cX2_takesMoreOfFirst 42 = .ok (.imul, 1) := by decide +kernel
theorem dX2_takesMoreOfFirst_43 : decode cX2_takesMoreOfFirst 43 = .ok (.iload_n 1, 1) := by decide +kernel
theorem dX2_takesMoreOfFirst_44 : decode cX2_takesMoreOfFirst 44 = .ok (.iadd, 1) := by decide +kernel
theorem dX2_takesMoreOfFirst_45 : decode cX2_takesMoreOfFirst 45 = .ok (.bipush 48, 2) := by decide +kernel
theorem dX2_takesMoreOfFirst_47 : decode cX2_takesMoreOfFirst 47 = .ok (.isub, 1) := by decide +kernel
theorem dX2_takesMoreOfFirst_48 : decode cX2_takesMoreOfFirst 48 = .ok (.putfield 21, 3) := by decide +kernel
theorem dX2_takesMoreOfFirst_51 : decode cX2_takesMoreOfFirst 51 = .ok (.iload_n 2, 1) := by decide +kernel
theorem dX2_takesMoreOfFirst_52 : decode cX2_takesMoreOfFirst 52 = .ok (.ireturn, 1) := by decide +kernel
theorem dX2_takesSecond_0 : decode cX2_takesSecond 0 = .ok (.aload_n 0, 1) := by decide +kernel
theorem dX2_takesSecond_1 : decode cX2_takesSecond 1 = .ok (.iload_n 1, 1) := by decide +kernel
theorem dX2_takesSecond_2 : decode cX2_takesSecond 2 = .ok (.bipush 48, 2) := by decide +kernel
theorem dX2_takesSecond_4 : decode cX2_takesSecond 4 = .ok (.isub, 1) := by decide +kernel
theorem dX2_takesSecond_5 : decode cX2_takesSecond 5 = .ok (.putfield 24, 3) := by decide +kernel
theorem dX2_takesSecond_8 : decode cX2_takesSecond 8 = .ok (.aload_n 0, 1) := by decide +kernel
theorem dX2_takesSecond_9 : decode cX2_takesSecond 9 = .ok (.bipush 6, 2) := by decide +kernel
theorem dX2_takesSecond_11 : decode cX2_takesSecond 11 = .ok (.putfield 11, 3) := by decide +kernel
theorem dX2_takesSecond_14 : decode cX2_takesSecond 14 = .ok (.aload_n 0, 1) := by decide +kernel
theorem dX2_takesSecond_15 : decode cX2_takesSecond 15 = .ok (.getfield 24, 3) := by decide +kernel
theorem dX2_takesSecond_18 : decode cX2_takesSecond 18 = .ok (.ifCond .lt 16, 3) := by decide +kernel
theorem dX2_takesSecond_21 : decode cX2_takesSecond 21 = .ok (.aload_n 0, 1) := by decide +kernel
theorem dX2_takesSecond_22 : decode cX2_takesSecond 22 = .ok (.getfield 24, 3) := by decide +kernel
theorem dX2_takesSecond_25 : decode cX2_takesSecond 25 = .ok (.bipush 9, 2) := by decide +kernel
theorem dX2_takesSecond_27 : decode cX2_takesSecond 27 = .ok (.if_icmp .gt 7, 3) := by decide +kernel
theorem dX2_takesSecond_30 : decode cX2_takesSecond 30 = .ok (.iconst 1, 1) := by decide +kernel
theorem dX2_takesSecond_31 : decode cX2_takesSecond 31 = .ok (.goto 4, 3) := by decide +kernel
theorem dX2_takesSecond_34 : decode cX2_takesSecond 34 = .ok (.iconst 0, 1) := by decide +kernel
theorem dX2_takesSecond_35 : decode cX2_takesSecond 35 = .ok (.ireturn, 1) := by decide +kernel
set_option maxRecDepth 20000 in
theorem ggX2_takesMoreOfSecond_X2_isMore : GoodIn wsX2_takesMoreOfSecond wsX2_isMore := goodIn_r _ [5] (by decide +kernel) (by decide +kernel)
set_option maxRecDepth 20000 in
theorem gX2_takesMoreOfSecond_X2_isMore : GoodIn wsX2_takesMoreOfSecond (va_wsS RX2 54 yX2_isMore wsX2_isMore) := goodIn_app (goodIn_of _ (by decide +kernel)) ggX2_takesMoreOfSecond_X2_isMore
theorem dX2_takesMoreOfSecond_0 : decode cX2_takesMoreOfSecond 0 = .ok (.aload_n 0, 1) := by decide +kernel
theorem dX2_takesMoreOfSecond_1 : decode cX2_takesMoreOfSecond 1 = .ok (.getfield 24, 3) := by decide +kernel
theorem dX2_takesMoreOfSecond_4 : decode cX2_takesMoreOfSecond 4 = .ok (.iload_n 1, 1) := by decide +kernel
theorem dX2_takesMoreOfSecond_5 : decode cX2_takesMoreOfSecond 5 = .ok (.bipush 99, 2) := by decide +kernel
theorem dX2_takesMoreOfSecond_7 : decode cX2_takesMoreOfSecond 7 = .ok (.invokestatic 54, 3) := by decide +kernel
theorem dX2_takesMoreOfSecond_10 : decode cX2_takesMoreOfSecond 10 = .ok (.istore_n 2, 1) := by decide +kernel
theorem dX2_takesMoreOfSecond_11 : decode cX2_takesMoreOfSecond 11 = .ok (.aload_n 0, 1) := by decide +kernel
theorem dX2_takesMoreOfSecond_12 : decode cX2_takesMoreOfSecond 12 = .ok (.bipush 10, 2) := by decide +kernel
theorem dX2_takesMoreOfSecond_14 : decode cX2_takesMoreOfSecond 14 = .ok (.aload_n 0, 1) := by decide +kernel
theorem dX2_takesMoreOfSecond_15 : decode cX2_takesMoreOfSecond 15 = .ok (.getfield 24, 3) := by decide +kernel
theorem dX2_takesMoreOfSecond_18 : decode cX2_takesMoreOfSecond 18 = .ok (.imul, 1) := by decide +kernel
theorem dX2_takesMoreOfSecond_19 : decode cX2_takesMoreOfSecond 19 = .ok (.iload_n 1, 1) := by decide +kernel
theorem dX2_takesMoreOfSecond_20 : decode cX2_takesMoreOfSecond 20 = .ok (.iadd, 1) := by decide +kernel
theorem dX2_takesMoreOfSecond_21 : decode cX2_takesMoreOfSecond 21 = .ok (.bipush 48, 2) := by decide +kernel
theorem dX2_takesMoreOfSecond_23 : decode cX2_takesMoreOfSecond 23 = .ok (.isub, 1) := by decide +kernel
theorem dX2_takesMoreOfSecond_24 : decode cX2_takesMoreOfSecond 24 = .ok (.putfield 24, 3) := by decide +kernel
theorem dX2_takesMoreOfSecond_27 : decode cX2_takesMoreOfSecond 27 = .ok (.iload_n 2, 1) := by decide +kernel
theorem dX2_takesMoreOfSecond_28 : decode cX2_takesMoreOfSecond 28 = .ok (.ireturn, 1) := by decide +kernel
theorem dX2_isMore_0 : decode cX2_isMore 0 = .ok (.iload_n 1, 1) := by decide +kernel
theorem dX2_isMore_1 : decode cX2_isMore 1 = .ok (.bipush 48, 2) := by decide +kernel
theorem dX2_isMore_3 : decode cX2_isMore 3 = .ok (.isub, 1) := by decide +kernel
theorem dX2_isMore_4 : decode cX2_isMore 4 = .ok (.istore_n 3, 1) := by decide +kernel
theorem dX2_isMore_5 : decode cX2_isMore 5 = .ok (.iload_n 3, 1) := by decide +kernel
theorem dX2_isMore_6 : decode cX2_isMore 6 = .ok (.ifCond .lt 27, 3) := by decide +kernel
theorem dX2_isMore_9 : decode cX2_isMore 9 = .ok (.iload_n 3, 1) := by decide +kernel
theorem dX2_isMore_10 : decode cX2_isMore 10 = .ok (.bipush 9, 2) := by decide +kernel
theorem dX2_isMore_12 : decode cX2_isMore 12 = .ok (.if_icmp .gt 21, 3) := by decide +kernel
theorem dX2_isMore_15 : decode cX2_isMore 15 = .ok (.iload_n 0, 1) := by decide +kernel
theorem dX2_isMore_16 : decode cX2_isMore 16 = .ok (.ifCond .le 17, 3) := by decide +kernel
theorem dX2_isMore_19 : decode cX2_isMore 19 = .ok (.bipush 10, 2) := by decide +kernel
theorem dX2_isMore_21 : decode cX2_isMore 21 = .ok (.iload_n 0, 1) := by decide +kernel
theorem dX2_isMore_22 : decode cX2_isMore 22 = .ok (.imul, 1) := by decide +kernel
theorem dX2_isMore_23 : decode cX2_isMore 23 = .ok (.iload_n 3, 1) := by decide +kernel
theorem dX2_isMore_24 : decode cX2_isMore 24 = .ok (.iadd, 1) := by decide +kernel
theorem dX2_isMore_25 : decode cX2_isMore 25 = .ok (.iload_n 2, 1) := by decide +kernel
theorem dX2_isMore_26 : decode cX2_isMore 26 = .ok (.if_icmp .gt 7, 3) := by decide +kernel
theorem dX2_isMore_29 : decode cX2_isMore 29 = .ok (.iconst 1, 1) := by decide +kernel
theorem dX2_isMore_30 : decode cX2_isMore 30 = .ok (.goto 4, 3) := by decide +kernel
theorem dX2_isMore_33 : decode cX2_isMore 33 = .ok (.iconst 0, 1) := by decide +kernel
theorem dX2_isMore_34 : decode cX2_isMore 34 = .ok (.ireturn, 1) := by decide +kernel
theorem ok_X2_letter : gOk yX2_letter RX2 0 := by refine ⟨?_, ?_, ?_, ?_⟩ <;> decide +kernel
theorem ok_X2_fileNumber : gOk yX2_fileNumber RX2 0 := by refine ⟨?_, ?_, ?_, ?_⟩ <;> decide +kernel
theorem ok_X2_firstNumber : gOk yX2_firstNumber RX2 0 := by refine ⟨?_, ?_, ?_, ?_⟩ <;> decide +kernel
theorem ok_X2_secondNumber : gOk yX2_secondNumber RX2 0 := by refine ⟨?_, ?_, ?_, ?_⟩ <;> decide +kernel
theorem ok_X2_begin : gOk yX2_begin RX2 0 := by refine ⟨?_, ?_, ?_, ?_⟩ <;> decide +kernel
theorem ok_X2_isWhole : gOk yX2_isWhole RX2 0 := by refine ⟨?_, ?_, ?_, ?_⟩ <;> decide +kernel
theorem ok_X2_takesLetter : gOk yX2_takesLetter RX2 1 := by refine ⟨?_, ?_, ?_, ?_⟩ <;> decide +kernel
theorem ok_X2_takesFile : gOk yX2_takesFile RX2 1 := by refine ⟨?_, ?_, ?_, ?_⟩ <;> decide +kernel
theorem ok_X2_takesMark : gOk yX2_takesMark RX2 3 := by refine ⟨?_, ?_, ?_, ?_⟩ <;> decide +kernel
theorem ok_X2_takesFirst : gOk yX2_takesFirst RX2 1 := by refine ⟨?_, ?_, ?_, ?_⟩ <;> decide +kernel
theorem ok_X2_isMore : gOk yX2_isMore RX2 3 := by refine ⟨?_, ?_, ?_, ?_⟩ <;> decide +kernel
theorem ok_X2_takesMoreOfFirst : gOk yX2_takesMoreOfFirst RX2 1 := by refine ⟨?_, ?_, ?_, ?_⟩ <;> decide +kernel
theorem ok_X2_takesSecond : gOk yX2_takesSecond RX2 1 := by refine ⟨?_, ?_, ?_, ?_⟩ <;> decide +kernel
theorem ok_X2_takesMoreOfSecond : gOk yX2_takesMoreOfSecond RX2 1 := by refine ⟨?_, ?_, ?_, ?_⟩ <;> decide +kernel
theorem ok_X2_takes : gOk yX2_takes RX2 1 := by refine ⟨?_, ?_, ?_, ?_⟩ <;> decide +kernel
abbrev rm_X2_letter : Room := ({ frames := 0, cells := 0, slots := 0, locals := 0 } : Room)
def f_X2_letter (g : Nat → Int32) : Option Int32 := some (g 1)
set_option maxRecDepth 20000 in
theorem in_X2_letter : ∀ w ∈ wsX20, w ∈ wsX2_letter := by decide +kernel
set_option maxRecDepth 20000 in
theorem fl_X2_letter_15 : Cond.fieldLink RX2 15 (TX2 1).1 (TX2 1).2.1 (TX2 1).2.2.1 ∈ wsX2_letter := by decide +kernel
set_option maxHeartbeats 4000000 in
set_option maxRecDepth 100000 in
theorem cn_X2_letter (l : Launch) (Z : gZ) (ad : Nat → Nat) (hI : gInj 1 ad) (g : Nat → Int32) {r : Int32} (h : f_X2_letter g = some r) : gI l yX2_letter wsX2_letter rm_X2_letter Z 1 ad [.ref (ad 0)] (ordE g) r (ordE g) := by
  refine g_entryI (cc := cX2_letter) (maxL := 1) (by decide +kernel) rfl hI (Nat.le_of_ble_eq_true rfl) (fun X C e => ?_)
  unfold f_X2_letter at h
  show GG X Z 1 1 ad (ordE g) 0 [(0, .ref (ad 0))] []
  refine g_aload_n C dX2_letter_0 0 rfl ?_
  refine g_getf (v := .int (g 1)) C 0 (by decide) rfl rfl in_X2_letter 1 (by decide) fl_X2_letter_15 rfl dX2_letter_1 ?_
  cases h
  exact g_iret C e dX2_letter_4
abbrev rm_X2_fileNumber : Room := ({ frames := 0, cells := 0, slots := 0, locals := 0 } : Room)
def f_X2_fileNumber (g : Nat → Int32) : Option Int32 := some (g 2)
set_option maxRecDepth 20000 in
theorem in_X2_fileNumber : ∀ w ∈ wsX20, w ∈ wsX2_fileNumber := by decide +kernel
set_option maxRecDepth 20000 in
theorem fl_X2_fileNumber_18 : Cond.fieldLink RX2 18 (TX2 2).1 (TX2 2).2.1 (TX2 2).2.2.1 ∈ wsX2_fileNumber := by decide +kernel
set_option maxHeartbeats 4000000 in
set_option maxRecDepth 100000 in
theorem cn_X2_fileNumber (l : Launch) (Z : gZ) (ad : Nat → Nat) (hI : gInj 1 ad) (g : Nat → Int32) {r : Int32} (h : f_X2_fileNumber g = some r) : gI l yX2_fileNumber wsX2_fileNumber rm_X2_fileNumber Z 1 ad [.ref (ad 0)] (ordE g) r (ordE g) := by
  refine g_entryI (cc := cX2_fileNumber) (maxL := 1) (by decide +kernel) rfl hI (Nat.le_of_ble_eq_true rfl) (fun X C e => ?_)
  unfold f_X2_fileNumber at h
  show GG X Z 1 1 ad (ordE g) 0 [(0, .ref (ad 0))] []
  refine g_aload_n C dX2_fileNumber_0 0 rfl ?_
  refine g_getf (v := .int (g 2)) C 0 (by decide) rfl rfl in_X2_fileNumber 2 (by decide) fl_X2_fileNumber_18 rfl dX2_fileNumber_1 ?_
  cases h
  exact g_iret C e dX2_fileNumber_4
abbrev rm_X2_firstNumber : Room := ({ frames := 0, cells := 0, slots := 0, locals := 0 } : Room)
def f_X2_firstNumber (g : Nat → Int32) : Option Int32 := some (g 3)
set_option maxRecDepth 20000 in
theorem in_X2_firstNumber : ∀ w ∈ wsX20, w ∈ wsX2_firstNumber := by decide +kernel
set_option maxRecDepth 20000 in
theorem fl_X2_firstNumber_21 : Cond.fieldLink RX2 21 (TX2 3).1 (TX2 3).2.1 (TX2 3).2.2.1 ∈ wsX2_firstNumber := by decide +kernel
set_option maxHeartbeats 4000000 in
set_option maxRecDepth 100000 in
theorem cn_X2_firstNumber (l : Launch) (Z : gZ) (ad : Nat → Nat) (hI : gInj 1 ad) (g : Nat → Int32) {r : Int32} (h : f_X2_firstNumber g = some r) : gI l yX2_firstNumber wsX2_firstNumber rm_X2_firstNumber Z 1 ad [.ref (ad 0)] (ordE g) r (ordE g) := by
  refine g_entryI (cc := cX2_firstNumber) (maxL := 1) (by decide +kernel) rfl hI (Nat.le_of_ble_eq_true rfl) (fun X C e => ?_)
  unfold f_X2_firstNumber at h
  show GG X Z 1 1 ad (ordE g) 0 [(0, .ref (ad 0))] []
  refine g_aload_n C dX2_firstNumber_0 0 rfl ?_
  refine g_getf (v := .int (g 3)) C 0 (by decide) rfl rfl in_X2_firstNumber 3 (by decide) fl_X2_firstNumber_21 rfl dX2_firstNumber_1 ?_
  cases h
  exact g_iret C e dX2_firstNumber_4
abbrev rm_X2_secondNumber : Room := ({ frames := 0, cells := 0, slots := 0, locals := 0 } : Room)
def f_X2_secondNumber (g : Nat → Int32) : Option Int32 := some (g 4)
set_option maxRecDepth 20000 in
theorem in_X2_secondNumber : ∀ w ∈ wsX20, w ∈ wsX2_secondNumber := by decide +kernel
set_option maxRecDepth 20000 in
theorem fl_X2_secondNumber_24 : Cond.fieldLink RX2 24 (TX2 4).1 (TX2 4).2.1 (TX2 4).2.2.1 ∈ wsX2_secondNumber := by decide +kernel
set_option maxHeartbeats 4000000 in
set_option maxRecDepth 100000 in
theorem cn_X2_secondNumber (l : Launch) (Z : gZ) (ad : Nat → Nat) (hI : gInj 1 ad) (g : Nat → Int32) {r : Int32} (h : f_X2_secondNumber g = some r) : gI l yX2_secondNumber wsX2_secondNumber rm_X2_secondNumber Z 1 ad [.ref (ad 0)] (ordE g) r (ordE g) := by
  refine g_entryI (cc := cX2_secondNumber) (maxL := 1) (by decide +kernel) rfl hI (Nat.le_of_ble_eq_true rfl) (fun X C e => ?_)
  unfold f_X2_secondNumber at h
  show GG X Z 1 1 ad (ordE g) 0 [(0, .ref (ad 0))] []
  refine g_aload_n C dX2_secondNumber_0 0 rfl ?_
  refine g_getf (v := .int (g 4)) C 0 (by decide) rfl rfl in_X2_secondNumber 4 (by decide) fl_X2_secondNumber_24 rfl dX2_secondNumber_1 ?_
  cases h
  exact g_iret C e dX2_secondNumber_4
abbrev rm_X2_begin : Room := ({ frames := 0, cells := 0, slots := 0, locals := 0 } : Room)
def f_X2_begin (g : Nat → Int32) : Option ((Nat → Int32)) := glet (upd g 0 0) (fun g1 => some g1)
set_option maxRecDepth 20000 in
theorem in_X2_begin : ∀ w ∈ wsX20, w ∈ wsX2_begin := by decide +kernel
set_option maxRecDepth 20000 in
theorem fl_X2_begin_11 : Cond.fieldLink RX2 11 (TX2 0).1 (TX2 0).2.1 (TX2 0).2.2.1 ∈ wsX2_begin := by decide +kernel
set_option maxHeartbeats 4000000 in
set_option maxRecDepth 100000 in
theorem cn_X2_begin (l : Launch) (Z : gZ) (ad : Nat → Nat) (hI : gInj 1 ad) (g : Nat → Int32) {g' : Nat → Int32} (h : f_X2_begin g = some g') : gV l yX2_begin wsX2_begin rm_X2_begin Z 1 ad [.ref (ad 0)] (ordE g) (ordE g') := by
  refine g_entryV (cc := cX2_begin) (maxL := 1) (by decide +kernel) rfl hI (Nat.le_of_ble_eq_true rfl) (fun X C e => ?_)
  unfold f_X2_begin at h
  show GG X Z 1 1 ad (ordE g) 0 [(0, .ref (ad 0))] []
  refine g_aload_n C dX2_begin_0 0 rfl ?_
  refine g_iconst (v := 0) C dX2_begin_1 (by decide) ?_
  obtain ⟨g1, eg1, h⟩ := gl h
  refine g_putf C 0 (by decide) rfl rfl in_X2_begin tyX2 tyX2_ok nmX2 0 (by decide) fl_X2_begin_11 rfl rfl rfl (Nat.le_of_ble_eq_true rfl) dX2_begin_2 (ordE g1) (by rw [eg1]; exact ordE_g0) ?_
  cases h
  exact g_vret C e dX2_begin_5
abbrev rm_X2_isWhole : Room := ({ frames := 0, cells := 0, slots := 0, locals := 0 } : Room)
def f_X2_isWhole (g : Nat → Int32) : Option Int32 := if (g 0) = 7 then some 1 else if (g 0) = 6 then some 1 else if (g 0) = 4 then if (g 1) = 116 then some 1 else some 0 else some 0
set_option maxRecDepth 20000 in
theorem in_X2_isWhole : ∀ w ∈ wsX20, w ∈ wsX2_isWhole := by decide +kernel
set_option maxRecDepth 20000 in
theorem fl_X2_isWhole_15 : Cond.fieldLink RX2 15 (TX2 1).1 (TX2 1).2.1 (TX2 1).2.2.1 ∈ wsX2_isWhole := by decide +kernel
set_option maxRecDepth 20000 in
theorem fl_X2_isWhole_11 : Cond.fieldLink RX2 11 (TX2 0).1 (TX2 0).2.1 (TX2 0).2.2.1 ∈ wsX2_isWhole := by decide +kernel
set_option maxHeartbeats 4000000 in
set_option maxRecDepth 100000 in
theorem cn_X2_isWhole (l : Launch) (Z : gZ) (ad : Nat → Nat) (hI : gInj 1 ad) (g : Nat → Int32) {r : Int32} (h : f_X2_isWhole g = some r) : gI l yX2_isWhole wsX2_isWhole rm_X2_isWhole Z 1 ad [.ref (ad 0)] (ordE g) r (ordE g) := by
  refine g_entryI (cc := cX2_isWhole) (maxL := 1) (by decide +kernel) rfl hI (Nat.le_of_ble_eq_true rfl) (fun X C e => ?_)
  unfold f_X2_isWhole at h
  show GG X Z 1 1 ad (ordE g) 0 [(0, .ref (ad 0))] []
  refine g_aload_n C dX2_isWhole_0 0 rfl ?_
  refine g_getf (v := .int (g 0)) C 0 (by decide) rfl rfl in_X2_isWhole 0 (by decide) fl_X2_isWhole_11 rfl dX2_isWhole_1 ?_
  refine g_bipush (v := 7) C dX2_isWhole_4 (by decide) ?_
  refine g_icmp_eq (tgt := 35) C dX2_isWhole_6 (by decide) (fun c1 => ?_) (fun c1 => ?_)
  · replace h := gi_pos c1 h
    refine g_iconst (v := 1) C dX2_isWhole_35 (by decide) ?_
    refine g_goto (tgt := 40) C dX2_isWhole_36 (by decide) ?_
    cases h
    exact g_zret C e rfl dX2_isWhole_40
  · replace h := gi_neg c1 h
    refine g_aload_n C dX2_isWhole_9 0 rfl ?_
    refine g_getf (v := .int (g 0)) C 0 (by decide) rfl rfl in_X2_isWhole 0 (by decide) fl_X2_isWhole_11 rfl dX2_isWhole_10 ?_
    refine g_bipush (v := 6) C dX2_isWhole_13 (by decide) ?_
    refine g_icmp_eq (tgt := 35) C dX2_isWhole_15 (by decide) (fun c2 => ?_) (fun c2 => ?_)
    · replace h := gi_pos c2 h
      refine g_iconst (v := 1) C dX2_isWhole_35 (by decide) ?_
      refine g_goto (tgt := 40) C dX2_isWhole_36 (by decide) ?_
      cases h
      exact g_zret C e rfl dX2_isWhole_40
    · replace h := gi_neg c2 h
      refine g_aload_n C dX2_isWhole_18 0 rfl ?_
      refine g_getf (v := .int (g 0)) C 0 (by decide) rfl rfl in_X2_isWhole 0 (by decide) fl_X2_isWhole_11 rfl dX2_isWhole_19 ?_
      refine g_iconst (v := 4) C dX2_isWhole_22 (by decide) ?_
      refine g_icmp_ne (tgt := 39) C dX2_isWhole_23 (by decide) (fun c3 => ?_) (fun c3 => ?_)
      · replace h := gi_neg c3 h
        refine g_iconst (v := 0) C dX2_isWhole_39 (by decide) ?_
        cases h
        exact g_zret C e rfl dX2_isWhole_40
      · replace h := gi_pos c3 h
        refine g_aload_n C dX2_isWhole_26 0 rfl ?_
        refine g_getf (v := .int (g 1)) C 0 (by decide) rfl rfl in_X2_isWhole 1 (by decide) fl_X2_isWhole_15 rfl dX2_isWhole_27 ?_
        refine g_bipush (v := 116) C dX2_isWhole_30 (by decide) ?_
        refine g_icmp_ne (tgt := 39) C dX2_isWhole_32 (by decide) (fun c4 => ?_) (fun c4 => ?_)
        · replace h := gi_neg c4 h
          refine g_iconst (v := 0) C dX2_isWhole_39 (by decide) ?_
          cases h
          exact g_zret C e rfl dX2_isWhole_40
        · replace h := gi_pos c4 h
          refine g_iconst (v := 1) C dX2_isWhole_35 (by decide) ?_
          refine g_goto (tgt := 40) C dX2_isWhole_36 (by decide) ?_
          cases h
          exact g_zret C e rfl dX2_isWhole_40
abbrev rm_X2_takesLetter : Room := ({ frames := 0, cells := 0, slots := 0, locals := 0 } : Room)
def f_X2_takesLetter (g : Nat → Int32) (v1 : Int32) : Option (Int32 × (Nat → Int32)) := glet (upd g 1 v1) (fun g1 => if v1 = 33 then glet (upd g1 0 7) (fun g3 => some (1, g3)) else if v1 = 97 then glet (upd g1 0 1) (fun g5 => some (1, g5)) else if v1 = 100 then glet (upd g1 0 1) (fun g7 => some (1, g7)) else if v1 = 109 then glet (upd g1 0 7) (fun g9 => some (1, g9)) else if v1 = 110 then glet (upd g1 0 7) (fun g11 => some (1, g11)) else if v1 = 111 then glet (upd g1 0 1) (fun g13 => some (1, g13)) else if v1 = 115 then glet (upd g1 0 1) (fun g15 => some (1, g15)) else if v1 = 116 then glet (upd g1 0 1) (fun g17 => some (1, g17)) else if v1 = 120 then glet (upd g1 0 1) (fun g19 => some (1, g19)) else some (0, g1))
set_option maxRecDepth 20000 in
theorem in_X2_takesLetter : ∀ w ∈ wsX20, w ∈ wsX2_takesLetter := by decide +kernel
set_option maxRecDepth 20000 in
theorem fl_X2_takesLetter_11 : Cond.fieldLink RX2 11 (TX2 0).1 (TX2 0).2.1 (TX2 0).2.2.1 ∈ wsX2_takesLetter := by decide +kernel
set_option maxRecDepth 20000 in
theorem fl_X2_takesLetter_15 : Cond.fieldLink RX2 15 (TX2 1).1 (TX2 1).2.1 (TX2 1).2.2.1 ∈ wsX2_takesLetter := by decide +kernel
set_option maxHeartbeats 4000000 in
set_option maxRecDepth 100000 in
theorem cn_X2_takesLetter (l : Launch) (Z : gZ) (ad : Nat → Nat) (hI : gInj 1 ad) (g : Nat → Int32) (v1 : Int32) {r : Int32} {g' : Nat → Int32} (h : f_X2_takesLetter g v1 = some (r, g')) : gI l yX2_takesLetter wsX2_takesLetter rm_X2_takesLetter Z 1 ad [.ref (ad 0), .int v1] (ordE g) r (ordE g') := by
  refine g_entryI (cc := cX2_takesLetter) (maxL := 2) (by decide +kernel) rfl hI (Nat.le_of_ble_eq_true rfl) (fun X C e => ?_)
  unfold f_X2_takesLetter at h
  show GG X Z 2 1 ad (ordE g) 0 [(0, .ref (ad 0)), (1, .int v1)] []
  refine g_aload_n C dX2_takesLetter_0 0 rfl ?_
  refine g_iload_n C dX2_takesLetter_1 1 rfl ?_
  obtain ⟨g1, eg1, h⟩ := gl h
  refine g_putf C 0 (by decide) rfl rfl in_X2_takesLetter tyX2 tyX2_ok nmX2 1 (by decide) fl_X2_takesLetter_15 rfl rfl rfl (Nat.le_of_ble_eq_true rfl) dX2_takesLetter_2 (ordE g1) (by rw [eg1]; exact ordE_g1) ?_
  refine g_iload_n C dX2_takesLetter_5 1 rfl ?_
  by_cases c2 : v1 = 33
  · replace h := gi_pos c2 h
    refine g_lookup (tgt := 88) (off := 82) C dX2_takesLetter_6 (by decide) (by rw [c2] <;> decide) (by decide) ?_
    refine g_aload_n C dX2_takesLetter_88 0 rfl ?_
    refine g_bipush (v := 7) C dX2_takesLetter_89 (by decide) ?_
    obtain ⟨g3, eg3, h⟩ := gl h
    refine g_putf C 0 (by decide) rfl rfl in_X2_takesLetter tyX2 tyX2_ok nmX2 0 (by decide) fl_X2_takesLetter_11 rfl rfl rfl (Nat.le_of_ble_eq_true rfl) dX2_takesLetter_91 (ordE g3) (by rw [eg3]; exact ordE_g0) ?_
    refine g_iconst (v := 1) C dX2_takesLetter_94 (by decide) ?_
    cases h
    exact g_zret C e rfl dX2_takesLetter_95
  · replace h := gi_neg c2 h
    by_cases c4 : v1 = 97
    · replace h := gi_pos c4 h
      refine g_lookup (tgt := 96) (off := 90) C dX2_takesLetter_6 (by decide) (by rw [c4] <;> decide) (by decide) ?_
      refine g_aload_n C dX2_takesLetter_96 0 rfl ?_
      refine g_iconst (v := 1) C dX2_takesLetter_97 (by decide) ?_
      obtain ⟨g5, eg5, h⟩ := gl h
      refine g_putf C 0 (by decide) rfl rfl in_X2_takesLetter tyX2 tyX2_ok nmX2 0 (by decide) fl_X2_takesLetter_11 rfl rfl rfl (Nat.le_of_ble_eq_true rfl) dX2_takesLetter_98 (ordE g5) (by rw [eg5]; exact ordE_g0) ?_
      refine g_iconst (v := 1) C dX2_takesLetter_101 (by decide) ?_
      cases h
      exact g_zret C e rfl dX2_takesLetter_102
    · replace h := gi_neg c4 h
      by_cases c6 : v1 = 100
      · replace h := gi_pos c6 h
        refine g_lookup (tgt := 96) (off := 90) C dX2_takesLetter_6 (by decide) (by rw [c6] <;> decide) (by decide) ?_
        refine g_aload_n C dX2_takesLetter_96 0 rfl ?_
        refine g_iconst (v := 1) C dX2_takesLetter_97 (by decide) ?_
        obtain ⟨g7, eg7, h⟩ := gl h
        refine g_putf C 0 (by decide) rfl rfl in_X2_takesLetter tyX2 tyX2_ok nmX2 0 (by decide) fl_X2_takesLetter_11 rfl rfl rfl (Nat.le_of_ble_eq_true rfl) dX2_takesLetter_98 (ordE g7) (by rw [eg7]; exact ordE_g0) ?_
        refine g_iconst (v := 1) C dX2_takesLetter_101 (by decide) ?_
        cases h
        exact g_zret C e rfl dX2_takesLetter_102
      · replace h := gi_neg c6 h
        by_cases c8 : v1 = 109
        · replace h := gi_pos c8 h
          refine g_lookup (tgt := 88) (off := 82) C dX2_takesLetter_6 (by decide) (by rw [c8] <;> decide) (by decide) ?_
          refine g_aload_n C dX2_takesLetter_88 0 rfl ?_
          refine g_bipush (v := 7) C dX2_takesLetter_89 (by decide) ?_
          obtain ⟨g9, eg9, h⟩ := gl h
          refine g_putf C 0 (by decide) rfl rfl in_X2_takesLetter tyX2 tyX2_ok nmX2 0 (by decide) fl_X2_takesLetter_11 rfl rfl rfl (Nat.le_of_ble_eq_true rfl) dX2_takesLetter_91 (ordE g9) (by rw [eg9]; exact ordE_g0) ?_
          refine g_iconst (v := 1) C dX2_takesLetter_94 (by decide) ?_
          cases h
          exact g_zret C e rfl dX2_takesLetter_95
        · replace h := gi_neg c8 h
          by_cases c10 : v1 = 110
          · replace h := gi_pos c10 h
            refine g_lookup (tgt := 88) (off := 82) C dX2_takesLetter_6 (by decide) (by rw [c10] <;> decide) (by decide) ?_
            refine g_aload_n C dX2_takesLetter_88 0 rfl ?_
            refine g_bipush (v := 7) C dX2_takesLetter_89 (by decide) ?_
            obtain ⟨g11, eg11, h⟩ := gl h
            refine g_putf C 0 (by decide) rfl rfl in_X2_takesLetter tyX2 tyX2_ok nmX2 0 (by decide) fl_X2_takesLetter_11 rfl rfl rfl (Nat.le_of_ble_eq_true rfl) dX2_takesLetter_91 (ordE g11) (by rw [eg11]; exact ordE_g0) ?_
            refine g_iconst (v := 1) C dX2_takesLetter_94 (by decide) ?_
            cases h
            exact g_zret C e rfl dX2_takesLetter_95
          · replace h := gi_neg c10 h
            by_cases c12 : v1 = 111
            · replace h := gi_pos c12 h
              refine g_lookup (tgt := 96) (off := 90) C dX2_takesLetter_6 (by decide) (by rw [c12] <;> decide) (by decide) ?_
              refine g_aload_n C dX2_takesLetter_96 0 rfl ?_
              refine g_iconst (v := 1) C dX2_takesLetter_97 (by decide) ?_
              obtain ⟨g13, eg13, h⟩ := gl h
              refine g_putf C 0 (by decide) rfl rfl in_X2_takesLetter tyX2 tyX2_ok nmX2 0 (by decide) fl_X2_takesLetter_11 rfl rfl rfl (Nat.le_of_ble_eq_true rfl) dX2_takesLetter_98 (ordE g13) (by rw [eg13]; exact ordE_g0) ?_
              refine g_iconst (v := 1) C dX2_takesLetter_101 (by decide) ?_
              cases h
              exact g_zret C e rfl dX2_takesLetter_102
            · replace h := gi_neg c12 h
              by_cases c14 : v1 = 115
              · replace h := gi_pos c14 h
                refine g_lookup (tgt := 96) (off := 90) C dX2_takesLetter_6 (by decide) (by rw [c14] <;> decide) (by decide) ?_
                refine g_aload_n C dX2_takesLetter_96 0 rfl ?_
                refine g_iconst (v := 1) C dX2_takesLetter_97 (by decide) ?_
                obtain ⟨g15, eg15, h⟩ := gl h
                refine g_putf C 0 (by decide) rfl rfl in_X2_takesLetter tyX2 tyX2_ok nmX2 0 (by decide) fl_X2_takesLetter_11 rfl rfl rfl (Nat.le_of_ble_eq_true rfl) dX2_takesLetter_98 (ordE g15) (by rw [eg15]; exact ordE_g0) ?_
                refine g_iconst (v := 1) C dX2_takesLetter_101 (by decide) ?_
                cases h
                exact g_zret C e rfl dX2_takesLetter_102
              · replace h := gi_neg c14 h
                by_cases c16 : v1 = 116
                · replace h := gi_pos c16 h
                  refine g_lookup (tgt := 96) (off := 90) C dX2_takesLetter_6 (by decide) (by rw [c16] <;> decide) (by decide) ?_
                  refine g_aload_n C dX2_takesLetter_96 0 rfl ?_
                  refine g_iconst (v := 1) C dX2_takesLetter_97 (by decide) ?_
                  obtain ⟨g17, eg17, h⟩ := gl h
                  refine g_putf C 0 (by decide) rfl rfl in_X2_takesLetter tyX2 tyX2_ok nmX2 0 (by decide) fl_X2_takesLetter_11 rfl rfl rfl (Nat.le_of_ble_eq_true rfl) dX2_takesLetter_98 (ordE g17) (by rw [eg17]; exact ordE_g0) ?_
                  refine g_iconst (v := 1) C dX2_takesLetter_101 (by decide) ?_
                  cases h
                  exact g_zret C e rfl dX2_takesLetter_102
                · replace h := gi_neg c16 h
                  by_cases c18 : v1 = 120
                  · replace h := gi_pos c18 h
                    refine g_lookup (tgt := 96) (off := 90) C dX2_takesLetter_6 (by decide) (by rw [c18] <;> decide) (by decide) ?_
                    refine g_aload_n C dX2_takesLetter_96 0 rfl ?_
                    refine g_iconst (v := 1) C dX2_takesLetter_97 (by decide) ?_
                    obtain ⟨g19, eg19, h⟩ := gl h
                    refine g_putf C 0 (by decide) rfl rfl in_X2_takesLetter tyX2 tyX2_ok nmX2 0 (by decide) fl_X2_takesLetter_11 rfl rfl rfl (Nat.le_of_ble_eq_true rfl) dX2_takesLetter_98 (ordE g19) (by rw [eg19]; exact ordE_g0) ?_
                    refine g_iconst (v := 1) C dX2_takesLetter_101 (by decide) ?_
                    cases h
                    exact g_zret C e rfl dX2_takesLetter_102
                  · replace h := gi_neg c18 h
                    refine g_lookup (tgt := 103) (off := 97) C dX2_takesLetter_6 (by decide) (by show Op.lookupswitch.offset (List.cons _ _) _ _ = _; rw [lv_osw c2 (by decide), lv_osw c4 (by decide), lv_osw c6 (by decide), lv_osw c8 (by decide), lv_osw c10 (by decide), lv_osw c12 (by decide), lv_osw c14 (by decide), lv_osw c16 (by decide), lv_osw c18 (by decide)] <;> rfl) (by decide) ?_
                    refine g_iconst (v := 0) C dX2_takesLetter_103 (by decide) ?_
                    cases h
                    exact g_zret C e rfl dX2_takesLetter_104
abbrev rm_X2_takesFile : Room := ({ frames := 0, cells := 0, slots := 0, locals := 0 } : Room)
def f_X2_takesFile (g : Nat → Int32) (v1 : Int32) : Option (Int32 × (Nat → Int32)) := glet (upd g 2 (v1 - 48)) (fun g1 => if (g1 1) = 97 then glet (upd g1 0 2) (fun g3 => if (g3 2) < 0 then some (0, g3) else if 8 ≤ (g3 2) then some (0, g3) else some (1, g3)) else if (g1 1) = 116 then glet (upd g1 0 2) (fun g10 => if (g10 2) < 0 then some (0, g10) else if 8 ≤ (g10 2) then some (0, g10) else some (1, g10)) else glet (upd g1 0 7) (fun g7 => if (g7 2) < 0 then some (0, g7) else if 8 ≤ (g7 2) then some (0, g7) else some (1, g7)))
set_option maxRecDepth 20000 in
theorem in_X2_takesFile : ∀ w ∈ wsX20, w ∈ wsX2_takesFile := by decide +kernel
set_option maxRecDepth 20000 in
theorem fl_X2_takesFile_18 : Cond.fieldLink RX2 18 (TX2 2).1 (TX2 2).2.1 (TX2 2).2.2.1 ∈ wsX2_takesFile := by decide +kernel
set_option maxRecDepth 20000 in
theorem fl_X2_takesFile_11 : Cond.fieldLink RX2 11 (TX2 0).1 (TX2 0).2.1 (TX2 0).2.2.1 ∈ wsX2_takesFile := by decide +kernel
set_option maxRecDepth 20000 in
theorem fl_X2_takesFile_15 : Cond.fieldLink RX2 15 (TX2 1).1 (TX2 1).2.1 (TX2 1).2.2.1 ∈ wsX2_takesFile := by decide +kernel
set_option maxHeartbeats 4000000 in
set_option maxRecDepth 100000 in
theorem cn_X2_takesFile (l : Launch) (Z : gZ) (ad : Nat → Nat) (hI : gInj 1 ad) (g : Nat → Int32) (v1 : Int32) {r : Int32} {g' : Nat → Int32} (h : f_X2_takesFile g v1 = some (r, g')) : gI l yX2_takesFile wsX2_takesFile rm_X2_takesFile Z 1 ad [.ref (ad 0), .int v1] (ordE g) r (ordE g') := by
  refine g_entryI (cc := cX2_takesFile) (maxL := 2) (by decide +kernel) rfl hI (Nat.le_of_ble_eq_true rfl) (fun X C e => ?_)
  unfold f_X2_takesFile at h
  show GG X Z 2 1 ad (ordE g) 0 [(0, .ref (ad 0)), (1, .int v1)] []
  refine g_aload_n C dX2_takesFile_0 0 rfl ?_
  refine g_iload_n C dX2_takesFile_1 1 rfl ?_
  refine g_bipush (v := 48) C dX2_takesFile_2 (by decide) ?_
  refine g_isub C dX2_takesFile_4 ?_
  obtain ⟨g1, eg1, h⟩ := gl h
  refine g_putf C 0 (by decide) rfl rfl in_X2_takesFile tyX2 tyX2_ok nmX2 2 (by decide) fl_X2_takesFile_18 rfl rfl rfl (Nat.le_of_ble_eq_true rfl) dX2_takesFile_5 (ordE g1) (by rw [eg1]; exact ordE_g2) ?_
  refine g_aload_n C dX2_takesFile_8 0 rfl ?_
  refine g_aload_n C dX2_takesFile_9 0 rfl ?_
  refine g_getf (v := .int (g1 1)) C 0 (by decide) rfl rfl in_X2_takesFile 1 (by decide) fl_X2_takesFile_15 rfl dX2_takesFile_10 ?_
  refine g_bipush (v := 97) C dX2_takesFile_13 (by decide) ?_
  refine g_icmp_eq (tgt := 27) C dX2_takesFile_15 (by decide) (fun c2 => ?_) (fun c2 => ?_)
  · replace h := gi_pos c2 h
    refine g_iconst (v := 2) C dX2_takesFile_27 (by decide) ?_
    refine g_goto (tgt := 33) C dX2_takesFile_28 (by decide) ?_
    obtain ⟨g3, eg3, h⟩ := gl h
    refine g_putf C 0 (by decide) rfl rfl in_X2_takesFile tyX2 tyX2_ok nmX2 0 (by decide) fl_X2_takesFile_11 rfl rfl rfl (Nat.le_of_ble_eq_true rfl) dX2_takesFile_33 (ordE g3) (by rw [eg3]; exact ordE_g0) ?_
    refine g_aload_n C dX2_takesFile_36 0 rfl ?_
    refine g_getf (v := .int (g3 2)) C 0 (by decide) rfl rfl in_X2_takesFile 2 (by decide) fl_X2_takesFile_18 rfl dX2_takesFile_37 ?_
    refine g_if_lt (tgt := 56) C dX2_takesFile_40 (by decide) (fun c4 => ?_) (fun c4 => ?_)
    · replace h := gi_pos c4 h
      refine g_iconst (v := 0) C dX2_takesFile_56 (by decide) ?_
      cases h
      exact g_zret C e rfl dX2_takesFile_57
    · replace h := gi_neg c4 h
      refine g_aload_n C dX2_takesFile_43 0 rfl ?_
      refine g_getf (v := .int (g3 2)) C 0 (by decide) rfl rfl in_X2_takesFile 2 (by decide) fl_X2_takesFile_18 rfl dX2_takesFile_44 ?_
      refine g_bipush (v := 8) C dX2_takesFile_47 (by decide) ?_
      refine g_icmp_ge (tgt := 56) C dX2_takesFile_49 (by decide) (fun c5 => ?_) (fun c5 => ?_)
      · replace h := gi_pos c5 h
        refine g_iconst (v := 0) C dX2_takesFile_56 (by decide) ?_
        cases h
        exact g_zret C e rfl dX2_takesFile_57
      · replace h := gi_neg c5 h
        refine g_iconst (v := 1) C dX2_takesFile_52 (by decide) ?_
        refine g_goto (tgt := 57) C dX2_takesFile_53 (by decide) ?_
        cases h
        exact g_zret C e rfl dX2_takesFile_57
  · replace h := gi_neg c2 h
    refine g_aload_n C dX2_takesFile_18 0 rfl ?_
    refine g_getf (v := .int (g1 1)) C 0 (by decide) rfl rfl in_X2_takesFile 1 (by decide) fl_X2_takesFile_15 rfl dX2_takesFile_19 ?_
    refine g_bipush (v := 116) C dX2_takesFile_22 (by decide) ?_
    refine g_icmp_ne (tgt := 31) C dX2_takesFile_24 (by decide) (fun c6 => ?_) (fun c6 => ?_)
    · replace h := gi_neg c6 h
      refine g_bipush (v := 7) C dX2_takesFile_31 (by decide) ?_
      obtain ⟨g7, eg7, h⟩ := gl h
      refine g_putf C 0 (by decide) rfl rfl in_X2_takesFile tyX2 tyX2_ok nmX2 0 (by decide) fl_X2_takesFile_11 rfl rfl rfl (Nat.le_of_ble_eq_true rfl) dX2_takesFile_33 (ordE g7) (by rw [eg7]; exact ordE_g0) ?_
      refine g_aload_n C dX2_takesFile_36 0 rfl ?_
      refine g_getf (v := .int (g7 2)) C 0 (by decide) rfl rfl in_X2_takesFile 2 (by decide) fl_X2_takesFile_18 rfl dX2_takesFile_37 ?_
      refine g_if_lt (tgt := 56) C dX2_takesFile_40 (by decide) (fun c8 => ?_) (fun c8 => ?_)
      · replace h := gi_pos c8 h
        refine g_iconst (v := 0) C dX2_takesFile_56 (by decide) ?_
        cases h
        exact g_zret C e rfl dX2_takesFile_57
      · replace h := gi_neg c8 h
        refine g_aload_n C dX2_takesFile_43 0 rfl ?_
        refine g_getf (v := .int (g7 2)) C 0 (by decide) rfl rfl in_X2_takesFile 2 (by decide) fl_X2_takesFile_18 rfl dX2_takesFile_44 ?_
        refine g_bipush (v := 8) C dX2_takesFile_47 (by decide) ?_
        refine g_icmp_ge (tgt := 56) C dX2_takesFile_49 (by decide) (fun c9 => ?_) (fun c9 => ?_)
        · replace h := gi_pos c9 h
          refine g_iconst (v := 0) C dX2_takesFile_56 (by decide) ?_
          cases h
          exact g_zret C e rfl dX2_takesFile_57
        · replace h := gi_neg c9 h
          refine g_iconst (v := 1) C dX2_takesFile_52 (by decide) ?_
          refine g_goto (tgt := 57) C dX2_takesFile_53 (by decide) ?_
          cases h
          exact g_zret C e rfl dX2_takesFile_57
    · replace h := gi_pos c6 h
      refine g_iconst (v := 2) C dX2_takesFile_27 (by decide) ?_
      refine g_goto (tgt := 33) C dX2_takesFile_28 (by decide) ?_
      obtain ⟨g10, eg10, h⟩ := gl h
      refine g_putf C 0 (by decide) rfl rfl in_X2_takesFile tyX2 tyX2_ok nmX2 0 (by decide) fl_X2_takesFile_11 rfl rfl rfl (Nat.le_of_ble_eq_true rfl) dX2_takesFile_33 (ordE g10) (by rw [eg10]; exact ordE_g0) ?_
      refine g_aload_n C dX2_takesFile_36 0 rfl ?_
      refine g_getf (v := .int (g10 2)) C 0 (by decide) rfl rfl in_X2_takesFile 2 (by decide) fl_X2_takesFile_18 rfl dX2_takesFile_37 ?_
      refine g_if_lt (tgt := 56) C dX2_takesFile_40 (by decide) (fun c11 => ?_) (fun c11 => ?_)
      · replace h := gi_pos c11 h
        refine g_iconst (v := 0) C dX2_takesFile_56 (by decide) ?_
        cases h
        exact g_zret C e rfl dX2_takesFile_57
      · replace h := gi_neg c11 h
        refine g_aload_n C dX2_takesFile_43 0 rfl ?_
        refine g_getf (v := .int (g10 2)) C 0 (by decide) rfl rfl in_X2_takesFile 2 (by decide) fl_X2_takesFile_18 rfl dX2_takesFile_44 ?_
        refine g_bipush (v := 8) C dX2_takesFile_47 (by decide) ?_
        refine g_icmp_ge (tgt := 56) C dX2_takesFile_49 (by decide) (fun c12 => ?_) (fun c12 => ?_)
        · replace h := gi_pos c12 h
          refine g_iconst (v := 0) C dX2_takesFile_56 (by decide) ?_
          cases h
          exact g_zret C e rfl dX2_takesFile_57
        · replace h := gi_neg c12 h
          refine g_iconst (v := 1) C dX2_takesFile_52 (by decide) ?_
          refine g_goto (tgt := 57) C dX2_takesFile_53 (by decide) ?_
          cases h
          exact g_zret C e rfl dX2_takesFile_57
abbrev rm_X2_takesMark : Room := ({ frames := 0, cells := 0, slots := 0, locals := 0 } : Room)
def f_X2_takesMark (g : Nat → Int32) (v1 : Int32) (v2 : Int32) (v3 : Int32) : Option (Int32 × (Nat → Int32)) := glet (upd g 0 v3) (fun g1 => if v1 = v2 then some (1, g1) else some (0, g1))
set_option maxRecDepth 20000 in
theorem in_X2_takesMark : ∀ w ∈ wsX20, w ∈ wsX2_takesMark := by decide +kernel
set_option maxRecDepth 20000 in
theorem fl_X2_takesMark_11 : Cond.fieldLink RX2 11 (TX2 0).1 (TX2 0).2.1 (TX2 0).2.2.1 ∈ wsX2_takesMark := by decide +kernel
set_option maxHeartbeats 4000000 in
set_option maxRecDepth 100000 in
theorem cn_X2_takesMark (l : Launch) (Z : gZ) (ad : Nat → Nat) (hI : gInj 1 ad) (g : Nat → Int32) (v1 : Int32) (v2 : Int32) (v3 : Int32) {r : Int32} {g' : Nat → Int32} (h : f_X2_takesMark g v1 v2 v3 = some (r, g')) : gI l yX2_takesMark wsX2_takesMark rm_X2_takesMark Z 1 ad [.ref (ad 0), .int v1, .int v2, .int v3] (ordE g) r (ordE g') := by
  refine g_entryI (cc := cX2_takesMark) (maxL := 4) (by decide +kernel) rfl hI (Nat.le_of_ble_eq_true rfl) (fun X C e => ?_)
  unfold f_X2_takesMark at h
  show GG X Z 4 1 ad (ordE g) 0 [(0, .ref (ad 0)), (1, .int v1), (2, .int v2), (3, .int v3)] []
  refine g_aload_n C dX2_takesMark_0 0 rfl ?_
  refine g_iload_n C dX2_takesMark_1 3 rfl ?_
  obtain ⟨g1, eg1, h⟩ := gl h
  refine g_putf C 0 (by decide) rfl rfl in_X2_takesMark tyX2 tyX2_ok nmX2 0 (by decide) fl_X2_takesMark_11 rfl rfl rfl (Nat.le_of_ble_eq_true rfl) dX2_takesMark_2 (ordE g1) (by rw [eg1]; exact ordE_g0) ?_
  refine g_iload_n C dX2_takesMark_5 1 rfl ?_
  refine g_iload_n C dX2_takesMark_6 2 rfl ?_
  refine g_icmp_ne (tgt := 14) C dX2_takesMark_7 (by decide) (fun c2 => ?_) (fun c2 => ?_)
  · replace h := gi_neg c2 h
    refine g_iconst (v := 0) C dX2_takesMark_14 (by decide) ?_
    cases h
    exact g_zret C e rfl dX2_takesMark_15
  · replace h := gi_pos c2 h
    refine g_iconst (v := 1) C dX2_takesMark_10 (by decide) ?_
    refine g_goto (tgt := 15) C dX2_takesMark_11 (by decide) ?_
    cases h
    exact g_zret C e rfl dX2_takesMark_15
abbrev rm_X2_takesFirst : Room := ({ frames := 0, cells := 0, slots := 0, locals := 0 } : Room)
def f_X2_takesFirst (g : Nat → Int32) (v1 : Int32) : Option (Int32 × (Nat → Int32)) := glet (upd g 3 (v1 - 48)) (fun g1 => glet (upd g1 0 4) (fun g2 => if (g2 1) = 97 then if (g2 3) < 1 then some (0, g2) else if 9 < (g2 3) then some (0, g2) else some (1, g2) else if (g2 3) < 0 then some (0, g2) else if 9 < (g2 3) then some (0, g2) else some (1, g2)))
set_option maxRecDepth 20000 in
theorem in_X2_takesFirst : ∀ w ∈ wsX20, w ∈ wsX2_takesFirst := by decide +kernel
set_option maxRecDepth 20000 in
theorem fl_X2_takesFirst_21 : Cond.fieldLink RX2 21 (TX2 3).1 (TX2 3).2.1 (TX2 3).2.2.1 ∈ wsX2_takesFirst := by decide +kernel
set_option maxRecDepth 20000 in
theorem fl_X2_takesFirst_15 : Cond.fieldLink RX2 15 (TX2 1).1 (TX2 1).2.1 (TX2 1).2.2.1 ∈ wsX2_takesFirst := by decide +kernel
set_option maxRecDepth 20000 in
theorem fl_X2_takesFirst_11 : Cond.fieldLink RX2 11 (TX2 0).1 (TX2 0).2.1 (TX2 0).2.2.1 ∈ wsX2_takesFirst := by decide +kernel
set_option maxHeartbeats 4000000 in
set_option maxRecDepth 100000 in
theorem cn_X2_takesFirst (l : Launch) (Z : gZ) (ad : Nat → Nat) (hI : gInj 1 ad) (g : Nat → Int32) (v1 : Int32) {r : Int32} {g' : Nat → Int32} (h : f_X2_takesFirst g v1 = some (r, g')) : gI l yX2_takesFirst wsX2_takesFirst rm_X2_takesFirst Z 1 ad [.ref (ad 0), .int v1] (ordE g) r (ordE g') := by
  refine g_entryI (cc := cX2_takesFirst) (maxL := 3) (by decide +kernel) rfl hI (Nat.le_of_ble_eq_true rfl) (fun X C e => ?_)
  unfold f_X2_takesFirst at h
  show GG X Z 3 1 ad (ordE g) 0 [(0, .ref (ad 0)), (1, .int v1)] []
  refine g_aload_n C dX2_takesFirst_0 0 rfl ?_
  refine g_iload_n C dX2_takesFirst_1 1 rfl ?_
  refine g_bipush (v := 48) C dX2_takesFirst_2 (by decide) ?_
  refine g_isub C dX2_takesFirst_4 ?_
  obtain ⟨g1, eg1, h⟩ := gl h
  refine g_putf C 0 (by decide) rfl rfl in_X2_takesFirst tyX2 tyX2_ok nmX2 3 (by decide) fl_X2_takesFirst_21 rfl rfl rfl (Nat.le_of_ble_eq_true rfl) dX2_takesFirst_5 (ordE g1) (by rw [eg1]; exact ordE_g3) ?_
  refine g_aload_n C dX2_takesFirst_8 0 rfl ?_
  refine g_iconst (v := 4) C dX2_takesFirst_9 (by decide) ?_
  obtain ⟨g2, eg2, h⟩ := gl h
  refine g_putf C 0 (by decide) rfl rfl in_X2_takesFirst tyX2 tyX2_ok nmX2 0 (by decide) fl_X2_takesFirst_11 rfl rfl rfl (Nat.le_of_ble_eq_true rfl) dX2_takesFirst_10 (ordE g2) (by rw [eg2]; exact ordE_g0) ?_
  refine g_aload_n C dX2_takesFirst_13 0 rfl ?_
  refine g_getf (v := .int (g2 1)) C 0 (by decide) rfl rfl in_X2_takesFirst 1 (by decide) fl_X2_takesFirst_15 rfl dX2_takesFirst_14 ?_
  refine g_bipush (v := 97) C dX2_takesFirst_17 (by decide) ?_
  refine g_icmp_ne (tgt := 26) C dX2_takesFirst_19 (by decide) (fun c3 => ?_) (fun c3 => ?_)
  · replace h := gi_neg c3 h
    refine g_iconst (v := 0) C dX2_takesFirst_26 (by decide) ?_
    refine g_istore_n C dX2_takesFirst_27 (by decide) [(2, .int 0), (0, .ref (ad 0)), (1, .int v1)] rfl ?_
    refine g_aload_n C dX2_takesFirst_28 1 rfl ?_
    refine g_getf (v := .int (g2 3)) C 0 (by decide) rfl rfl in_X2_takesFirst 3 (by decide) fl_X2_takesFirst_21 rfl dX2_takesFirst_29 ?_
    refine g_iload_n C dX2_takesFirst_32 0 rfl ?_
    refine g_icmp_lt (tgt := 49) C dX2_takesFirst_33 (by decide) (fun c4 => ?_) (fun c4 => ?_)
    · replace h := gi_pos c4 h
      refine g_iconst (v := 0) C dX2_takesFirst_49 (by decide) ?_
      cases h
      exact g_zret C e rfl dX2_takesFirst_50
    · replace h := gi_neg c4 h
      refine g_aload_n C dX2_takesFirst_36 1 rfl ?_
      refine g_getf (v := .int (g2 3)) C 0 (by decide) rfl rfl in_X2_takesFirst 3 (by decide) fl_X2_takesFirst_21 rfl dX2_takesFirst_37 ?_
      refine g_bipush (v := 9) C dX2_takesFirst_40 (by decide) ?_
      refine g_icmp_gt (tgt := 49) C dX2_takesFirst_42 (by decide) (fun c5 => ?_) (fun c5 => ?_)
      · replace h := gi_pos c5 h
        refine g_iconst (v := 0) C dX2_takesFirst_49 (by decide) ?_
        cases h
        exact g_zret C e rfl dX2_takesFirst_50
      · replace h := gi_neg c5 h
        refine g_iconst (v := 1) C dX2_takesFirst_45 (by decide) ?_
        refine g_goto (tgt := 50) C dX2_takesFirst_46 (by decide) ?_
        cases h
        exact g_zret C e rfl dX2_takesFirst_50
  · replace h := gi_pos c3 h
    refine g_iconst (v := 1) C dX2_takesFirst_22 (by decide) ?_
    refine g_goto (tgt := 27) C dX2_takesFirst_23 (by decide) ?_
    refine g_istore_n C dX2_takesFirst_27 (by decide) [(2, .int 1), (0, .ref (ad 0)), (1, .int v1)] rfl ?_
    refine g_aload_n C dX2_takesFirst_28 1 rfl ?_
    refine g_getf (v := .int (g2 3)) C 0 (by decide) rfl rfl in_X2_takesFirst 3 (by decide) fl_X2_takesFirst_21 rfl dX2_takesFirst_29 ?_
    refine g_iload_n C dX2_takesFirst_32 0 rfl ?_
    refine g_icmp_lt (tgt := 49) C dX2_takesFirst_33 (by decide) (fun c6 => ?_) (fun c6 => ?_)
    · replace h := gi_pos c6 h
      refine g_iconst (v := 0) C dX2_takesFirst_49 (by decide) ?_
      cases h
      exact g_zret C e rfl dX2_takesFirst_50
    · replace h := gi_neg c6 h
      refine g_aload_n C dX2_takesFirst_36 1 rfl ?_
      refine g_getf (v := .int (g2 3)) C 0 (by decide) rfl rfl in_X2_takesFirst 3 (by decide) fl_X2_takesFirst_21 rfl dX2_takesFirst_37 ?_
      refine g_bipush (v := 9) C dX2_takesFirst_40 (by decide) ?_
      refine g_icmp_gt (tgt := 49) C dX2_takesFirst_42 (by decide) (fun c7 => ?_) (fun c7 => ?_)
      · replace h := gi_pos c7 h
        refine g_iconst (v := 0) C dX2_takesFirst_49 (by decide) ?_
        cases h
        exact g_zret C e rfl dX2_takesFirst_50
      · replace h := gi_neg c7 h
        refine g_iconst (v := 1) C dX2_takesFirst_45 (by decide) ?_
        refine g_goto (tgt := 50) C dX2_takesFirst_46 (by decide) ?_
        cases h
        exact g_zret C e rfl dX2_takesFirst_50
abbrev rm_X2_isMore : Room := ({ frames := 0, cells := 0, slots := 0, locals := 0 } : Room)
def f_X2_isMore (v0 : Int32) (v1 : Int32) (v2 : Int32) : Option Int32 := glet (v1 - 48) (fun x1 => if x1 < 0 then some 0 else if 9 < x1 then some 0 else if v0 ≤ 0 then some 0 else if v2 < ((10 * v0) + x1) then some 0 else some 1)
set_option maxHeartbeats 4000000 in
set_option maxRecDepth 100000 in
theorem cn_X2_isMore (l : Launch) (Z : gZ) (v0 : Int32) (v1 : Int32) (v2 : Int32) {r : Int32} (h : f_X2_isMore v0 v1 v2 = some r) : gI l yX2_isMore wsX2_isMore rm_X2_isMore Z 0 id [.int v0, .int v1, .int v2] g0E r g0E := by
  refine g_entryI (cc := cX2_isMore) (maxL := 4) (by decide +kernel) rfl (fun i j hi => by omega) (Nat.le_of_ble_eq_true rfl) (fun X C e => ?_)
  unfold f_X2_isMore at h
  show GG X Z 4 0 id g0E 0 [(0, .int v0), (1, .int v1), (2, .int v2)] []
  refine g_iload_n C dX2_isMore_0 1 rfl ?_
  refine g_bipush (v := 48) C dX2_isMore_1 (by decide) ?_
  refine g_isub C dX2_isMore_3 ?_
  obtain ⟨x1, ex1, h⟩ := gl h
  refine g_istore_n C dX2_isMore_4 (by decide) [(3, .int x1), (0, .int v0), (1, .int v1), (2, .int v2)] (by rw [ex1]; rfl) ?_
  refine g_iload_n C dX2_isMore_5 0 rfl ?_
  refine g_if_lt (tgt := 33) C dX2_isMore_6 (by decide) (fun c2 => ?_) (fun c2 => ?_)
  · replace h := gi_pos c2 h
    refine g_iconst (v := 0) C dX2_isMore_33 (by decide) ?_
    cases h
    exact g_zret C e rfl dX2_isMore_34
  · replace h := gi_neg c2 h
    refine g_iload_n C dX2_isMore_9 0 rfl ?_
    refine g_bipush (v := 9) C dX2_isMore_10 (by decide) ?_
    refine g_icmp_gt (tgt := 33) C dX2_isMore_12 (by decide) (fun c3 => ?_) (fun c3 => ?_)
    · replace h := gi_pos c3 h
      refine g_iconst (v := 0) C dX2_isMore_33 (by decide) ?_
      cases h
      exact g_zret C e rfl dX2_isMore_34
    · replace h := gi_neg c3 h
      refine g_iload_n C dX2_isMore_15 1 rfl ?_
      refine g_if_le (tgt := 33) C dX2_isMore_16 (by decide) (fun c4 => ?_) (fun c4 => ?_)
      · replace h := gi_pos c4 h
        refine g_iconst (v := 0) C dX2_isMore_33 (by decide) ?_
        cases h
        exact g_zret C e rfl dX2_isMore_34
      · replace h := gi_neg c4 h
        refine g_bipush (v := 10) C dX2_isMore_19 (by decide) ?_
        refine g_iload_n C dX2_isMore_21 1 rfl ?_
        refine g_imul C dX2_isMore_22 ?_
        refine g_iload_n C dX2_isMore_23 0 rfl ?_
        refine g_iadd C dX2_isMore_24 ?_
        refine g_iload_n C dX2_isMore_25 3 rfl ?_
        refine g_icmp_gt (tgt := 33) C dX2_isMore_26 (by decide) (fun c5 => ?_) (fun c5 => ?_)
        · replace h := gi_pos c5 h
          refine g_iconst (v := 0) C dX2_isMore_33 (by decide) ?_
          cases h
          exact g_zret C e rfl dX2_isMore_34
        · replace h := gi_neg c5 h
          refine g_iconst (v := 1) C dX2_isMore_29 (by decide) ?_
          refine g_goto (tgt := 34) C dX2_isMore_30 (by decide) ?_
          cases h
          exact g_zret C e rfl dX2_isMore_34
abbrev rm_X2_takesMoreOfFirst : Room := ({ frames := 1, cells := 0, slots := 0, locals := 23 } : Room)
def f_X2_takesMoreOfFirst (g : Nat → Int32) (v1 : Int32) : Option (Int32 × (Nat → Int32)) := if (g 1) = 97 then if v1 = 61 then gbb2 (f_X2_takesMark g v1 61 5) (fun r9 g10 => if r9 = 0 ∨ r9 = 1 then some (r9, g10) else none) else gb (f_X2_isMore (g 3) v1 64) (fun r6 => glet (upd g 3 (((10 * (g 3)) + v1) - 48)) (fun g7 => if r6 = 0 ∨ r6 = 1 then some (r6, g7) else none)) else gb (f_X2_isMore (g 3) v1 64) (fun r2 => glet (upd g 3 (((10 * (g 3)) + v1) - 48)) (fun g3 => if r2 = 0 ∨ r2 = 1 then some (r2, g3) else none))
set_option maxRecDepth 20000 in
theorem in_X2_takesMoreOfFirst : ∀ w ∈ wsX20, w ∈ wsX2_takesMoreOfFirst := by decide +kernel
set_option maxRecDepth 20000 in
theorem fl_X2_takesMoreOfFirst_21 : Cond.fieldLink RX2 21 (TX2 3).1 (TX2 3).2.1 (TX2 3).2.2.1 ∈ wsX2_takesMoreOfFirst := by decide +kernel
set_option maxRecDepth 20000 in
theorem fl_X2_takesMoreOfFirst_15 : Cond.fieldLink RX2 15 (TX2 1).1 (TX2 1).2.1 (TX2 1).2.2.1 ∈ wsX2_takesMoreOfFirst := by decide +kernel
set_option maxHeartbeats 4000000 in
set_option maxRecDepth 100000 in
theorem cn_X2_takesMoreOfFirst (l : Launch) (Z : gZ) (ad : Nat → Nat) (hI : gInj 1 ad) (g : Nat → Int32) (v1 : Int32) {r : Int32} {g' : Nat → Int32} (h : f_X2_takesMoreOfFirst g v1 = some (r, g')) : gI l yX2_takesMoreOfFirst wsX2_takesMoreOfFirst rm_X2_takesMoreOfFirst Z 1 ad [.ref (ad 0), .int v1] (ordE g) r (ordE g') := by
  refine g_entryI (cc := cX2_takesMoreOfFirst) (maxL := 3) (by decide +kernel) rfl hI (Nat.le_of_ble_eq_true rfl) (fun X C e => ?_)
  unfold f_X2_takesMoreOfFirst at h
  show GG X Z 3 1 ad (ordE g) 0 [(0, .ref (ad 0)), (1, .int v1)] []
  refine g_aload_n C dX2_takesMoreOfFirst_0 0 rfl ?_
  refine g_getf (v := .int (g 1)) C 0 (by decide) rfl rfl in_X2_takesMoreOfFirst 1 (by decide) fl_X2_takesMoreOfFirst_15 rfl dX2_takesMoreOfFirst_1 ?_
  refine g_bipush (v := 97) C dX2_takesMoreOfFirst_4 (by decide) ?_
  refine g_icmp_ne (tgt := 24) C dX2_takesMoreOfFirst_6 (by decide) (fun c1 => ?_) (fun c1 => ?_)
  · replace h := gi_neg c1 h
    refine g_aload_n C dX2_takesMoreOfFirst_24 0 rfl ?_
    refine g_getf (v := .int (g 3)) C 0 (by decide) rfl rfl in_X2_takesMoreOfFirst 3 (by decide) fl_X2_takesMoreOfFirst_21 rfl dX2_takesMoreOfFirst_25 ?_
    refine g_iload_n C dX2_takesMoreOfFirst_28 1 rfl ?_
    refine g_bipush (v := 64) C dX2_takesMoreOfFirst_29 (by decide) ?_
    obtain ⟨r2, er2, h⟩ := gb1 h
    refine g_callSi (rest := []) C gX2_takesMoreOfFirst_X2_isMore rfl ok_X2_isMore ⟨by decide, by decide⟩ ⟨rfl, rfl⟩ (cn_X2_isMore X.2.1 Z (g 3) v1 64 er2) rfl dX2_takesMoreOfFirst_31 rfl (by decide) ?_
    refine g_istore_n C dX2_takesMoreOfFirst_34 (by decide) [(2, .int r2), (0, .ref (ad 0)), (1, .int v1)] rfl ?_
    refine g_aload_n C dX2_takesMoreOfFirst_35 1 rfl ?_
    refine g_bipush (v := 10) C dX2_takesMoreOfFirst_36 (by decide) ?_
    refine g_aload_n C dX2_takesMoreOfFirst_38 1 rfl ?_
    refine g_getf (v := .int (g 3)) C 0 (by decide) rfl rfl in_X2_takesMoreOfFirst 3 (by decide) fl_X2_takesMoreOfFirst_21 rfl dX2_takesMoreOfFirst_39 ?_
    refine g_imul C dX2_takesMoreOfFirst_42 ?_
    refine g_iload_n C dX2_takesMoreOfFirst_43 2 rfl ?_
    refine g_iadd C dX2_takesMoreOfFirst_44 ?_
    refine g_bipush (v := 48) C dX2_takesMoreOfFirst_45 (by decide) ?_
    refine g_isub C dX2_takesMoreOfFirst_47 ?_
    obtain ⟨g3, eg3, h⟩ := gl h
    refine g_putf C 0 (by decide) rfl rfl in_X2_takesMoreOfFirst tyX2 tyX2_ok nmX2 3 (by decide) fl_X2_takesMoreOfFirst_21 rfl rfl rfl (Nat.le_of_ble_eq_true rfl) dX2_takesMoreOfFirst_48 (ordE g3) (by rw [eg3]; exact ordE_g3) ?_
    refine g_iload_n C dX2_takesMoreOfFirst_51 0 rfl ?_
    obtain ⟨b4, h⟩ := gguard h
    cases h
    exact g_zret C e (g_b01 b4) dX2_takesMoreOfFirst_52
  · replace h := gi_pos c1 h
    refine g_iload_n C dX2_takesMoreOfFirst_9 1 rfl ?_
    refine g_bipush (v := 61) C dX2_takesMoreOfFirst_10 (by decide) ?_
    refine g_icmp_ne (tgt := 24) C dX2_takesMoreOfFirst_12 (by decide) (fun c5 => ?_) (fun c5 => ?_)
    · replace h := gi_neg c5 h
      refine g_aload_n C dX2_takesMoreOfFirst_24 0 rfl ?_
      refine g_getf (v := .int (g 3)) C 0 (by decide) rfl rfl in_X2_takesMoreOfFirst 3 (by decide) fl_X2_takesMoreOfFirst_21 rfl dX2_takesMoreOfFirst_25 ?_
      refine g_iload_n C dX2_takesMoreOfFirst_28 1 rfl ?_
      refine g_bipush (v := 64) C dX2_takesMoreOfFirst_29 (by decide) ?_
      obtain ⟨r6, er6, h⟩ := gb1 h
      refine g_callSi (rest := []) C gX2_takesMoreOfFirst_X2_isMore rfl ok_X2_isMore ⟨by decide, by decide⟩ ⟨rfl, rfl⟩ (cn_X2_isMore X.2.1 Z (g 3) v1 64 er6) rfl dX2_takesMoreOfFirst_31 rfl (by decide) ?_
      refine g_istore_n C dX2_takesMoreOfFirst_34 (by decide) [(2, .int r6), (0, .ref (ad 0)), (1, .int v1)] rfl ?_
      refine g_aload_n C dX2_takesMoreOfFirst_35 1 rfl ?_
      refine g_bipush (v := 10) C dX2_takesMoreOfFirst_36 (by decide) ?_
      refine g_aload_n C dX2_takesMoreOfFirst_38 1 rfl ?_
      refine g_getf (v := .int (g 3)) C 0 (by decide) rfl rfl in_X2_takesMoreOfFirst 3 (by decide) fl_X2_takesMoreOfFirst_21 rfl dX2_takesMoreOfFirst_39 ?_
      refine g_imul C dX2_takesMoreOfFirst_42 ?_
      refine g_iload_n C dX2_takesMoreOfFirst_43 2 rfl ?_
      refine g_iadd C dX2_takesMoreOfFirst_44 ?_
      refine g_bipush (v := 48) C dX2_takesMoreOfFirst_45 (by decide) ?_
      refine g_isub C dX2_takesMoreOfFirst_47 ?_
      obtain ⟨g7, eg7, h⟩ := gl h
      refine g_putf C 0 (by decide) rfl rfl in_X2_takesMoreOfFirst tyX2 tyX2_ok nmX2 3 (by decide) fl_X2_takesMoreOfFirst_21 rfl rfl rfl (Nat.le_of_ble_eq_true rfl) dX2_takesMoreOfFirst_48 (ordE g7) (by rw [eg7]; exact ordE_g3) ?_
      refine g_iload_n C dX2_takesMoreOfFirst_51 0 rfl ?_
      obtain ⟨b8, h⟩ := gguard h
      cases h
      exact g_zret C e (g_b01 b8) dX2_takesMoreOfFirst_52
    · replace h := gi_pos c5 h
      refine g_aload_n C dX2_takesMoreOfFirst_15 0 rfl ?_
      refine g_iload_n C dX2_takesMoreOfFirst_16 1 rfl ?_
      refine g_bipush (v := 61) C dX2_takesMoreOfFirst_17 (by decide) ?_
      refine g_iconst (v := 5) C dX2_takesMoreOfFirst_19 (by decide) ?_
      obtain ⟨r9, g10, er9, h⟩ := gb2 h
      refine g_callWi (rest := []) C gX2_takesMoreOfFirst_X2_takesMark rfl ok_X2_takesMark ⟨by decide, by decide⟩ ⟨rfl, rfl⟩ 0 (by decide) rfl rfl (fun hI => cn_X2_takesMark X.2.1 Z ad hI g v1 61 5 er9) rfl dX2_takesMoreOfFirst_20 rfl (Nat.le_of_ble_eq_true rfl) ?_
      obtain ⟨b11, h⟩ := gguard h
      cases h
      exact g_zret C e (g_b01 b11) dX2_takesMoreOfFirst_23
abbrev rm_X2_takesSecond : Room := ({ frames := 0, cells := 0, slots := 0, locals := 0 } : Room)
def f_X2_takesSecond (g : Nat → Int32) (v1 : Int32) : Option (Int32 × (Nat → Int32)) := glet (upd g 4 (v1 - 48)) (fun g1 => glet (upd g1 0 6) (fun g2 => if (g2 4) < 0 then some (0, g2) else if 9 < (g2 4) then some (0, g2) else some (1, g2)))
set_option maxRecDepth 20000 in
theorem in_X2_takesSecond : ∀ w ∈ wsX20, w ∈ wsX2_takesSecond := by decide +kernel
set_option maxRecDepth 20000 in
theorem fl_X2_takesSecond_24 : Cond.fieldLink RX2 24 (TX2 4).1 (TX2 4).2.1 (TX2 4).2.2.1 ∈ wsX2_takesSecond := by decide +kernel
set_option maxRecDepth 20000 in
theorem fl_X2_takesSecond_11 : Cond.fieldLink RX2 11 (TX2 0).1 (TX2 0).2.1 (TX2 0).2.2.1 ∈ wsX2_takesSecond := by decide +kernel
set_option maxHeartbeats 4000000 in
set_option maxRecDepth 100000 in
theorem cn_X2_takesSecond (l : Launch) (Z : gZ) (ad : Nat → Nat) (hI : gInj 1 ad) (g : Nat → Int32) (v1 : Int32) {r : Int32} {g' : Nat → Int32} (h : f_X2_takesSecond g v1 = some (r, g')) : gI l yX2_takesSecond wsX2_takesSecond rm_X2_takesSecond Z 1 ad [.ref (ad 0), .int v1] (ordE g) r (ordE g') := by
  refine g_entryI (cc := cX2_takesSecond) (maxL := 2) (by decide +kernel) rfl hI (Nat.le_of_ble_eq_true rfl) (fun X C e => ?_)
  unfold f_X2_takesSecond at h
  show GG X Z 2 1 ad (ordE g) 0 [(0, .ref (ad 0)), (1, .int v1)] []
  refine g_aload_n C dX2_takesSecond_0 0 rfl ?_
  refine g_iload_n C dX2_takesSecond_1 1 rfl ?_
  refine g_bipush (v := 48) C dX2_takesSecond_2 (by decide) ?_
  refine g_isub C dX2_takesSecond_4 ?_
  obtain ⟨g1, eg1, h⟩ := gl h
  refine g_putf C 0 (by decide) rfl rfl in_X2_takesSecond tyX2 tyX2_ok nmX2 4 (by decide) fl_X2_takesSecond_24 rfl rfl rfl (Nat.le_of_ble_eq_true rfl) dX2_takesSecond_5 (ordE g1) (by rw [eg1]; exact ordE_g4) ?_
  refine g_aload_n C dX2_takesSecond_8 0 rfl ?_
  refine g_bipush (v := 6) C dX2_takesSecond_9 (by decide) ?_
  obtain ⟨g2, eg2, h⟩ := gl h
  refine g_putf C 0 (by decide) rfl rfl in_X2_takesSecond tyX2 tyX2_ok nmX2 0 (by decide) fl_X2_takesSecond_11 rfl rfl rfl (Nat.le_of_ble_eq_true rfl) dX2_takesSecond_11 (ordE g2) (by rw [eg2]; exact ordE_g0) ?_
  refine g_aload_n C dX2_takesSecond_14 0 rfl ?_
  refine g_getf (v := .int (g2 4)) C 0 (by decide) rfl rfl in_X2_takesSecond 4 (by decide) fl_X2_takesSecond_24 rfl dX2_takesSecond_15 ?_
  refine g_if_lt (tgt := 34) C dX2_takesSecond_18 (by decide) (fun c3 => ?_) (fun c3 => ?_)
  · replace h := gi_pos c3 h
    refine g_iconst (v := 0) C dX2_takesSecond_34 (by decide) ?_
    cases h
    exact g_zret C e rfl dX2_takesSecond_35
  · replace h := gi_neg c3 h
    refine g_aload_n C dX2_takesSecond_21 0 rfl ?_
    refine g_getf (v := .int (g2 4)) C 0 (by decide) rfl rfl in_X2_takesSecond 4 (by decide) fl_X2_takesSecond_24 rfl dX2_takesSecond_22 ?_
    refine g_bipush (v := 9) C dX2_takesSecond_25 (by decide) ?_
    refine g_icmp_gt (tgt := 34) C dX2_takesSecond_27 (by decide) (fun c4 => ?_) (fun c4 => ?_)
    · replace h := gi_pos c4 h
      refine g_iconst (v := 0) C dX2_takesSecond_34 (by decide) ?_
      cases h
      exact g_zret C e rfl dX2_takesSecond_35
    · replace h := gi_neg c4 h
      refine g_iconst (v := 1) C dX2_takesSecond_30 (by decide) ?_
      refine g_goto (tgt := 35) C dX2_takesSecond_31 (by decide) ?_
      cases h
      exact g_zret C e rfl dX2_takesSecond_35
abbrev rm_X2_takesMoreOfSecond : Room := ({ frames := 1, cells := 0, slots := 0, locals := 23 } : Room)
def f_X2_takesMoreOfSecond (g : Nat → Int32) (v1 : Int32) : Option (Int32 × (Nat → Int32)) := gb (f_X2_isMore (g 4) v1 99) (fun r1 => glet (upd g 4 (((10 * (g 4)) + v1) - 48)) (fun g2 => if r1 = 0 ∨ r1 = 1 then some (r1, g2) else none))
set_option maxRecDepth 20000 in
theorem in_X2_takesMoreOfSecond : ∀ w ∈ wsX20, w ∈ wsX2_takesMoreOfSecond := by decide +kernel
set_option maxRecDepth 20000 in
theorem fl_X2_takesMoreOfSecond_24 : Cond.fieldLink RX2 24 (TX2 4).1 (TX2 4).2.1 (TX2 4).2.2.1 ∈ wsX2_takesMoreOfSecond := by decide +kernel
set_option maxHeartbeats 4000000 in
set_option maxRecDepth 100000 in
theorem cn_X2_takesMoreOfSecond (l : Launch) (Z : gZ) (ad : Nat → Nat) (hI : gInj 1 ad) (g : Nat → Int32) (v1 : Int32) {r : Int32} {g' : Nat → Int32} (h : f_X2_takesMoreOfSecond g v1 = some (r, g')) : gI l yX2_takesMoreOfSecond wsX2_takesMoreOfSecond rm_X2_takesMoreOfSecond Z 1 ad [.ref (ad 0), .int v1] (ordE g) r (ordE g') := by
  refine g_entryI (cc := cX2_takesMoreOfSecond) (maxL := 3) (by decide +kernel) rfl hI (Nat.le_of_ble_eq_true rfl) (fun X C e => ?_)
  unfold f_X2_takesMoreOfSecond at h
  show GG X Z 3 1 ad (ordE g) 0 [(0, .ref (ad 0)), (1, .int v1)] []
  refine g_aload_n C dX2_takesMoreOfSecond_0 0 rfl ?_
  refine g_getf (v := .int (g 4)) C 0 (by decide) rfl rfl in_X2_takesMoreOfSecond 4 (by decide) fl_X2_takesMoreOfSecond_24 rfl dX2_takesMoreOfSecond_1 ?_
  refine g_iload_n C dX2_takesMoreOfSecond_4 1 rfl ?_
  refine g_bipush (v := 99) C dX2_takesMoreOfSecond_5 (by decide) ?_
  obtain ⟨r1, er1, h⟩ := gb1 h
  refine g_callSi (rest := []) C gX2_takesMoreOfSecond_X2_isMore rfl ok_X2_isMore ⟨by decide, by decide⟩ ⟨rfl, rfl⟩ (cn_X2_isMore X.2.1 Z (g 4) v1 99 er1) rfl dX2_takesMoreOfSecond_7 rfl (by decide) ?_
  refine g_istore_n C dX2_takesMoreOfSecond_10 (by decide) [(2, .int r1), (0, .ref (ad 0)), (1, .int v1)] rfl ?_
  refine g_aload_n C dX2_takesMoreOfSecond_11 1 rfl ?_
  refine g_bipush (v := 10) C dX2_takesMoreOfSecond_12 (by decide) ?_
  refine g_aload_n C dX2_takesMoreOfSecond_14 1 rfl ?_
  refine g_getf (v := .int (g 4)) C 0 (by decide) rfl rfl in_X2_takesMoreOfSecond 4 (by decide) fl_X2_takesMoreOfSecond_24 rfl dX2_takesMoreOfSecond_15 ?_
  refine g_imul C dX2_takesMoreOfSecond_18 ?_
  refine g_iload_n C dX2_takesMoreOfSecond_19 2 rfl ?_
  refine g_iadd C dX2_takesMoreOfSecond_20 ?_
  refine g_bipush (v := 48) C dX2_takesMoreOfSecond_21 (by decide) ?_
  refine g_isub C dX2_takesMoreOfSecond_23 ?_
  obtain ⟨g2, eg2, h⟩ := gl h
  refine g_putf C 0 (by decide) rfl rfl in_X2_takesMoreOfSecond tyX2 tyX2_ok nmX2 4 (by decide) fl_X2_takesMoreOfSecond_24 rfl rfl rfl (Nat.le_of_ble_eq_true rfl) dX2_takesMoreOfSecond_24 (ordE g2) (by rw [eg2]; exact ordE_g4) ?_
  refine g_iload_n C dX2_takesMoreOfSecond_27 0 rfl ?_
  obtain ⟨b3, h⟩ := gguard h
  cases h
  exact g_zret C e (g_b01 b3) dX2_takesMoreOfSecond_28
abbrev rm_X2_takes : Room := ({ frames := 2, cells := 0, slots := 0, locals := 45 } : Room)
def f_X2_takes (g : Nat → Int32) (v1 : Int32) : Option (Int32 × (Nat → Int32)) := if v1 = 59 then gb (f_X2_isWhole g) (fun r30 => if r30 = 0 then glet (upd g 0 (g 0)) (fun g32 => if r30 = 0 ∨ r30 = 1 then some (r30, g32) else none) else glet (upd g 0 0) (fun g34 => if r30 = 0 ∨ r30 = 1 then some (r30, g34) else none)) else if (g 0) = 0 then gbb2 (f_X2_takesLetter g v1) (fun r3 g4 => if r3 = 0 ∨ r3 = 1 then some (r3, g4) else none) else if (g 0) = 1 then gbb2 (f_X2_takesFile g v1) (fun r7 g8 => if r7 = 0 ∨ r7 = 1 then some (r7, g8) else none) else if (g 0) = 2 then gbb2 (f_X2_takesMark g v1 58 3) (fun r11 g12 => if r11 = 0 ∨ r11 = 1 then some (r11, g12) else none) else if (g 0) = 3 then gbb2 (f_X2_takesFirst g v1) (fun r15 g16 => if r15 = 0 ∨ r15 = 1 then some (r15, g16) else none) else if (g 0) = 4 then gbb2 (f_X2_takesMoreOfFirst g v1) (fun r19 g20 => if r19 = 0 ∨ r19 = 1 then some (r19, g20) else none) else if (g 0) = 5 then gbb2 (f_X2_takesSecond g v1) (fun r23 g24 => if r23 = 0 ∨ r23 = 1 then some (r23, g24) else none) else if (g 0) = 6 then gbb2 (f_X2_takesMoreOfSecond g v1) (fun r27 g28 => if r27 = 0 ∨ r27 = 1 then some (r27, g28) else none) else some (0, g)
set_option maxRecDepth 20000 in
theorem in_X2_takes : ∀ w ∈ wsX20, w ∈ wsX2_takes := by decide +kernel
set_option maxRecDepth 20000 in
theorem fl_X2_takes_11 : Cond.fieldLink RX2 11 (TX2 0).1 (TX2 0).2.1 (TX2 0).2.2.1 ∈ wsX2_takes := by decide +kernel
set_option maxHeartbeats 4000000 in
set_option maxRecDepth 100000 in
theorem cn_X2_takes (l : Launch) (Z : gZ) (ad : Nat → Nat) (hI : gInj 1 ad) (g : Nat → Int32) (v1 : Int32) {r : Int32} {g' : Nat → Int32} (h : f_X2_takes g v1 = some (r, g')) : gI l yX2_takes wsX2_takes rm_X2_takes Z 1 ad [.ref (ad 0), .int v1] (ordE g) r (ordE g') := by
  refine g_entryI (cc := cX2_takes) (maxL := 3) (by decide +kernel) rfl hI (Nat.le_of_ble_eq_true rfl) (fun X C e => ?_)
  unfold f_X2_takes at h
  show GG X Z 3 1 ad (ordE g) 0 [(0, .ref (ad 0)), (1, .int v1)] []
  refine g_iload_n C dX2_takes_0 1 rfl ?_
  refine g_bipush (v := 59) C dX2_takes_1 (by decide) ?_
  refine g_icmp_ne (tgt := 29) C dX2_takes_3 (by decide) (fun c1 => ?_) (fun c1 => ?_)
  · replace h := gi_neg c1 h
    refine g_aload_n C dX2_takes_29 0 rfl ?_
    refine g_getf (v := .int (g 0)) C 0 (by decide) rfl rfl in_X2_takes 0 (by decide) fl_X2_takes_11 rfl dX2_takes_30 ?_
    by_cases c2 : (g 0) = 0
    · replace h := gi_pos c2 h
      refine g_tableIn (tgt := 76) (off := 43) C 0 c2 dX2_takes_33 (by decide) (by decide) (by decide) (by decide) ?_
      refine g_aload_n C dX2_takes_76 0 rfl ?_
      refine g_iload_n C dX2_takes_77 1 rfl ?_
      obtain ⟨r3, g4, er3, h⟩ := gb2 h
      refine g_callWi (rest := []) C gX2_takes_X2_takesLetter rfl ok_X2_takesLetter ⟨by decide, by decide⟩ ⟨rfl, rfl⟩ 0 (by decide) rfl rfl (fun hI => cn_X2_takesLetter X.2.1 Z ad hI g v1 er3) rfl dX2_takes_78 rfl (Nat.le_of_ble_eq_true rfl) ?_
      obtain ⟨b5, h⟩ := gguard h
      cases h
      exact g_zret C e (g_b01 b5) dX2_takes_81
    · replace h := gi_neg c2 h
      by_cases c6 : (g 0) = 1
      · replace h := gi_pos c6 h
        refine g_tableIn (tgt := 82) (off := 49) C 1 c6 dX2_takes_33 (by decide) (by decide) (by decide) (by decide) ?_
        refine g_aload_n C dX2_takes_82 0 rfl ?_
        refine g_iload_n C dX2_takes_83 1 rfl ?_
        obtain ⟨r7, g8, er7, h⟩ := gb2 h
        refine g_callWi (rest := []) C gX2_takes_X2_takesFile rfl ok_X2_takesFile ⟨by decide, by decide⟩ ⟨rfl, rfl⟩ 0 (by decide) rfl rfl (fun hI => cn_X2_takesFile X.2.1 Z ad hI g v1 er7) rfl dX2_takes_84 rfl (Nat.le_of_ble_eq_true rfl) ?_
        obtain ⟨b9, h⟩ := gguard h
        cases h
        exact g_zret C e (g_b01 b9) dX2_takes_87
      · replace h := gi_neg c6 h
        by_cases c10 : (g 0) = 2
        · replace h := gi_pos c10 h
          refine g_tableIn (tgt := 88) (off := 55) C 2 c10 dX2_takes_33 (by decide) (by decide) (by decide) (by decide) ?_
          refine g_aload_n C dX2_takes_88 0 rfl ?_
          refine g_iload_n C dX2_takes_89 1 rfl ?_
          refine g_bipush (v := 58) C dX2_takes_90 (by decide) ?_
          refine g_iconst (v := 3) C dX2_takes_92 (by decide) ?_
          obtain ⟨r11, g12, er11, h⟩ := gb2 h
          refine g_callWi (rest := []) C gX2_takes_X2_takesMark rfl ok_X2_takesMark ⟨by decide, by decide⟩ ⟨rfl, rfl⟩ 0 (by decide) rfl rfl (fun hI => cn_X2_takesMark X.2.1 Z ad hI g v1 58 3 er11) rfl dX2_takes_93 rfl (Nat.le_of_ble_eq_true rfl) ?_
          obtain ⟨b13, h⟩ := gguard h
          cases h
          exact g_zret C e (g_b01 b13) dX2_takes_96
        · replace h := gi_neg c10 h
          by_cases c14 : (g 0) = 3
          · replace h := gi_pos c14 h
            refine g_tableIn (tgt := 97) (off := 64) C 3 c14 dX2_takes_33 (by decide) (by decide) (by decide) (by decide) ?_
            refine g_aload_n C dX2_takes_97 0 rfl ?_
            refine g_iload_n C dX2_takes_98 1 rfl ?_
            obtain ⟨r15, g16, er15, h⟩ := gb2 h
            refine g_callWi (rest := []) C gX2_takes_X2_takesFirst rfl ok_X2_takesFirst ⟨by decide, by decide⟩ ⟨rfl, rfl⟩ 0 (by decide) rfl rfl (fun hI => cn_X2_takesFirst X.2.1 Z ad hI g v1 er15) rfl dX2_takes_99 rfl (Nat.le_of_ble_eq_true rfl) ?_
            obtain ⟨b17, h⟩ := gguard h
            cases h
            exact g_zret C e (g_b01 b17) dX2_takes_102
          · replace h := gi_neg c14 h
            by_cases c18 : (g 0) = 4
            · replace h := gi_pos c18 h
              refine g_tableIn (tgt := 103) (off := 70) C 4 c18 dX2_takes_33 (by decide) (by decide) (by decide) (by decide) ?_
              refine g_aload_n C dX2_takes_103 0 rfl ?_
              refine g_iload_n C dX2_takes_104 1 rfl ?_
              obtain ⟨r19, g20, er19, h⟩ := gb2 h
              refine g_callWi (rest := []) C gX2_takes_X2_takesMoreOfFirst rfl ok_X2_takesMoreOfFirst ⟨by decide, by decide⟩ ⟨rfl, rfl⟩ 0 (by decide) rfl rfl (fun hI => cn_X2_takesMoreOfFirst X.2.1 Z ad hI g v1 er19) rfl dX2_takes_105 rfl (Nat.le_of_ble_eq_true rfl) ?_
              obtain ⟨b21, h⟩ := gguard h
              cases h
              exact g_zret C e (g_b01 b21) dX2_takes_108
            · replace h := gi_neg c18 h
              by_cases c22 : (g 0) = 5
              · replace h := gi_pos c22 h
                refine g_tableIn (tgt := 109) (off := 76) C 5 c22 dX2_takes_33 (by decide) (by decide) (by decide) (by decide) ?_
                refine g_aload_n C dX2_takes_109 0 rfl ?_
                refine g_iload_n C dX2_takes_110 1 rfl ?_
                obtain ⟨r23, g24, er23, h⟩ := gb2 h
                refine g_callWi (rest := []) C gX2_takes_X2_takesSecond rfl ok_X2_takesSecond ⟨by decide, by decide⟩ ⟨rfl, rfl⟩ 0 (by decide) rfl rfl (fun hI => cn_X2_takesSecond X.2.1 Z ad hI g v1 er23) rfl dX2_takes_111 rfl (Nat.le_of_ble_eq_true rfl) ?_
                obtain ⟨b25, h⟩ := gguard h
                cases h
                exact g_zret C e (g_b01 b25) dX2_takes_114
              · replace h := gi_neg c22 h
                by_cases c26 : (g 0) = 6
                · replace h := gi_pos c26 h
                  refine g_tableIn (tgt := 115) (off := 82) C 6 c26 dX2_takes_33 (by decide) (by decide) (by decide) (by decide) ?_
                  refine g_aload_n C dX2_takes_115 0 rfl ?_
                  refine g_iload_n C dX2_takes_116 1 rfl ?_
                  obtain ⟨r27, g28, er27, h⟩ := gb2 h
                  refine g_callWi (rest := []) C gX2_takes_X2_takesMoreOfSecond rfl ok_X2_takesMoreOfSecond ⟨by decide, by decide⟩ ⟨rfl, rfl⟩ 0 (by decide) rfl rfl (fun hI => cn_X2_takesMoreOfSecond X.2.1 Z ad hI g v1 er27) rfl dX2_takes_117 rfl (Nat.le_of_ble_eq_true rfl) ?_
                  obtain ⟨b29, h⟩ := gguard h
                  cases h
                  exact g_zret C e (g_b01 b29) dX2_takes_120
                · replace h := gi_neg c26 h
                  refine g_tableOut (tgt := 121) C dX2_takes_33 (by have nc2 := g_ne (a := 0) c2 (by decide); have nc6 := g_ne (a := 1) c6 (by decide); have nc10 := g_ne (a := 2) c10 (by decide); have nc14 := g_ne (a := 3) c14 (by decide); have nc18 := g_ne (a := 4) c18 (by decide); have nc22 := g_ne (a := 5) c22 (by decide); have nc26 := g_ne (a := 6) c26 (by decide); omega) (by decide) ?_
                  refine g_iconst (v := 0) C dX2_takes_121 (by decide) ?_
                  cases h
                  exact g_zret C e rfl dX2_takes_122
  · replace h := gi_pos c1 h
    refine g_aload_n C dX2_takes_6 0 rfl ?_
    obtain ⟨r30, er30, h⟩ := gb1 h
    refine g_callWi (rest := []) C gX2_takes_X2_isWhole rfl ok_X2_isWhole ⟨by decide, by decide⟩ ⟨rfl, rfl⟩ 0 (by decide) rfl rfl (fun hI => cn_X2_isWhole X.2.1 Z ad hI g  er30) rfl dX2_takes_7 rfl (Nat.le_of_ble_eq_true rfl) ?_
    refine g_istore_n C dX2_takes_10 (by decide) [(2, .int r30), (0, .ref (ad 0)), (1, .int v1)] rfl ?_
    refine g_aload_n C dX2_takes_11 1 rfl ?_
    refine g_iload_n C dX2_takes_12 0 rfl ?_
    refine g_if_eq (tgt := 20) C dX2_takes_13 (by decide) (fun c31 => ?_) (fun c31 => ?_)
    · replace h := gi_pos c31 h
      refine g_aload_n C dX2_takes_20 1 rfl ?_
      refine g_getf (v := .int (g 0)) C 0 (by decide) rfl rfl in_X2_takes 0 (by decide) fl_X2_takes_11 rfl dX2_takes_21 ?_
      obtain ⟨g32, eg32, h⟩ := gl h
      refine g_putf C 0 (by decide) rfl rfl in_X2_takes tyX2 tyX2_ok nmX2 0 (by decide) fl_X2_takes_11 rfl rfl rfl (Nat.le_of_ble_eq_true rfl) dX2_takes_24 (ordE g32) (by rw [eg32]; exact ordE_g0) ?_
      refine g_iload_n C dX2_takes_27 0 rfl ?_
      obtain ⟨b33, h⟩ := gguard h
      cases h
      exact g_zret C e (g_b01 b33) dX2_takes_28
    · replace h := gi_neg c31 h
      refine g_iconst (v := 0) C dX2_takes_16 (by decide) ?_
      refine g_goto (tgt := 24) C dX2_takes_17 (by decide) ?_
      obtain ⟨g34, eg34, h⟩ := gl h
      refine g_putf C 0 (by decide) rfl rfl in_X2_takes tyX2 tyX2_ok nmX2 0 (by decide) fl_X2_takes_11 rfl rfl rfl (Nat.le_of_ble_eq_true rfl) dX2_takes_24 (ordE g34) (by rw [eg34]; exact ordE_g0) ?_
      refine g_iload_n C dX2_takes_27 0 rfl ?_
      obtain ⟨b35, h⟩ := gguard h
      cases h
      exact g_zret C e (g_b01 b35) dX2_takes_28
end
section
set_option maxRecDepth 20000 in
theorem ggX4_init_X3_init : GoodIn wsX4_init wsX3_init := goodIn_r _ [11, 12, 2, 3, 13, 14, 15, 16, 17, 18, 19] (by decide +kernel) (by decide +kernel)
set_option maxRecDepth 20000 in
theorem gX4_init_X3_init : GoodIn wsX4_init (wsX3_init) := ggX4_init_X3_init
theorem dX4_init_0 : decode cX4_init 0 = .ok (.aload_n 0, 1) := by decide +kernel
theorem dX4_init_1 : decode cX4_init 1 = .ok (.invokespecial 3, 3) := by decide +kernel
theorem dX4_init_4 : decode cX4_init 4 = .ok (.aload_n 0, 1) := by decide +kernel
theorem dX4_init_5 : decode cX4_init 5 = .ok (.new 9, 3) := by decide +kernel
theorem dX4_init_8 : decode cX4_init 8 = .ok (.dup, 1) := by decide +kernel
theorem dX4_init_9 : decode cX4_init 9 = .ok (.bipush 80, 2) := by decide +kernel
theorem dX4_init_11 : decode cX4_init 11 = .ok (.iconst 0, 1) := by decide +kernel
theorem dX4_init_12 : decode cX4_init 12 = .ok (.invokespecial 11, 3) := by decide +kernel
theorem dX4_init_15 : decode cX4_init 15 = .ok (.putfield 14, 3) := by decide +kernel
theorem dX4_init_18 : decode cX4_init 18 = .ok (.aload_n 0, 1) := by decide +kernel
theorem dX4_init_19 : decode cX4_init 19 = .ok (.iconst 0, 1) := by decide +kernel
theorem dX4_init_20 : decode cX4_init 20 = .ok (.putfield 20, 3) := by decide +kernel
theorem dX4_init_23 : decode cX4_init 23 = .ok (.return_, 1) := by decide +kernel
theorem dX4_length_0 : decode cX4_length 0 = .ok (.aload_n 0, 1) := by decide +kernel
theorem dX4_length_1 : decode cX4_length 1 = .ok (.getfield 20, 3) := by decide +kernel
theorem dX4_length_4 : decode cX4_length 4 = .ok (.ireturn, 1) := by decide +kernel
set_option maxRecDepth 20000 in
theorem ggX4_characterAt_X3_at : GoodIn wsX4_characterAt wsX3_at := goodIn_r _ [6, 7, 10] (by decide +kernel) (by decide +kernel)
set_option maxRecDepth 20000 in
theorem gX4_characterAt_X3_at : GoodIn wsX4_characterAt (wsV RX4 24 RX3 yX3_at wsX3_at) := goodIn_app (goodIn_of _ (by decide +kernel)) ggX4_characterAt_X3_at
theorem dX4_characterAt_0 : decode cX4_characterAt 0 = .ok (.aload_n 0, 1) := by decide +kernel
theorem dX4_characterAt_1 : decode cX4_characterAt 1 = .ok (.getfield 14, 3) := by decide +kernel
theorem dX4_characterAt_4 : decode cX4_characterAt 4 = .ok (.iload_n 1, 1) := by decide +kernel
theorem dX4_characterAt_5 : decode cX4_characterAt 5 = .ok (.invokevirtual 24, 3) := by decide +kernel
theorem dX4_characterAt_8 : decode cX4_characterAt 8 = .ok (.ireturn, 1) := by decide +kernel
set_option maxRecDepth 20000 in
theorem ggX4_addCharacter_X3_put : GoodIn wsX4_addCharacter wsX3_put := goodIn_r _ [7, 8, 11] (by decide +kernel) (by decide +kernel)
set_option maxRecDepth 20000 in
theorem gX4_addCharacter_X3_put : GoodIn wsX4_addCharacter (wsV RX4 28 RX3 yX3_put wsX3_put) := goodIn_app (goodIn_of _ (by decide +kernel)) ggX4_addCharacter_X3_put
theorem dX4_addCharacter_0 : decode cX4_addCharacter 0 = .ok (.aload_n 0, 1) := by decide +kernel
theorem dX4_addCharacter_1 : decode cX4_addCharacter 1 = .ok (.getfield 20, 3) := by decide +kernel
theorem dX4_addCharacter_4 : decode cX4_addCharacter 4 = .ok (.bipush 80, 2) := by decide +kernel
theorem dX4_addCharacter_6 : decode cX4_addCharacter 6 = .ok (.if_icmp .lt 5, 3) := by decide +kernel
theorem dX4_addCharacter_9 : decode cX4_addCharacter 9 = .ok (.iconst 0, 1) := by decide +kernel
theorem dX4_addCharacter_10 : decode cX4_addCharacter 10 = .ok (.ireturn, 1) := by decide +kernel
theorem dX4_addCharacter_11 : decode cX4_addCharacter 11 = .ok (.aload_n 0, 1) := by decide +kernel
theorem dX4_addCharacter_12 : decode cX4_addCharacter 12 = .ok (.getfield 14, 3) := by decide +kernel
theorem dX4_addCharacter_15 : decode cX4_addCharacter 15 = .ok (.aload_n 0, 1) := by decide +kernel
theorem dX4_addCharacter_16 : decode cX4_addCharacter 16 = .ok (.getfield 20, 3) := by decide +kernel
theorem dX4_addCharacter_19 : decode cX4_addCharacter 19 = .ok (.iload_n 1, 1) := by decide +kernel
theorem dX4_addCharacter_20 : decode cX4_addCharacter 20 = .ok (.invokevirtual 28, 3) := by decide +kernel
theorem dX4_addCharacter_23 : decode cX4_addCharacter 23 = .ok (.aload_n 0, 1) := by decide +kernel
theorem dX4_addCharacter_24 : decode cX4_addCharacter 24 = .ok (.dup, 1) := by decide +kernel
theorem dX4_addCharacter_25 : decode cX4_addCharacter 25 = .ok (.getfield 20, 3) := by decide +kernel
theorem dX4_addCharacter_28 : decode cX4_addCharacter 28 = .ok (.iconst 1, 1) := by decide +kernel
theorem dX4_addCharacter_29 : decode cX4_addCharacter 29 = .ok (.iadd, 1) := by decide +kernel
theorem dX4_addCharacter_30 : decode cX4_addCharacter 30 = .ok (.putfield 20, 3) := by decide +kernel
theorem dX4_addCharacter_33 : decode cX4_addCharacter 33 = .ok (.iconst 1, 1) := by decide +kernel
theorem dX4_addCharacter_34 : decode cX4_addCharacter 34 = .ok (.ireturn, 1) := by decide +kernel
theorem dX4_empty_0 : decode cX4_empty 0 = .ok (.aload_n 0, 1) := by decide +kernel
theorem dX4_empty_1 : decode cX4_empty 1 = .ok (.iconst 0, 1) := by decide +kernel
theorem dX4_empty_2 : decode cX4_empty 2 = .ok (.putfield 20, 3) := by decide +kernel
theorem dX4_empty_5 : decode cX4_empty 5 = .ok (.return_, 1) := by decide +kernel
set_option maxRecDepth 20000 in
theorem ggX4_firstFault_X2_begin : GoodIn wsX4_firstFault wsX2_begin := goodIn_r _ [7, 8, 61, 62, 63, 64, 65] (by decide +kernel) (by decide +kernel)
set_option maxRecDepth 20000 in
theorem gX4_firstFault_X2_begin : GoodIn wsX4_firstFault (wsV RX4 31 RX2 yX2_begin wsX2_begin) := goodIn_app (goodIn_of _ (by decide +kernel)) ggX4_firstFault_X2_begin
set_option maxRecDepth 20000 in
theorem ggX4_firstFault_X3_at : GoodIn wsX4_firstFault wsX3_at := goodIn_r _ [13, 14, 66] (by decide +kernel) (by decide +kernel)
set_option maxRecDepth 20000 in
theorem gX4_firstFault_X3_at : GoodIn wsX4_firstFault (wsV RX4 24 RX3 yX3_at wsX3_at) := goodIn_app (goodIn_of _ (by decide +kernel)) ggX4_firstFault_X3_at
set_option maxRecDepth 20000 in
theorem ggX4_firstFault_X2_takes : GoodIn wsX4_firstFault wsX2_takes := goodIn_r _ [18, 8, 19, 20, 21, 6, 22, 23, 24, 25, 26, 27, 28, 29, 30, 31, 32, 33, 34, 35, 36, 37, 38, 39, 40, 41, 42, 43, 44, 45, 46, 47, 48, 49, 50, 51, 52, 53, 54, 55, 56, 57, 61, 62, 63, 64, 65] (by decide +kernel) (by decide +kernel)
set_option maxRecDepth 20000 in
theorem gX4_firstFault_X2_takes : GoodIn wsX4_firstFault (wsV RX4 36 RX2 yX2_takes wsX2_takes) := goodIn_app (goodIn_of _ (by decide +kernel)) ggX4_firstFault_X2_takes
set_option maxRecDepth 20000 in
theorem ggX4_firstFault_X2_isWhole : GoodIn wsX4_firstFault wsX2_isWhole := goodIn_r _ [22, 8, 23, 61, 62, 63, 64, 65] (by decide +kernel) (by decide +kernel)
set_option maxRecDepth 20000 in
theorem gX4_firstFault_X2_isWhole : GoodIn wsX4_firstFault (wsV RX4 40 RX2 yX2_isWhole wsX2_isWhole) := goodIn_app (goodIn_of _ (by decide +kernel)) ggX4_firstFault_X2_isWhole
theorem dX4_firstFault_0 : decode cX4_firstFault 0 = .ok (.aload_n 1, 1) := by decide +kernel
theorem dX4_firstFault_1 : decode cX4_firstFault 1 = .ok (.invokevirtual 31, 3) := by decide +kernel
theorem dX4_firstFault_4 : decode cX4_firstFault 4 = .ok (.iconst 0, 1) := by decide +kernel
theorem dX4_firstFault_5 : decode cX4_firstFault 5 = .ok (.istore_n 2, 1) := by decide +kernel
theorem dX4_firstFault_6 : decode cX4_firstFault 6 = .ok (.iload_n 2, 1) := by decide +kernel
theorem dX4_firstFault_7 : decode cX4_firstFault 7 = .ok (.aload_n 0, 1) := by decide +kernel
theorem dX4_firstFault_8 : decode cX4_firstFault 8 = .ok (.getfield 20, 3) := by decide +kernel
theorem dX4_firstFault_11 : decode cX4_firstFault 11 = .ok (.if_icmp .ge 26, 3) := by decide +kernel
theorem dX4_firstFault_14 : decode cX4_firstFault 14 = .ok (.aload_n 1, 1) := by decide +kernel
theorem dX4_firstFault_15 : decode cX4_firstFault 15 = .ok (.aload_n 0, 1) := by decide +kernel
theorem dX4_firstFault_16 : decode cX4_firstFault 16 = .ok (.getfield 14, 3) := by decide +kernel
theorem dX4_firstFault_19 : decode cX4_firstFault 19 = .ok (.iload_n 2, 1) := by decide +kernel
theorem dX4_firstFault_20 : decode cX4_firstFault 20 = .ok (.invokevirtual 24, 3) := by decide +kernel
theorem dX4_firstFault_23 : decode cX4_firstFault 23 = .ok (.invokevirtual 36, 3) := by decide +kernel
theorem dX4_firstFault_26 : decode cX4_firstFault 26 = .ok (.ifCond .ne 5, 3) := by decide +kernel
theorem dX4_firstFault_29 : decode cX4_firstFault 29 = .ok (.iload_n 2, 1) := by decide +kernel
theorem dX4_firstFault_30 : decode cX4_firstFault 30 = .ok (.ireturn, 1) := by decide +kernel
theorem dX4_firstFault_31 : decode cX4_firstFault 31 = .ok (.iinc 2 1, 3) := by decide +kernel
theorem dX4_firstFault_34 : decode cX4_firstFault 34 = .ok (.goto (-28), 3) := by decide +kernel
theorem dX4_firstFault_37 : decode cX4_firstFault 37 = .ok (.aload_n 1, 1) := by decide +kernel
theorem dX4_firstFault_38 : decode cX4_firstFault 38 = .ok (.invokevirtual 40, 3) := by decide +kernel
theorem dX4_firstFault_41 : decode cX4_firstFault 41 = .ok (.ifCond .eq 8, 3) := by decide +kernel
theorem dX4_firstFault_44 : decode cX4_firstFault 44 = .ok (.bipush (-5), 2) := by decide +kernel
theorem dX4_firstFault_46 : decode cX4_firstFault 46 = .ok (.goto 7, 3) := by decide +kernel
theorem dX4_firstFault_49 : decode cX4_firstFault 49 = .ok (.aload_n 0, 1) := by decide +kernel
theorem dX4_firstFault_50 : decode cX4_firstFault 50 = .ok (.getfield 20, 3) := by decide +kernel
theorem dX4_firstFault_53 : decode cX4_firstFault 53 = .ok (.ireturn, 1) := by decide +kernel
theorem ok_X4_length : gOk yX4_length RX4 0 := by refine ⟨?_, ?_, ?_, ?_⟩ <;> decide +kernel
theorem ok_X4_characterAt : gOk yX4_characterAt RX4 1 := by refine ⟨?_, ?_, ?_, ?_⟩ <;> decide +kernel
theorem ok_X4_addCharacter : gOk yX4_addCharacter RX4 1 := by refine ⟨?_, ?_, ?_, ?_⟩ <;> decide +kernel
theorem ok_X4_empty : gOk yX4_empty RX4 0 := by refine ⟨?_, ?_, ?_, ?_⟩ <;> decide +kernel
theorem ok_X4_firstFault : gOk yX4_firstFault RX4 1 := by refine ⟨?_, ?_, ?_, ?_⟩ <;> decide +kernel
abbrev rm_X4_length : Room := ({ frames := 0, cells := 0, slots := 0, locals := 0 } : Room)
def f_X4_length (cs : Nat → Int32) (len : Int32) (g : Nat → Int32) : Option Int32 := some len
set_option maxRecDepth 20000 in
theorem in_X4_length : ∀ w ∈ wsX40, w ∈ wsX4_length := by decide +kernel
set_option maxRecDepth 20000 in
theorem fl_X4_length_20 : Cond.fieldLink RX4 20 (TX4 1).1 (TX4 1).2.1 (TX4 1).2.2.1 ∈ wsX4_length := by decide +kernel
set_option maxHeartbeats 4000000 in
set_option maxRecDepth 100000 in
theorem cn_X4_length (l : Launch) (Z : gZ) (ad : Nat → Nat) (hI : gInj 4 ad) (cs : Nat → Int32) (len : Int32) (g : Nat → Int32) {r : Int32} (h : f_X4_length cs len g = some r) : gI l yX4_length wsX4_length rm_X4_length Z 4 ad [.ref (ad 0)] (scrE Z.2.1 ad cs len g) r (scrE Z.2.1 ad cs len g) := by
  refine g_entryI (cc := cX4_length) (maxL := 1) (by decide +kernel) rfl hI (Nat.le_of_ble_eq_true rfl) (fun X C e => ?_)
  unfold f_X4_length at h
  show GG X Z 1 4 ad (scrE Z.2.1 ad cs len g) 0 [(0, .ref (ad 0))] []
  refine g_aload_n C dX4_length_0 0 rfl ?_
  refine g_getf (v := .int len) C 0 (by decide) rfl rfl in_X4_length 1 (by decide) fl_X4_length_20 rfl dX4_length_1 ?_
  cases h
  exact g_iret C e dX4_length_4
abbrev rm_X4_characterAt : Room := ({ frames := 1, cells := 0, slots := 0, locals := 21 } : Room)
def f_X4_characterAt (cs : Nat → Int32) (len : Int32) (g : Nat → Int32) (v1 : Int32) : Option Int32 := gb (f_X3_at 80 cs v1) (fun r1 => some r1)
set_option maxRecDepth 20000 in
theorem in_X4_characterAt : ∀ w ∈ wsX40, w ∈ wsX4_characterAt := by decide +kernel
set_option maxRecDepth 20000 in
theorem fl_X4_characterAt_14 : Cond.fieldLink RX4 14 (TX4 0).1 (TX4 0).2.1 (TX4 0).2.2.1 ∈ wsX4_characterAt := by decide +kernel
set_option maxHeartbeats 4000000 in
set_option maxRecDepth 100000 in
theorem cn_X4_characterAt (l : Launch) (Z : gZ) (ad : Nat → Nat) (hI : gInj 4 ad) (cs : Nat → Int32) (len : Int32) (g : Nat → Int32) (v1 : Int32) {r : Int32} (h : f_X4_characterAt cs len g v1 = some r) : gI l yX4_characterAt wsX4_characterAt rm_X4_characterAt Z 4 ad [.ref (ad 0), .int v1] (scrE Z.2.1 ad cs len g) r (scrE Z.2.1 ad cs len g) := by
  refine g_entryI (cc := cX4_characterAt) (maxL := 2) (by decide +kernel) rfl hI (Nat.le_of_ble_eq_true rfl) (fun X C e => ?_)
  unfold f_X4_characterAt at h
  show GG X Z 2 4 ad (scrE Z.2.1 ad cs len g) 0 [(0, .ref (ad 0)), (1, .int v1)] []
  refine g_aload_n C dX4_characterAt_0 0 rfl ?_
  refine g_getf (v := .ref (ad 1)) C 0 (by decide) rfl rfl in_X4_characterAt 0 (by decide) fl_X4_characterAt_14 rfl dX4_characterAt_1 ?_
  refine g_iload_n C dX4_characterAt_4 1 rfl ?_
  obtain ⟨r1, er1, h⟩ := gb1 h
  refine g_callVi (rest := []) C gX4_characterAt_X3_at rfl ok_X3_at ⟨by decide, by decide⟩ ⟨rfl, rfl⟩ 1 2 (by decide) (adc := fun i => ad (1 + i)) (fun _ _ => rfl) scrE_row 0 (by decide) rfl rfl (fun hI => cn_X3_at X.2.1 Z (fun i => ad (1 + i)) hI 80 cs v1 er1) rfl dX4_characterAt_5 rfl (Nat.le_of_ble_eq_true rfl) (scrE Z.2.1 ad cs len g) scrE_id ?_
  cases h
  exact g_iret C e dX4_characterAt_8
abbrev rm_X4_addCharacter : Room := ({ frames := 1, cells := 0, slots := 0, locals := 22 } : Room)
def f_X4_addCharacter (cs : Nat → Int32) (len : Int32) (g : Nat → Int32) (v1 : Int32) : Option (Int32 × (Nat → Int32) × Int32) := if len < 80 then gb (f_X3_put 80 cs len v1) (fun w2 => glet (len + 1) (fun len3 => some (1, w2, len3))) else some (0, cs, len)
set_option maxRecDepth 20000 in
theorem in_X4_addCharacter : ∀ w ∈ wsX40, w ∈ wsX4_addCharacter := by decide +kernel
set_option maxRecDepth 20000 in
theorem fl_X4_addCharacter_20 : Cond.fieldLink RX4 20 (TX4 1).1 (TX4 1).2.1 (TX4 1).2.2.1 ∈ wsX4_addCharacter := by decide +kernel
set_option maxRecDepth 20000 in
theorem fl_X4_addCharacter_14 : Cond.fieldLink RX4 14 (TX4 0).1 (TX4 0).2.1 (TX4 0).2.2.1 ∈ wsX4_addCharacter := by decide +kernel
set_option maxHeartbeats 4000000 in
set_option maxRecDepth 100000 in
theorem cn_X4_addCharacter (l : Launch) (Z : gZ) (ad : Nat → Nat) (hI : gInj 4 ad) (cs : Nat → Int32) (len : Int32) (g : Nat → Int32) (v1 : Int32) {r : Int32} {cs' : Nat → Int32} {len' : Int32} (h : f_X4_addCharacter cs len g v1 = some (r, cs', len')) : gI l yX4_addCharacter wsX4_addCharacter rm_X4_addCharacter Z 4 ad [.ref (ad 0), .int v1] (scrE Z.2.1 ad cs len g) r (scrE Z.2.1 ad cs' len' g) := by
  refine g_entryI (cc := cX4_addCharacter) (maxL := 2) (by decide +kernel) rfl hI (Nat.le_of_ble_eq_true rfl) (fun X C e => ?_)
  unfold f_X4_addCharacter at h
  show GG X Z 2 4 ad (scrE Z.2.1 ad cs len g) 0 [(0, .ref (ad 0)), (1, .int v1)] []
  refine g_aload_n C dX4_addCharacter_0 0 rfl ?_
  refine g_getf (v := .int len) C 0 (by decide) rfl rfl in_X4_addCharacter 1 (by decide) fl_X4_addCharacter_20 rfl dX4_addCharacter_1 ?_
  refine g_bipush (v := 80) C dX4_addCharacter_4 (by decide) ?_
  refine g_icmp_lt (tgt := 11) C dX4_addCharacter_6 (by decide) (fun c1 => ?_) (fun c1 => ?_)
  · replace h := gi_pos c1 h
    refine g_aload_n C dX4_addCharacter_11 0 rfl ?_
    refine g_getf (v := .ref (ad 1)) C 0 (by decide) rfl rfl in_X4_addCharacter 0 (by decide) fl_X4_addCharacter_14 rfl dX4_addCharacter_12 ?_
    refine g_aload_n C dX4_addCharacter_15 0 rfl ?_
    refine g_getf (v := .int len) C 0 (by decide) rfl rfl in_X4_addCharacter 1 (by decide) fl_X4_addCharacter_20 rfl dX4_addCharacter_16 ?_
    refine g_iload_n C dX4_addCharacter_19 1 rfl ?_
    obtain ⟨w2, ew2, h⟩ := gb1 h
    refine g_callVv (rest := []) C gX4_addCharacter_X3_put rfl ok_X3_put ⟨by decide, by decide⟩ ⟨rfl, rfl⟩ 1 2 (by decide) (adc := fun i => ad (1 + i)) (fun _ _ => rfl) scrE_row 0 (by decide) rfl rfl (fun hI => cn_X3_put X.2.1 Z (fun i => ad (1 + i)) hI 80 cs len v1 ew2) rfl dX4_addCharacter_20 rfl (Nat.le_of_ble_eq_true rfl) (scrE Z.2.1 ad w2 len g) scrE_up ?_
    refine g_aload_n C dX4_addCharacter_23 0 rfl ?_
    refine g_dup C dX4_addCharacter_24 rfl ?_
    refine g_getf (v := .int len) C 0 (by decide) rfl rfl in_X4_addCharacter 1 (by decide) fl_X4_addCharacter_20 rfl dX4_addCharacter_25 ?_
    refine g_iconst (v := 1) C dX4_addCharacter_28 (by decide) ?_
    refine g_iadd C dX4_addCharacter_29 ?_
    obtain ⟨len3, elen3, h⟩ := gl h
    refine g_putf C 0 (by decide) rfl rfl in_X4_addCharacter tyX4 tyX4_ok nmX4 1 (by decide) fl_X4_addCharacter_20 rfl rfl rfl (Nat.le_of_ble_eq_true rfl) dX4_addCharacter_30 (scrE Z.2.1 ad w2 len3 g) (by rw [elen3]; exact scrE_len) ?_
    refine g_iconst (v := 1) C dX4_addCharacter_33 (by decide) ?_
    cases h
    exact g_zret C e rfl dX4_addCharacter_34
  · replace h := gi_neg c1 h
    refine g_iconst (v := 0) C dX4_addCharacter_9 (by decide) ?_
    cases h
    exact g_zret C e rfl dX4_addCharacter_10
abbrev rm_X4_empty : Room := ({ frames := 0, cells := 0, slots := 0, locals := 0 } : Room)
def f_X4_empty (cs : Nat → Int32) (len : Int32) (g : Nat → Int32) : Option Int32 := glet 0 (fun len1 => some len1)
set_option maxRecDepth 20000 in
theorem in_X4_empty : ∀ w ∈ wsX40, w ∈ wsX4_empty := by decide +kernel
set_option maxRecDepth 20000 in
theorem fl_X4_empty_20 : Cond.fieldLink RX4 20 (TX4 1).1 (TX4 1).2.1 (TX4 1).2.2.1 ∈ wsX4_empty := by decide +kernel
set_option maxHeartbeats 4000000 in
set_option maxRecDepth 100000 in
theorem cn_X4_empty (l : Launch) (Z : gZ) (ad : Nat → Nat) (hI : gInj 4 ad) (cs : Nat → Int32) (len : Int32) (g : Nat → Int32) {len' : Int32} (h : f_X4_empty cs len g = some len') : gV l yX4_empty wsX4_empty rm_X4_empty Z 4 ad [.ref (ad 0)] (scrE Z.2.1 ad cs len g) (scrE Z.2.1 ad cs len' g) := by
  refine g_entryV (cc := cX4_empty) (maxL := 1) (by decide +kernel) rfl hI (Nat.le_of_ble_eq_true rfl) (fun X C e => ?_)
  unfold f_X4_empty at h
  show GG X Z 1 4 ad (scrE Z.2.1 ad cs len g) 0 [(0, .ref (ad 0))] []
  refine g_aload_n C dX4_empty_0 0 rfl ?_
  refine g_iconst (v := 0) C dX4_empty_1 (by decide) ?_
  obtain ⟨len1, elen1, h⟩ := gl h
  refine g_putf C 0 (by decide) rfl rfl in_X4_empty tyX4 tyX4_ok nmX4 1 (by decide) fl_X4_empty_20 rfl rfl rfl (Nat.le_of_ble_eq_true rfl) dX4_empty_2 (scrE Z.2.1 ad cs len1 g) (by rw [elen1]; exact scrE_len) ?_
  cases h
  exact g_vret C e dX4_empty_5
abbrev rm_X4_firstFault : Room := ({ frames := 3, cells := 0, slots := 0, locals := 67 } : Room)
def f_X4_firstFault_L6 (cs : Nat → Int32) (len : Int32) : Nat → Int32 → (Nat → Int32) → Option (Int32 × (Nat → Int32))
  | 0, _, _ => none
  | fu + 1, v2, g => if len ≤ v2 then gb (f_X2_isWhole g) (fun r3 => if r3 = 0 then some (len, g) else some ((-5), g)) else gb (f_X3_at 80 cs v2) (fun r5 => gbb2 (f_X2_takes g r5) (fun r6 g7 => if r6 = 0 then some (v2, g7) else glet (v2 + 1) (fun x9 => f_X4_firstFault_L6 cs len fu x9 g7)))
def f_X4_firstFault (cs : Nat → Int32) (len : Int32) (g : Nat → Int32) : Option (Int32 × (Nat → Int32)) := gb (f_X2_begin g) (fun g1 => f_X4_firstFault_L6 cs len gFu 0 g1)
set_option maxRecDepth 20000 in
theorem in_X4_firstFault : ∀ w ∈ wsX40, w ∈ wsX4_firstFault := by decide +kernel
set_option maxRecDepth 20000 in
theorem fl_X4_firstFault_20 : Cond.fieldLink RX4 20 (TX4 1).1 (TX4 1).2.1 (TX4 1).2.2.1 ∈ wsX4_firstFault := by decide +kernel
set_option maxRecDepth 20000 in
theorem fl_X4_firstFault_14 : Cond.fieldLink RX4 14 (TX4 0).1 (TX4 0).2.1 (TX4 0).2.2.1 ∈ wsX4_firstFault := by decide +kernel
set_option maxHeartbeats 4000000 in
set_option maxRecDepth 100000 in
theorem cl_X4_firstFault_L6 {X : gX} {Z : gZ} {ad : Nat → Nat} {cs : Nat → Int32} {len : Int32} {r : Int32} {g' : Nat → Int32} (C : GC X Z cX4_firstFault 3 wsX4_firstFault RX4 rm_X4_firstFault 4 ad) (e : gEI X Z 4 ad .int r (scrE Z.2.1 ad cs len g'))  : ∀ (fu : Nat) (v2 : Int32) (g : Nat → Int32) (h : f_X4_firstFault_L6 cs len fu v2 g = some (r, g')), GG X Z 3 4 ad (scrE Z.2.1 ad cs len g) 6 [(0, .ref (ad 0)), (1, .ref (ad 3)), (2, .int v2)] [] := by
  intro fu
  induction fu with
  | zero => intro v2 g h; cases h
  | succ fu ih =>
    intro v2 g h
    rw [f_X4_firstFault_L6] at h
    refine g_iload_n C dX4_firstFault_6 2 rfl ?_
    refine g_aload_n C dX4_firstFault_7 0 rfl ?_
    refine g_getf (v := .int len) C 0 (by decide) rfl rfl in_X4_firstFault 1 (by decide) fl_X4_firstFault_20 rfl dX4_firstFault_8 ?_
    refine g_icmp_ge (tgt := 37) C dX4_firstFault_11 (by decide) (fun c2 => ?_) (fun c2 => ?_)
    · replace h := gi_pos c2 h
      refine g_aload_n C dX4_firstFault_37 1 rfl ?_
      obtain ⟨r3, er3, h⟩ := gb1 h
      refine g_callVi (rest := []) C gX4_firstFault_X2_isWhole rfl ok_X2_isWhole ⟨by decide, by decide⟩ ⟨rfl, rfl⟩ 3 1 (by decide) (adc := fun i => ad (3 + i)) (fun _ _ => rfl) scrE_ord 0 (by decide) rfl rfl (fun hI => cn_X2_isWhole X.2.1 Z (fun i => ad (3 + i)) hI g  er3) rfl dX4_firstFault_38 rfl (Nat.le_of_ble_eq_true rfl) (scrE Z.2.1 ad cs len g) scrE_gid ?_
      refine g_if_eq (tgt := 49) C dX4_firstFault_41 (by decide) (fun c4 => ?_) (fun c4 => ?_)
      · replace h := gi_pos c4 h
        refine g_aload_n C dX4_firstFault_49 0 rfl ?_
        refine g_getf (v := .int len) C 0 (by decide) rfl rfl in_X4_firstFault 1 (by decide) fl_X4_firstFault_20 rfl dX4_firstFault_50 ?_
        cases h
        exact g_iret C e dX4_firstFault_53
      · replace h := gi_neg c4 h
        refine g_bipush (v := (-5)) C dX4_firstFault_44 (by decide) ?_
        refine g_goto (tgt := 53) C dX4_firstFault_46 (by decide) ?_
        cases h
        exact g_iret C e dX4_firstFault_53
    · replace h := gi_neg c2 h
      refine g_aload_n C dX4_firstFault_14 1 rfl ?_
      refine g_aload_n C dX4_firstFault_15 0 rfl ?_
      refine g_getf (v := .ref (ad 1)) C 0 (by decide) rfl rfl in_X4_firstFault 0 (by decide) fl_X4_firstFault_14 rfl dX4_firstFault_16 ?_
      refine g_iload_n C dX4_firstFault_19 2 rfl ?_
      obtain ⟨r5, er5, h⟩ := gb1 h
      refine g_callVi (rest := [.ref (ad 3)]) C gX4_firstFault_X3_at rfl ok_X3_at ⟨by decide, by decide⟩ ⟨rfl, rfl⟩ 1 2 (by decide) (adc := fun i => ad (1 + i)) (fun _ _ => rfl) scrE_row 0 (by decide) rfl rfl (fun hI => cn_X3_at X.2.1 Z (fun i => ad (1 + i)) hI 80 cs v2 er5) rfl dX4_firstFault_20 rfl (Nat.le_of_ble_eq_true rfl) (scrE Z.2.1 ad cs len g) scrE_id ?_
      obtain ⟨r6, g7, er6, h⟩ := gb2 h
      refine g_callVi (rest := []) C gX4_firstFault_X2_takes rfl ok_X2_takes ⟨by decide, by decide⟩ ⟨rfl, rfl⟩ 3 1 (by decide) (adc := fun i => ad (3 + i)) (fun _ _ => rfl) scrE_ord 0 (by decide) rfl rfl (fun hI => cn_X2_takes X.2.1 Z (fun i => ad (3 + i)) hI g r5 er6) rfl dX4_firstFault_23 rfl (Nat.le_of_ble_eq_true rfl) (scrE Z.2.1 ad cs len g7) scrE_gup ?_
      refine g_if_ne (tgt := 31) C dX4_firstFault_26 (by decide) (fun c8 => ?_) (fun c8 => ?_)
      · replace h := gi_neg c8 h
        obtain ⟨x9, ex9, h⟩ := gl h
        refine g_iinc (v := x9) C dX4_firstFault_31 2 rfl (by rw [ex9]; rfl) (by decide) [(2, .int x9), (0, .ref (ad 0)), (1, .ref (ad 3))] rfl ?_
        refine g_goto (tgt := 6) C dX4_firstFault_34 (by decide) ?_
        exact g_sub [1, 2, 0] rfl (ih x9 g7 h)
      · replace h := gi_pos c8 h
        refine g_iload_n C dX4_firstFault_29 2 rfl ?_
        cases h
        exact g_iret C e dX4_firstFault_30
set_option maxHeartbeats 4000000 in
set_option maxRecDepth 100000 in
theorem cn_X4_firstFault (l : Launch) (Z : gZ) (ad : Nat → Nat) (hI : gInj 4 ad) (cs : Nat → Int32) (len : Int32) (g : Nat → Int32) {r : Int32} {g' : Nat → Int32} (h : f_X4_firstFault cs len g = some (r, g')) : gI l yX4_firstFault wsX4_firstFault rm_X4_firstFault Z 4 ad [.ref (ad 0), .ref (ad 3)] (scrE Z.2.1 ad cs len g) r (scrE Z.2.1 ad cs len g') := by
  refine g_entryI (cc := cX4_firstFault) (maxL := 3) (by decide +kernel) rfl hI (Nat.le_of_ble_eq_true rfl) (fun X C e => ?_)
  unfold f_X4_firstFault at h
  show GG X Z 3 4 ad (scrE Z.2.1 ad cs len g) 0 [(0, .ref (ad 0)), (1, .ref (ad 3))] []
  refine g_aload_n C dX4_firstFault_0 1 rfl ?_
  obtain ⟨g1, eg1, h⟩ := gb1 h
  refine g_callVv (rest := []) C gX4_firstFault_X2_begin rfl ok_X2_begin ⟨by decide, by decide⟩ ⟨rfl, rfl⟩ 3 1 (by decide) (adc := fun i => ad (3 + i)) (fun _ _ => rfl) scrE_ord 0 (by decide) rfl rfl (fun hI => cn_X2_begin X.2.1 Z (fun i => ad (3 + i)) hI g  eg1) rfl dX4_firstFault_1 rfl (Nat.le_of_ble_eq_true rfl) (scrE Z.2.1 ad cs len g1) scrE_gup ?_
  refine g_iconst (v := 0) C dX4_firstFault_4 (by decide) ?_
  refine g_istore_n C dX4_firstFault_5 (by decide) [(2, .int 0), (0, .ref (ad 0)), (1, .ref (ad 3))] rfl ?_
  exact g_sub [1, 2, 0] rfl (cl_X4_firstFault_L6 C e gFu 0 g1 h)
end
