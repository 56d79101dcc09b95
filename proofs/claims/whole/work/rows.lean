section
-- ===== PART A: goes FIRST, ahead of the names: the tables' words, and 'selects' of the private methods out of them =====
/-- a private method of a class that the tables say can be made, by its rows of tables_1 -/
def lw_okq (q : MethodName × Nat) : Prop := (q.1.cls ≠ "java/lang/invoke/MethodHandle" ∧ q.1.cls ≠ "java/lang/invoke/VarHandle") ∧ Cond.instantiable q.1.cls q.2 ∈ tables_1 ∧ Cond.privateMethod q.1 ∈ tables_1 ∧ Cond.instanceMethod q.1 ∈ tables_1
theorem lw_p0 : lw_okq (⟨"VillageLog", "kept", "(I)I"⟩, 3) := ⟨⟨by decide +kernel, by decide +kernel⟩, List.mem_of_getElem? (i := 11) (by decide +kernel), List.mem_of_getElem? (i := 190) (by decide +kernel), List.mem_of_getElem? (i := 191) (by decide +kernel)⟩
theorem lw_p1 : lw_okq (⟨"VillageLog$Village", "isVillager", "(I)Z"⟩, 13) := ⟨⟨by decide +kernel, by decide +kernel⟩, List.mem_of_getElem? (i := 19) (by decide +kernel), List.mem_of_getElem? (i := 209) (by decide +kernel), List.mem_of_getElem? (i := 210) (by decide +kernel)⟩
theorem lw_p2 : lw_okq (⟨"VillageLog$Village", "presentVillagers", "()I"⟩, 13) := ⟨⟨by decide +kernel, by decide +kernel⟩, List.mem_of_getElem? (i := 19) (by decide +kernel), List.mem_of_getElem? (i := 213) (by decide +kernel), List.mem_of_getElem? (i := 214) (by decide +kernel)⟩
theorem lw_p3 : lw_okq (⟨"VillageLog$Village", "drawnWith", "(I)I"⟩, 13) := ⟨⟨by decide +kernel, by decide +kernel⟩, List.mem_of_getElem? (i := 19) (by decide +kernel), List.mem_of_getElem? (i := 263) (by decide +kernel), List.mem_of_getElem? (i := 264) (by decide +kernel)⟩
theorem lw_p4 : lw_okq (⟨"VillageLog$Village", "candidates", "()I"⟩, 13) := ⟨⟨by decide +kernel, by decide +kernel⟩, List.mem_of_getElem? (i := 19) (by decide +kernel), List.mem_of_getElem? (i := 267) (by decide +kernel), List.mem_of_getElem? (i := 268) (by decide +kernel)⟩
theorem lw_p5 : lw_okq (⟨"VillageLog$Village", "candidatesBefore", "(I)I"⟩, 13) := ⟨⟨by decide +kernel, by decide +kernel⟩, List.mem_of_getElem? (i := 19) (by decide +kernel), List.mem_of_getElem? (i := 271) (by decide +kernel), List.mem_of_getElem? (i := 272) (by decide +kernel)⟩
theorem lw_p6 : lw_okq (⟨"VillageLog$Village", "isChanging", "()Z"⟩, 13) := ⟨⟨by decide +kernel, by decide +kernel⟩, List.mem_of_getElem? (i := 19) (by decide +kernel), List.mem_of_getElem? (i := 287) (by decide +kernel), List.mem_of_getElem? (i := 288) (by decide +kernel)⟩
theorem lw_p7 : lw_okq (⟨"VillageLog$Village", "mayAct", "(I)Z"⟩, 13) := ⟨⟨by decide +kernel, by decide +kernel⟩, List.mem_of_getElem? (i := 19) (by decide +kernel), List.mem_of_getElem? (i := 291) (by decide +kernel), List.mem_of_getElem? (i := 292) (by decide +kernel)⟩
theorem lw_p8 : lw_okq (⟨"VillageLog$Village", "isElder", "(I)Z"⟩, 13) := ⟨⟨by decide +kernel, by decide +kernel⟩, List.mem_of_getElem? (i := 19) (by decide +kernel), List.mem_of_getElem? (i := 295) (by decide +kernel), List.mem_of_getElem? (i := 296) (by decide +kernel)⟩
theorem lw_p9 : lw_okq (⟨"VillageLog$Village", "isPresent", "(I)Z"⟩, 13) := ⟨⟨by decide +kernel, by decide +kernel⟩, List.mem_of_getElem? (i := 19) (by decide +kernel), List.mem_of_getElem? (i := 299) (by decide +kernel), List.mem_of_getElem? (i := 300) (by decide +kernel)⟩
theorem lw_p10 : lw_okq (⟨"VillageLog$Village", "addEntry", "(II)V"⟩, 13) := ⟨⟨by decide +kernel, by decide +kernel⟩, List.mem_of_getElem? (i := 19) (by decide +kernel), List.mem_of_getElem? (i := 313) (by decide +kernel), List.mem_of_getElem? (i := 314) (by decide +kernel)⟩
theorem lw_p11 : lw_okq (⟨"VillageLog$Village", "agree", "()I"⟩, 13) := ⟨⟨by decide +kernel, by decide +kernel⟩, List.mem_of_getElem? (i := 19) (by decide +kernel), List.mem_of_getElem? (i := 317) (by decide +kernel), List.mem_of_getElem? (i := 318) (by decide +kernel)⟩
theorem lw_p12 : lw_okq (⟨"VillageLog$Village", "isSupported", "(IZ)Z"⟩, 13) := ⟨⟨by decide +kernel, by decide +kernel⟩, List.mem_of_getElem? (i := 19) (by decide +kernel), List.mem_of_getElem? (i := 321) (by decide +kernel), List.mem_of_getElem? (i := 322) (by decide +kernel)⟩
theorem lw_p13 : lw_okq (⟨"VillageLog$Village", "holders", "(LVillageLog$Council;IZ)I"⟩, 13) := ⟨⟨by decide +kernel, by decide +kernel⟩, List.mem_of_getElem? (i := 19) (by decide +kernel), List.mem_of_getElem? (i := 325) (by decide +kernel), List.mem_of_getElem? (i := 326) (by decide +kernel)⟩
theorem lw_p14 : lw_okq (⟨"VillageLog$Village", "holds", "(II)Z"⟩, 13) := ⟨⟨by decide +kernel, by decide +kernel⟩, List.mem_of_getElem? (i := 19) (by decide +kernel), List.mem_of_getElem? (i := 337) (by decide +kernel), List.mem_of_getElem? (i := 338) (by decide +kernel)⟩
theorem lw_p15 : lw_okq (⟨"VillageLog$Village", "oldCounts", "(I)Z"⟩, 13) := ⟨⟨by decide +kernel, by decide +kernel⟩, List.mem_of_getElem? (i := 19) (by decide +kernel), List.mem_of_getElem? (i := 345) (by decide +kernel), List.mem_of_getElem? (i := 346) (by decide +kernel)⟩
def lw_privs_1 : List (MethodName × Nat) := [(⟨"VillageLog", "kept", "(I)I"⟩, 3), (⟨"VillageLog$Village", "isVillager", "(I)Z"⟩, 13), (⟨"VillageLog$Village", "presentVillagers", "()I"⟩, 13), (⟨"VillageLog$Village", "drawnWith", "(I)I"⟩, 13), (⟨"VillageLog$Village", "candidates", "()I"⟩, 13), (⟨"VillageLog$Village", "candidatesBefore", "(I)I"⟩, 13), (⟨"VillageLog$Village", "isChanging", "()Z"⟩, 13), (⟨"VillageLog$Village", "mayAct", "(I)Z"⟩, 13), (⟨"VillageLog$Village", "isElder", "(I)Z"⟩, 13), (⟨"VillageLog$Village", "isPresent", "(I)Z"⟩, 13), (⟨"VillageLog$Village", "addEntry", "(II)V"⟩, 13), (⟨"VillageLog$Village", "agree", "()I"⟩, 13), (⟨"VillageLog$Village", "isSupported", "(IZ)Z"⟩, 13), (⟨"VillageLog$Village", "holders", "(LVillageLog$Council;IZ)I"⟩, 13), (⟨"VillageLog$Village", "holds", "(II)Z"⟩, 13), (⟨"VillageLog$Village", "oldCounts", "(I)Z"⟩, 13)]
theorem lw_r1 : ∀ q ∈ lw_privs_1, lw_okq q := List.forall_mem_cons.mpr ⟨lw_p0, List.forall_mem_cons.mpr ⟨lw_p1, List.forall_mem_cons.mpr ⟨lw_p2, List.forall_mem_cons.mpr ⟨lw_p3, List.forall_mem_cons.mpr ⟨lw_p4, List.forall_mem_cons.mpr ⟨lw_p5, List.forall_mem_cons.mpr ⟨lw_p6, List.forall_mem_cons.mpr ⟨lw_p7, List.forall_mem_cons.mpr ⟨lw_p8, List.forall_mem_cons.mpr ⟨lw_p9, List.forall_mem_cons.mpr ⟨lw_p10, List.forall_mem_cons.mpr ⟨lw_p11, List.forall_mem_cons.mpr ⟨lw_p12, List.forall_mem_cons.mpr ⟨lw_p13, List.forall_mem_cons.mpr ⟨lw_p14, List.forall_mem_cons.mpr ⟨lw_p15, fun _ h => absurd h List.not_mem_nil⟩⟩⟩⟩⟩⟩⟩⟩⟩⟩⟩⟩⟩⟩⟩⟩
theorem lw_p16 : lw_okq (⟨"VillageLog$Village", "endChange", "()V"⟩, 13) := ⟨⟨by decide +kernel, by decide +kernel⟩, List.mem_of_getElem? (i := 19) (by decide +kernel), List.mem_of_getElem? (i := 349) (by decide +kernel), List.mem_of_getElem? (i := 350) (by decide +kernel)⟩
theorem lw_p17 : lw_okq (⟨"VillageLog$Village", "isEntry", "(I)Z"⟩, 13) := ⟨⟨by decide +kernel, by decide +kernel⟩, List.mem_of_getElem? (i := 19) (by decide +kernel), List.mem_of_getElem? (i := 385) (by decide +kernel), List.mem_of_getElem? (i := 386) (by decide +kernel)⟩
theorem lw_p18 : lw_okq (⟨"VillageLog$Text", "next", "()I"⟩, 6) := ⟨⟨by decide +kernel, by decide +kernel⟩, List.mem_of_getElem? (i := 126) (by decide +kernel), List.mem_of_getElem? (i := 448) (by decide +kernel), List.mem_of_getElem? (i := 449) (by decide +kernel)⟩
theorem lw_p19 : lw_okq (⟨"VillageLog$Text", "readNumber", "()I"⟩, 6) := ⟨⟨by decide +kernel, by decide +kernel⟩, List.mem_of_getElem? (i := 126) (by decide +kernel), List.mem_of_getElem? (i := 452) (by decide +kernel), List.mem_of_getElem? (i := 453) (by decide +kernel)⟩
theorem lw_p20 : lw_okq (⟨"VillageLog$Text", "readSign", "(I)Z"⟩, 6) := ⟨⟨by decide +kernel, by decide +kernel⟩, List.mem_of_getElem? (i := 126) (by decide +kernel), List.mem_of_getElem? (i := 459) (by decide +kernel), List.mem_of_getElem? (i := 460) (by decide +kernel)⟩
theorem lw_p21 : lw_okq (⟨"VillageLog", "failedRun", "(I)I"⟩, 3) := ⟨⟨by decide +kernel, by decide +kernel⟩, List.mem_of_getElem? (i := 11) (by decide +kernel), List.mem_of_getElem? (i := 463) (by decide +kernel), List.mem_of_getElem? (i := 464) (by decide +kernel)⟩
theorem lw_p22 : lw_okq (⟨"VillageLog", "callCommand", "(III)I"⟩, 3) := ⟨⟨by decide +kernel, by decide +kernel⟩, List.mem_of_getElem? (i := 11) (by decide +kernel), List.mem_of_getElem? (i := 480) (by decide +kernel), List.mem_of_getElem? (i := 481) (by decide +kernel)⟩
theorem lw_p23 : lw_okq (⟨"VillageLog$Lot", "isForged", "(I)Z"⟩, 7) := ⟨⟨by decide +kernel, by decide +kernel⟩, List.mem_of_getElem? (i := 39) (by decide +kernel), List.mem_of_getElem? (i := 508) (by decide +kernel), List.mem_of_getElem? (i := 509) (by decide +kernel)⟩
theorem lw_p24 : lw_okq (⟨"VillageLog$Village", "copies", "(I)I"⟩, 13) := ⟨⟨by decide +kernel, by decide +kernel⟩, List.mem_of_getElem? (i := 19) (by decide +kernel), List.mem_of_getElem? (i := 541) (by decide +kernel), List.mem_of_getElem? (i := 542) (by decide +kernel)⟩
theorem lw_p25 : lw_okq (⟨"VillageLog$Village", "fewestToSecond", "(IZ)I"⟩, 13) := ⟨⟨by decide +kernel, by decide +kernel⟩, List.mem_of_getElem? (i := 19) (by decide +kernel), List.mem_of_getElem? (i := 565) (by decide +kernel), List.mem_of_getElem? (i := 566) (by decide +kernel)⟩
theorem lw_p26 : lw_okq (⟨"VillageLog$Village", "lacking", "(LVillageLog$Council;I)I"⟩, 13) := ⟨⟨by decide +kernel, by decide +kernel⟩, List.mem_of_getElem? (i := 19) (by decide +kernel), List.mem_of_getElem? (i := 569) (by decide +kernel), List.mem_of_getElem? (i := 570) (by decide +kernel)⟩
theorem lw_p27 : lw_okq (⟨"VillageLog$Village", "commonWithout", "(I)I"⟩, 13) := ⟨⟨by decide +kernel, by decide +kernel⟩, List.mem_of_getElem? (i := 19) (by decide +kernel), List.mem_of_getElem? (i := 574) (by decide +kernel), List.mem_of_getElem? (i := 575) (by decide +kernel)⟩
theorem lw_p28 : lw_okq (⟨"VillageLogModel", "acts", "()V"⟩, 9) := ⟨⟨by decide +kernel, by decide +kernel⟩, List.mem_of_getElem? (i := 610) (by decide +kernel), List.mem_of_getElem? (i := 648) (by decide +kernel), List.mem_of_getElem? (i := 649) (by decide +kernel)⟩
theorem lw_p29 : lw_okq (⟨"VillageLogModel", "isVillager", "(I)Z"⟩, 9) := ⟨⟨by decide +kernel, by decide +kernel⟩, List.mem_of_getElem? (i := 610) (by decide +kernel), List.mem_of_getElem? (i := 656) (by decide +kernel), List.mem_of_getElem? (i := 657) (by decide +kernel)⟩
theorem lw_p30 : lw_okq (⟨"VillageLogModel", "present", "()I"⟩, 9) := ⟨⟨by decide +kernel, by decide +kernel⟩, List.mem_of_getElem? (i := 610) (by decide +kernel), List.mem_of_getElem? (i := 663) (by decide +kernel), List.mem_of_getElem? (i := 664) (by decide +kernel)⟩
theorem lw_p31 : lw_okq (⟨"VillageLogModel", "isSeat", "(I)Z"⟩, 9) := ⟨⟨by decide +kernel, by decide +kernel⟩, List.mem_of_getElem? (i := 610) (by decide +kernel), List.mem_of_getElem? (i := 680) (by decide +kernel), List.mem_of_getElem? (i := 681) (by decide +kernel)⟩
def lw_privs_2 : List (MethodName × Nat) := [(⟨"VillageLog$Village", "endChange", "()V"⟩, 13), (⟨"VillageLog$Village", "isEntry", "(I)Z"⟩, 13), (⟨"VillageLog$Text", "next", "()I"⟩, 6), (⟨"VillageLog$Text", "readNumber", "()I"⟩, 6), (⟨"VillageLog$Text", "readSign", "(I)Z"⟩, 6), (⟨"VillageLog", "failedRun", "(I)I"⟩, 3), (⟨"VillageLog", "callCommand", "(III)I"⟩, 3), (⟨"VillageLog$Lot", "isForged", "(I)Z"⟩, 7), (⟨"VillageLog$Village", "copies", "(I)I"⟩, 13), (⟨"VillageLog$Village", "fewestToSecond", "(IZ)I"⟩, 13), (⟨"VillageLog$Village", "lacking", "(LVillageLog$Council;I)I"⟩, 13), (⟨"VillageLog$Village", "commonWithout", "(I)I"⟩, 13), (⟨"VillageLogModel", "acts", "()V"⟩, 9), (⟨"VillageLogModel", "isVillager", "(I)Z"⟩, 9), (⟨"VillageLogModel", "present", "()I"⟩, 9), (⟨"VillageLogModel", "isSeat", "(I)Z"⟩, 9)]
theorem lw_r2 : ∀ q ∈ lw_privs_2, lw_okq q := List.forall_mem_cons.mpr ⟨lw_p16, List.forall_mem_cons.mpr ⟨lw_p17, List.forall_mem_cons.mpr ⟨lw_p18, List.forall_mem_cons.mpr ⟨lw_p19, List.forall_mem_cons.mpr ⟨lw_p20, List.forall_mem_cons.mpr ⟨lw_p21, List.forall_mem_cons.mpr ⟨lw_p22, List.forall_mem_cons.mpr ⟨lw_p23, List.forall_mem_cons.mpr ⟨lw_p24, List.forall_mem_cons.mpr ⟨lw_p25, List.forall_mem_cons.mpr ⟨lw_p26, List.forall_mem_cons.mpr ⟨lw_p27, List.forall_mem_cons.mpr ⟨lw_p28, List.forall_mem_cons.mpr ⟨lw_p29, List.forall_mem_cons.mpr ⟨lw_p30, List.forall_mem_cons.mpr ⟨lw_p31, fun _ h => absurd h List.not_mem_nil⟩⟩⟩⟩⟩⟩⟩⟩⟩⟩⟩⟩⟩⟩⟩⟩
theorem lw_p32 : lw_okq (⟨"VillageLogModel", "candidates", "()I"⟩, 9) := ⟨⟨by decide +kernel, by decide +kernel⟩, List.mem_of_getElem? (i := 610) (by decide +kernel), List.mem_of_getElem? (i := 684) (by decide +kernel), List.mem_of_getElem? (i := 685) (by decide +kernel)⟩
theorem lw_p33 : lw_okq (⟨"VillageLogModel", "seatOf", "(II)I"⟩, 9) := ⟨⟨by decide +kernel, by decide +kernel⟩, List.mem_of_getElem? (i := 610) (by decide +kernel), List.mem_of_getElem? (i := 688) (by decide +kernel), List.mem_of_getElem? (i := 689) (by decide +kernel)⟩
theorem lw_p34 : lw_okq (⟨"VillageLogModel", "goesOn", "()Z"⟩, 9) := ⟨⟨by decide +kernel, by decide +kernel⟩, List.mem_of_getElem? (i := 610) (by decide +kernel), List.mem_of_getElem? (i := 692) (by decide +kernel), List.mem_of_getElem? (i := 693) (by decide +kernel)⟩
theorem lw_p35 : lw_okq (⟨"VillageLogModel", "canWrite", "(I)Z"⟩, 9) := ⟨⟨by decide +kernel, by decide +kernel⟩, List.mem_of_getElem? (i := 610) (by decide +kernel), List.mem_of_getElem? (i := 696) (by decide +kernel), List.mem_of_getElem? (i := 697) (by decide +kernel)⟩
theorem lw_p36 : lw_okq (⟨"VillageLogModel", "isElder", "(I)Z"⟩, 9) := ⟨⟨by decide +kernel, by decide +kernel⟩, List.mem_of_getElem? (i := 610) (by decide +kernel), List.mem_of_getElem? (i := 700) (by decide +kernel), List.mem_of_getElem? (i := 701) (by decide +kernel)⟩
theorem lw_p37 : lw_okq (⟨"VillageLogModel", "newer", "()I"⟩, 9) := ⟨⟨by decide +kernel, by decide +kernel⟩, List.mem_of_getElem? (i := 610) (by decide +kernel), List.mem_of_getElem? (i := 704) (by decide +kernel), List.mem_of_getElem? (i := 705) (by decide +kernel)⟩
theorem lw_p38 : lw_okq (⟨"VillageLogModel", "isPresent", "(I)Z"⟩, 9) := ⟨⟨by decide +kernel, by decide +kernel⟩, List.mem_of_getElem? (i := 610) (by decide +kernel), List.mem_of_getElem? (i := 708) (by decide +kernel), List.mem_of_getElem? (i := 709) (by decide +kernel)⟩
theorem lw_p39 : lw_okq (⟨"VillageLogModel", "candidate", "(I)I"⟩, 9) := ⟨⟨by decide +kernel, by decide +kernel⟩, List.mem_of_getElem? (i := 610) (by decide +kernel), List.mem_of_getElem? (i := 718) (by decide +kernel), List.mem_of_getElem? (i := 719) (by decide +kernel)⟩
theorem lw_p40 : lw_okq (⟨"VillageLogModel", "writes", "(II)I"⟩, 9) := ⟨⟨by decide +kernel, by decide +kernel⟩, List.mem_of_getElem? (i := 610) (by decide +kernel), List.mem_of_getElem? (i := 722) (by decide +kernel), List.mem_of_getElem? (i := 723) (by decide +kernel)⟩
theorem lw_p41 : lw_okq (⟨"VillageLogModel", "agrees", "()I"⟩, 9) := ⟨⟨by decide +kernel, by decide +kernel⟩, List.mem_of_getElem? (i := 610) (by decide +kernel), List.mem_of_getElem? (i := 726) (by decide +kernel), List.mem_of_getElem? (i := 727) (by decide +kernel)⟩
theorem lw_p42 : lw_okq (⟨"VillageLogModel", "having", "(II)I"⟩, 9) := ⟨⟨by decide +kernel, by decide +kernel⟩, List.mem_of_getElem? (i := 610) (by decide +kernel), List.mem_of_getElem? (i := 730) (by decide +kernel), List.mem_of_getElem? (i := 731) (by decide +kernel)⟩
theorem lw_p43 : lw_okq (⟨"VillageLogModel", "isMajor", "(I)Z"⟩, 9) := ⟨⟨by decide +kernel, by decide +kernel⟩, List.mem_of_getElem? (i := 610) (by decide +kernel), List.mem_of_getElem? (i := 734) (by decide +kernel), List.mem_of_getElem? (i := 735) (by decide +kernel)⟩
theorem lw_p44 : lw_okq (⟨"VillageLogModel", "ends", "()V"⟩, 9) := ⟨⟨by decide +kernel, by decide +kernel⟩, List.mem_of_getElem? (i := 610) (by decide +kernel), List.mem_of_getElem? (i := 738) (by decide +kernel), List.mem_of_getElem? (i := 739) (by decide +kernel)⟩
theorem lw_p45 : lw_okq (⟨"VillageLogModel", "isEntry", "(I)Z"⟩, 9) := ⟨⟨by decide +kernel, by decide +kernel⟩, List.mem_of_getElem? (i := 610) (by decide +kernel), List.mem_of_getElem? (i := 754) (by decide +kernel), List.mem_of_getElem? (i := 755) (by decide +kernel)⟩
theorem lw_p46 : lw_okq (⟨"VillageLogModel", "holds", "()V"⟩, 9) := ⟨⟨by decide +kernel, by decide +kernel⟩, List.mem_of_getElem? (i := 610) (by decide +kernel), List.mem_of_getElem? (i := 778) (by decide +kernel), List.mem_of_getElem? (i := 779) (by decide +kernel)⟩
theorem lw_p47 : lw_okq (⟨"VillageLogModel", "doesOne", "()I"⟩, 9) := ⟨⟨by decide +kernel, by decide +kernel⟩, List.mem_of_getElem? (i := 610) (by decide +kernel), List.mem_of_getElem? (i := 782) (by decide +kernel), List.mem_of_getElem? (i := 783) (by decide +kernel)⟩
def lw_privs_3 : List (MethodName × Nat) := [(⟨"VillageLogModel", "candidates", "()I"⟩, 9), (⟨"VillageLogModel", "seatOf", "(II)I"⟩, 9), (⟨"VillageLogModel", "goesOn", "()Z"⟩, 9), (⟨"VillageLogModel", "canWrite", "(I)Z"⟩, 9), (⟨"VillageLogModel", "isElder", "(I)Z"⟩, 9), (⟨"VillageLogModel", "newer", "()I"⟩, 9), (⟨"VillageLogModel", "isPresent", "(I)Z"⟩, 9), (⟨"VillageLogModel", "candidate", "(I)I"⟩, 9), (⟨"VillageLogModel", "writes", "(II)I"⟩, 9), (⟨"VillageLogModel", "agrees", "()I"⟩, 9), (⟨"VillageLogModel", "having", "(II)I"⟩, 9), (⟨"VillageLogModel", "isMajor", "(I)Z"⟩, 9), (⟨"VillageLogModel", "ends", "()V"⟩, 9), (⟨"VillageLogModel", "isEntry", "(I)Z"⟩, 9), (⟨"VillageLogModel", "holds", "()V"⟩, 9), (⟨"VillageLogModel", "doesOne", "()I"⟩, 9)]
theorem lw_r3 : ∀ q ∈ lw_privs_3, lw_okq q := List.forall_mem_cons.mpr ⟨lw_p32, List.forall_mem_cons.mpr ⟨lw_p33, List.forall_mem_cons.mpr ⟨lw_p34, List.forall_mem_cons.mpr ⟨lw_p35, List.forall_mem_cons.mpr ⟨lw_p36, List.forall_mem_cons.mpr ⟨lw_p37, List.forall_mem_cons.mpr ⟨lw_p38, List.forall_mem_cons.mpr ⟨lw_p39, List.forall_mem_cons.mpr ⟨lw_p40, List.forall_mem_cons.mpr ⟨lw_p41, List.forall_mem_cons.mpr ⟨lw_p42, List.forall_mem_cons.mpr ⟨lw_p43, List.forall_mem_cons.mpr ⟨lw_p44, List.forall_mem_cons.mpr ⟨lw_p45, List.forall_mem_cons.mpr ⟨lw_p46, List.forall_mem_cons.mpr ⟨lw_p47, fun _ h => absurd h List.not_mem_nil⟩⟩⟩⟩⟩⟩⟩⟩⟩⟩⟩⟩⟩⟩⟩⟩
theorem lw_p48 : lw_okq (⟨"VillageLogModel", "number", "(I)Z"⟩, 9) := ⟨⟨by decide +kernel, by decide +kernel⟩, List.mem_of_getElem? (i := 610) (by decide +kernel), List.mem_of_getElem? (i := 786) (by decide +kernel), List.mem_of_getElem? (i := 787) (by decide +kernel)⟩
theorem lw_p49 : lw_okq (⟨"VillageLogModel", "isAt", "(II)Z"⟩, 9) := ⟨⟨by decide +kernel, by decide +kernel⟩, List.mem_of_getElem? (i := 610) (by decide +kernel), List.mem_of_getElem? (i := 790) (by decide +kernel), List.mem_of_getElem? (i := 791) (by decide +kernel)⟩
theorem lw_p50 : lw_okq (⟨"VillageLogModel", "exchanges", "()V"⟩, 9) := ⟨⟨by decide +kernel, by decide +kernel⟩, List.mem_of_getElem? (i := 610) (by decide +kernel), List.mem_of_getElem? (i := 798) (by decide +kernel), List.mem_of_getElem? (i := 799) (by decide +kernel)⟩
theorem lw_p51 : lw_okq (⟨"VillageLogModel", "forged", "()I"⟩, 9) := ⟨⟨by decide +kernel, by decide +kernel⟩, List.mem_of_getElem? (i := 610) (by decide +kernel), List.mem_of_getElem? (i := 806) (by decide +kernel), List.mem_of_getElem? (i := 807) (by decide +kernel)⟩
theorem lw_p52 : lw_okq (⟨"VillageLogModel", "isForged", "(I)Z"⟩, 9) := ⟨⟨by decide +kernel, by decide +kernel⟩, List.mem_of_getElem? (i := 610) (by decide +kernel), List.mem_of_getElem? (i := 810) (by decide +kernel), List.mem_of_getElem? (i := 811) (by decide +kernel)⟩
theorem lw_p53 : lw_okq (⟨"VillageLogModel", "timesDrawn", "(I)I"⟩, 9) := ⟨⟨by decide +kernel, by decide +kernel⟩, List.mem_of_getElem? (i := 610) (by decide +kernel), List.mem_of_getElem? (i := 822) (by decide +kernel), List.mem_of_getElem? (i := 823) (by decide +kernel)⟩
theorem lw_p54 : lw_okq (⟨"VillageLogModel", "copies", "(I)I"⟩, 9) := ⟨⟨by decide +kernel, by decide +kernel⟩, List.mem_of_getElem? (i := 610) (by decide +kernel), List.mem_of_getElem? (i := 830) (by decide +kernel), List.mem_of_getElem? (i := 831) (by decide +kernel)⟩
def lw_privs_4 : List (MethodName × Nat) := [(⟨"VillageLogModel", "number", "(I)Z"⟩, 9), (⟨"VillageLogModel", "isAt", "(II)Z"⟩, 9), (⟨"VillageLogModel", "exchanges", "()V"⟩, 9), (⟨"VillageLogModel", "forged", "()I"⟩, 9), (⟨"VillageLogModel", "isForged", "(I)Z"⟩, 9), (⟨"VillageLogModel", "timesDrawn", "(I)I"⟩, 9), (⟨"VillageLogModel", "copies", "(I)I"⟩, 9)]
theorem lw_r4 : ∀ q ∈ lw_privs_4, lw_okq q := List.forall_mem_cons.mpr ⟨lw_p48, List.forall_mem_cons.mpr ⟨lw_p49, List.forall_mem_cons.mpr ⟨lw_p50, List.forall_mem_cons.mpr ⟨lw_p51, List.forall_mem_cons.mpr ⟨lw_p52, List.forall_mem_cons.mpr ⟨lw_p53, List.forall_mem_cons.mpr ⟨lw_p54, fun _ h => absurd h List.not_mem_nil⟩⟩⟩⟩⟩⟩⟩
def lw_privs : List (MethodName × Nat) := lw_privs_1 ++ (lw_privs_2 ++ (lw_privs_3 ++ (lw_privs_4)))
def lw_tbl : List Cond := k2_sels lw_privs ++ tables_1
theorem lw_privs_ok : ∀ q ∈ lw_privs, lw_okq q := by
  show ∀ q ∈ lw_privs_1 ++ (lw_privs_2 ++ (lw_privs_3 ++ (lw_privs_4))), lw_okq q
  exact List.forall_mem_append.mpr ⟨lw_r1, List.forall_mem_append.mpr ⟨lw_r2, List.forall_mem_append.mpr ⟨lw_r3, lw_r4⟩⟩⟩
-- ===== end of PART A; then your names; then what follows =====
end
section
/-! ===== BEGIN words of one list among another's, by their places ===== -/
theorem goodIn_r {big : List Cond} (ws : List Cond) (ps : List Nat) (hp : ws = ps.filterMap (fun i => big[i]?)) (h : ws.all goodWord = true) : GoodIn big ws := by
  intro w hw
  have h1 := List.all_eq_true.mp h w hw
  rw [hp] at hw
  obtain ⟨i, -, hi⟩ := List.mem_filterMap.mp hw
  have hm : w ∈ big := by first | exact List.mem_of_getElem? hi | exact List.getElem?_mem hi
  exact ⟨hm, good_of_word h1⟩
theorem goodIn_app {big a b : List Cond} (ha : GoodIn big a) (hb : GoodIn big b) : GoodIn big (a ++ b) := fun w h => (List.mem_append.mp h).elim (ha w) (hb w)
theorem goodIn_ca {big a b : List Cond} {c : Cond} (ha : GoodIn big (c :: a)) (hb : GoodIn big b) : GoodIn big (c :: (a ++ b)) := fun w h => (List.mem_cons.mp h).elim (fun e => ha w (List.mem_cons.mpr (Or.inl e))) (fun h => (List.mem_append.mp h).elim (fun h => ha w (List.mem_cons.mpr (Or.inr h))) (hb w))
theorem goodIn_sub {big ws : List Cond} (hm : ∀ w ∈ ws, w ∈ big) (h : ws.all goodWord = true) : GoodIn big ws := fun w hw => ⟨hm w hw, good_of_word (List.all_eq_true.mp h w hw)⟩
/-! ===== END ===== -/

/-! ===== BEGIN printed: names, fields, word lists, decode rows ===== -/
def RX0 : String := "VillageLog$Council"
def TX0 : u_T := fun k => match k with
  | 0 => ("VillageLog$Council", "size", "I", false)
  | _ => ("VillageLog$Council", "elders", "[I", true)
def tyX0 : Nat → FieldType := fun k => match k with
  | 0 => .int
  | _ => .array .int
abbrev wsX00 : List Cond := u_ws RX0 TX0 2
theorem nmX0 : ∀ a, a < 2 → ∀ b, b < 2 → a ≠ b → (TX0 a).2.1 ≠ (TX0 b).2.1 := by decide +kernel
theorem tyX0_ok : ∀ k, k < 2 → parseFieldDescriptor (TX0 k).2.2.1 = some (tyX0 k) := by decide +kernel
abbrev cX0_init : ByteArray := prog_2_method_1_code
def yX0_init : MethodName := ⟨RX0, "<init>", "()V"⟩
abbrev cX0_copyFrom : ByteArray := prog_2_method_2_code
def yX0_copyFrom : MethodName := ⟨RX0, "copyFrom", "(LVillageLog$Council;)V"⟩
abbrev cX0_seatFirst : ByteArray := prog_2_method_3_code
def yX0_seatFirst : MethodName := ⟨RX0, "seatFirst", "(I)V"⟩
abbrev cX0_place : ByteArray := prog_2_method_4_code
def yX0_place : MethodName := ⟨RX0, "place", "(II)V"⟩
abbrev cX0_size : ByteArray := prog_2_method_5_code
def yX0_size : MethodName := ⟨RX0, "size", "()I"⟩
abbrev cX0_isEmpty : ByteArray := prog_2_method_6_code
def yX0_isEmpty : MethodName := ⟨RX0, "isEmpty", "()Z"⟩
abbrev cX0_hasSeat : ByteArray := prog_2_method_7_code
def yX0_hasSeat : MethodName := ⟨RX0, "hasSeat", "(I)Z"⟩
abbrev cX0_elderOn : ByteArray := prog_2_method_8_code
def yX0_elderOn : MethodName := ⟨RX0, "elderOn", "(I)I"⟩
abbrev cX0_seatOf : ByteArray := prog_2_method_9_code
def yX0_seatOf : MethodName := ⟨RX0, "seatOf", "(I)I"⟩
abbrev cX0_has : ByteArray := prog_2_method_10_code
def yX0_has : MethodName := ⟨RX0, "has", "(I)Z"⟩
abbrev cX0_majority : ByteArray := prog_2_method_11_code
def yX0_majority : MethodName := ⟨RX0, "majority", "()I"⟩
def RX1 : String := "VillageLog$History"
def TX1 : u_T := fun k => match k with
  | 0 => ("VillageLog$History", "rows", "[LVillageLog$Village;", true)
  | 1 => ("VillageLog$History", "free", "I", false)
  | _ => ("VillageLog$History", "length", "I", false)
def tyX1 : Nat → FieldType := fun k => match k with
  | 0 => .array (.object "VillageLog$Village")
  | 1 => .int
  | _ => .int
abbrev wsX10 : List Cond := u_ws RX1 TX1 3
theorem nmX1 : ∀ a, a < 3 → ∀ b, b < 3 → a ≠ b → (TX1 a).2.1 ≠ (TX1 b).2.1 := by decide +kernel
theorem tyX1_ok : ∀ k, k < 3 → parseFieldDescriptor (TX1 k).2.2.1 = some (tyX1 k) := by decide +kernel
abbrev cX1_init : ByteArray := prog_3_method_1_code
def yX1_init : MethodName := ⟨RX1, "<init>", "()V"⟩
abbrev cX1_length : ByteArray := prog_3_method_2_code
def yX1_length : MethodName := ⟨RX1, "length", "()I"⟩
abbrev cX1_note : ByteArray := prog_3_method_3_code
def yX1_note : MethodName := ⟨RX1, "note", "(LVillageLog$Village;)V"⟩
abbrev cX1_keep : ByteArray := prog_3_method_4_code
def yX1_keep : MethodName := ⟨RX1, "keep", "()V"⟩
abbrev cX1_restore : ByteArray := prog_3_method_5_code
def yX1_restore : MethodName := ⟨RX1, "restore", "(LVillageLog$Village;)V"⟩
abbrev cX1_stepBack : ByteArray := prog_3_method_6_code
def yX1_stepBack : MethodName := ⟨RX1, "stepBack", "(LVillageLog$Village;)I"⟩
def RX2 : String := "VillageLog$Lot"
def TX2 : u_T := fun k => match k with
  | 0 => ("VillageLog$Lot", "state", "I", false)
  | 1 => ("VillageLog$Lot", "draws", "I", false)
  | 2 => ("VillageLog$Lot", "states", "[I", true)
  | 3 => ("VillageLog$Lot", "candidates", "[I", true)
  | 4 => ("VillageLog$Lot", "drawn", "[I", true)
  | 5 => ("VillageLog$Lot", "standing", "[I", true)
  | _ => ("VillageLog$Lot", "seats", "[I", true)
def tyX2 : Nat → FieldType := fun k => match k with
  | 0 => .int
  | 1 => .int
  | 2 => .array .int
  | 3 => .array .int
  | 4 => .array .int
  | 5 => .array .int
  | _ => .array .int
abbrev wsX20 : List Cond := u_ws RX2 TX2 7
theorem nmX2 : ∀ a, a < 7 → ∀ b, b < 7 → a ≠ b → (TX2 a).2.1 ≠ (TX2 b).2.1 := by decide +kernel
theorem tyX2_ok : ∀ k, k < 7 → parseFieldDescriptor (TX2 k).2.2.1 = some (tyX2 k) := by decide +kernel
abbrev cX2_init : ByteArray := prog_4_method_1_code
def yX2_init : MethodName := ⟨RX2, "<init>", "()V"⟩
abbrev cX2_after : ByteArray := prog_4_method_2_code
def yX2_after : MethodName := ⟨RX2, "after", "(I)I"⟩
abbrev cX2_copyFrom : ByteArray := prog_4_method_3_code
def yX2_copyFrom : MethodName := ⟨RX2, "copyFrom", "(LVillageLog$Lot;)V"⟩
abbrev cX2_state : ByteArray := prog_4_method_4_code
def yX2_state : MethodName := ⟨RX2, "state", "()I"⟩
abbrev cX2_setState : ByteArray := prog_4_method_5_code
def yX2_setState : MethodName := ⟨RX2, "setState", "(I)I"⟩
abbrev cX2_draws : ByteArray := prog_4_method_6_code
def yX2_draws : MethodName := ⟨RX2, "draws", "()I"⟩
abbrev cX2_write : ByteArray := prog_4_method_7_code
def yX2_write : MethodName := ⟨RX2, "write", "(III)V"⟩
abbrev cX2_forgeLast : ByteArray := prog_4_method_8_code
def yX2_forgeLast : MethodName := ⟨RX2, "forgeLast", "(I)V"⟩
abbrev cX2_lastSeat : ByteArray := prog_4_method_9_code
def yX2_lastSeat : MethodName := ⟨RX2, "lastSeat", "()I"⟩
abbrev cX2_forgedDraws : ByteArray := prog_4_method_10_code
def yX2_forgedDraws : MethodName := ⟨RX2, "forgedDraws", "()I"⟩
abbrev cX2_drawsOf : ByteArray := prog_4_method_11_code
def yX2_drawsOf : MethodName := ⟨RX2, "drawsOf", "(I)I"⟩
abbrev cX2_about : ByteArray := prog_4_method_12_code
def yX2_about : MethodName := ⟨RX2, "about", "(II)I"⟩
abbrev cX2_isForged : ByteArray := prog_4_method_13_code
def yX2_isForged : MethodName := ⟨RX2, "isForged", "(I)Z"⟩
def RX3 : String := "VillageLog$Text"
def TX3 : u_T := fun k => match k with
  | 0 => ("VillageLog$Text", "characters", "[I", true)
  | 1 => ("VillageLog$Text", "length", "I", false)
  | 2 => ("VillageLog$Text", "place", "I", false)
  | 3 => ("VillageLog$Text", "letter", "I", false)
  | 4 => ("VillageLog$Text", "villagerRead", "I", false)
  | _ => ("VillageLog$Text", "numberRead", "I", false)
def tyX3 : Nat → FieldType := fun k => match k with
  | 0 => .array .int
  | 1 => .int
  | 2 => .int
  | 3 => .int
  | 4 => .int
  | _ => .int
abbrev wsX30 : List Cond := u_ws RX3 TX3 6
theorem nmX3 : ∀ a, a < 6 → ∀ b, b < 6 → a ≠ b → (TX3 a).2.1 ≠ (TX3 b).2.1 := by decide +kernel
theorem tyX3_ok : ∀ k, k < 6 → parseFieldDescriptor (TX3 k).2.2.1 = some (tyX3 k) := by decide +kernel
abbrev cX3_init : ByteArray := prog_5_method_1_code
def yX3_init : MethodName := ⟨RX3, "<init>", "()V"⟩
abbrev cX3_length : ByteArray := prog_5_method_2_code
def yX3_length : MethodName := ⟨RX3, "length", "()I"⟩
abbrev cX3_add : ByteArray := prog_5_method_3_code
def yX3_add : MethodName := ⟨RX3, "add", "(I)I"⟩
abbrev cX3_clear : ByteArray := prog_5_method_4_code
def yX3_clear : MethodName := ⟨RX3, "clear", "()I"⟩
abbrev cX3_place : ByteArray := prog_5_method_5_code
def yX3_place : MethodName := ⟨RX3, "place", "()I"⟩
abbrev cX3_rewind : ByteArray := prog_5_method_6_code
def yX3_rewind : MethodName := ⟨RX3, "rewind", "()V"⟩
abbrev cX3_isRead : ByteArray := prog_5_method_7_code
def yX3_isRead : MethodName := ⟨RX3, "isRead", "()Z"⟩
abbrev cX3_letter : ByteArray := prog_5_method_8_code
def yX3_letter : MethodName := ⟨RX3, "letter", "()I"⟩
abbrev cX3_villagerRead : ByteArray := prog_5_method_9_code
def yX3_villagerRead : MethodName := ⟨RX3, "villagerRead", "()I"⟩
abbrev cX3_numberRead : ByteArray := prog_5_method_10_code
def yX3_numberRead : MethodName := ⟨RX3, "numberRead", "()I"⟩
abbrev cX3_readCommand : ByteArray := prog_5_method_11_code
def yX3_readCommand : MethodName := ⟨RX3, "readCommand", "()Z"⟩
abbrev cX3_readSign : ByteArray := prog_5_method_12_code
def yX3_readSign : MethodName := ⟨RX3, "readSign", "(I)Z"⟩
abbrev cX3_readNumber : ByteArray := prog_5_method_13_code
def yX3_readNumber : MethodName := ⟨RX3, "readNumber", "()I"⟩
abbrev cX3_next : ByteArray := prog_5_method_14_code
def yX3_next : MethodName := ⟨RX3, "next", "()I"⟩
abbrev cX3_isDigit : ByteArray := prog_5_method_15_code
def yX3_isDigit : MethodName := ⟨RX3, "isDigit", "(I)Z"⟩
def RX4 : String := "VillageLog$Village"
def TX4 : u_T := fun k => match k with
  | 0 => ("VillageLog$Village", "villagers", "I", false)
  | 1 => ("VillageLog$Village", "present", "[I", true)
  | 2 => ("VillageLog$Village", "copied", "[I", true)
  | 3 => ("VillageLog$Village", "oldCouncil", "LVillageLog$Council;", true)
  | 4 => ("VillageLog$Village", "newCouncil", "LVillageLog$Council;", true)
  | 5 => ("VillageLog$Village", "term", "I", false)
  | 6 => ("VillageLog$Village", "changeEntry", "I", false)
  | 7 => ("VillageLog$Village", "lot", "LVillageLog$Lot;", true)
  | 8 => ("VillageLog$Village", "entries", "I", false)
  | 9 => ("VillageLog$Village", "agreed", "I", false)
  | 10 => ("VillageLog$Village", "numbers", "[I", true)
  | 11 => ("VillageLog$Village", "terms", "[I", true)
  | _ => ("VillageLog$Village", "proposers", "[I", true)
def tyX4 : Nat → FieldType := fun k => match k with
  | 0 => .int
  | 1 => .array .int
  | 2 => .array .int
  | 3 => .object "VillageLog$Council"
  | 4 => .object "VillageLog$Council"
  | 5 => .int
  | 6 => .int
  | 7 => .object "VillageLog$Lot"
  | 8 => .int
  | 9 => .int
  | 10 => .array .int
  | 11 => .array .int
  | _ => .array .int
abbrev wsX40 : List Cond := u_ws RX4 TX4 13
theorem nmX4 : ∀ a, a < 13 → ∀ b, b < 13 → a ≠ b → (TX4 a).2.1 ≠ (TX4 b).2.1 := by decide +kernel
theorem tyX4_ok : ∀ k, k < 13 → parseFieldDescriptor (TX4 k).2.2.1 = some (tyX4 k) := by decide +kernel
abbrev cX4_init : ByteArray := prog_6_method_1_code
def yX4_init : MethodName := ⟨RX4, "<init>", "()V"⟩
abbrev cX4_copyFrom : ByteArray := prog_6_method_2_code
def yX4_copyFrom : MethodName := ⟨RX4, "copyFrom", "(LVillageLog$Village;)V"⟩
abbrev cX4_letCome : ByteArray := prog_6_method_3_code
def yX4_letCome : MethodName := ⟨RX4, "letCome", "()I"⟩
abbrev cX4_letAttend : ByteArray := prog_6_method_4_code
def yX4_letAttend : MethodName := ⟨RX4, "letAttend", "(II)I"⟩
abbrev cX4_setFirstCouncil : ByteArray := prog_6_method_5_code
def yX4_setFirstCouncil : MethodName := ⟨RX4, "setFirstCouncil", "(I)I"⟩
abbrev cX4_setLotState : ByteArray := prog_6_method_6_code
def yX4_setLotState : MethodName := ⟨RX4, "setLotState", "(I)I"⟩
abbrev cX4_beginChange : ByteArray := prog_6_method_7_code
def yX4_beginChange : MethodName := ⟨RX4, "beginChange", "(II)I"⟩
abbrev cX4_forgeLot : ByteArray := prog_6_method_8_code
def yX4_forgeLot : MethodName := ⟨RX4, "forgeLot", "(I)I"⟩
abbrev cX4_proposeEntry : ByteArray := prog_6_method_9_code
def yX4_proposeEntry : MethodName := ⟨RX4, "proposeEntry", "(II)I"⟩
abbrev cX4_secondEntry : ByteArray := prog_6_method_10_code
def yX4_secondEntry : MethodName := ⟨RX4, "secondEntry", "(II)I"⟩
abbrev cX4_learnEntries : ByteArray := prog_6_method_11_code
def yX4_learnEntries : MethodName := ⟨RX4, "learnEntries", "(I)I"⟩
abbrev cX4_tally : ByteArray := prog_6_method_12_code
def yX4_tally : MethodName := ⟨RX4, "tally", "(I)I"⟩
abbrev cX4_elderOf : ByteArray := prog_6_method_13_code
def yX4_elderOf : MethodName := ⟨RX4, "elderOf", "(II)I"⟩
abbrev cX4_aboutVillager : ByteArray := prog_6_method_14_code
def yX4_aboutVillager : MethodName := ⟨RX4, "aboutVillager", "(II)I"⟩
abbrev cX4_aboutEntry : ByteArray := prog_6_method_15_code
def yX4_aboutEntry : MethodName := ⟨RX4, "aboutEntry", "(II)I"⟩
abbrev cX4_aboutDraw : ByteArray := prog_6_method_16_code
def yX4_aboutDraw : MethodName := ⟨RX4, "aboutDraw", "(II)I"⟩
abbrev cX4_missingElders : ByteArray := prog_6_method_17_code
def yX4_missingElders : MethodName := ⟨RX4, "missingElders", "(I)I"⟩
abbrev cX4_reachableEntries : ByteArray := prog_6_method_18_code
def yX4_reachableEntries : MethodName := ⟨RX4, "reachableEntries", "()I"⟩
abbrev cX4_drawnNext : ByteArray := prog_6_method_19_code
def yX4_drawnNext : MethodName := ⟨RX4, "drawnNext", "(I)I"⟩
abbrev cX4_spareVillagers : ByteArray := prog_6_method_20_code
def yX4_spareVillagers : MethodName := ⟨RX4, "spareVillagers", "()I"⟩
abbrev cX4_lotToDraw : ByteArray := prog_6_method_21_code
def yX4_lotToDraw : MethodName := ⟨RX4, "lotToDraw", "(II)I"⟩
abbrev cX4_isVillager : ByteArray := prog_6_method_22_code
def yX4_isVillager : MethodName := ⟨RX4, "isVillager", "(I)Z"⟩
abbrev cX4_isEntry : ByteArray := prog_6_method_23_code
def yX4_isEntry : MethodName := ⟨RX4, "isEntry", "(I)Z"⟩
abbrev cX4_isChanging : ByteArray := prog_6_method_24_code
def yX4_isChanging : MethodName := ⟨RX4, "isChanging", "()Z"⟩
abbrev cX4_isElder : ByteArray := prog_6_method_25_code
def yX4_isElder : MethodName := ⟨RX4, "isElder", "(I)Z"⟩
abbrev cX4_mayAct : ByteArray := prog_6_method_26_code
def yX4_mayAct : MethodName := ⟨RX4, "mayAct", "(I)Z"⟩
abbrev cX4_isPresent : ByteArray := prog_6_method_27_code
def yX4_isPresent : MethodName := ⟨RX4, "isPresent", "(I)Z"⟩
abbrev cX4_holds : ByteArray := prog_6_method_28_code
def yX4_holds : MethodName := ⟨RX4, "holds", "(II)Z"⟩
abbrev cX4_presentVillagers : ByteArray := prog_6_method_29_code
def yX4_presentVillagers : MethodName := ⟨RX4, "presentVillagers", "()I"⟩
abbrev cX4_copies : ByteArray := prog_6_method_30_code
def yX4_copies : MethodName := ⟨RX4, "copies", "(I)I"⟩
abbrev cX4_candidates : ByteArray := prog_6_method_31_code
def yX4_candidates : MethodName := ⟨RX4, "candidates", "()I"⟩
abbrev cX4_candidatesBefore : ByteArray := prog_6_method_32_code
def yX4_candidatesBefore : MethodName := ⟨RX4, "candidatesBefore", "(I)I"⟩
abbrev cX4_drawnWith : ByteArray := prog_6_method_33_code
def yX4_drawnWith : MethodName := ⟨RX4, "drawnWith", "(I)I"⟩
abbrev cX4_addEntry : ByteArray := prog_6_method_34_code
def yX4_addEntry : MethodName := ⟨RX4, "addEntry", "(II)V"⟩
abbrev cX4_agree : ByteArray := prog_6_method_35_code
def yX4_agree : MethodName := ⟨RX4, "agree", "()I"⟩
abbrev cX4_endChange : ByteArray := prog_6_method_36_code
def yX4_endChange : MethodName := ⟨RX4, "endChange", "()V"⟩
abbrev cX4_oldCounts : ByteArray := prog_6_method_37_code
def yX4_oldCounts : MethodName := ⟨RX4, "oldCounts", "(I)Z"⟩
abbrev cX4_isSupported : ByteArray := prog_6_method_38_code
def yX4_isSupported : MethodName := ⟨RX4, "isSupported", "(IZ)Z"⟩
abbrev cX4_holders : ByteArray := prog_6_method_39_code
def yX4_holders : MethodName := ⟨RX4, "holders", "(LVillageLog$Council;IZ)I"⟩
abbrev cX4_fewestToSecond : ByteArray := prog_6_method_40_code
def yX4_fewestToSecond : MethodName := ⟨RX4, "fewestToSecond", "(IZ)I"⟩
abbrev cX4_lacking : ByteArray := prog_6_method_41_code
def yX4_lacking : MethodName := ⟨RX4, "lacking", "(LVillageLog$Council;I)I"⟩
abbrev cX4_commonWithout : ByteArray := prog_6_method_42_code
def yX4_commonWithout : MethodName := ⟨RX4, "commonWithout", "(I)I"⟩
def RX5 : String := "VillageLog"
def TX5 : u_T := fun k => match k with
  | 0 => ("VillageLog", "village", "LVillageLog$Village;", true)
  | 1 => ("VillageLog", "history", "LVillageLog$History;", true)
  | _ => ("VillageLog", "text", "LVillageLog$Text;", true)
def tyX5 : Nat → FieldType := fun k => match k with
  | 0 => .object "VillageLog$Village"
  | 1 => .object "VillageLog$History"
  | _ => .object "VillageLog$Text"
abbrev wsX50 : List Cond := u_ws RX5 TX5 3
theorem nmX5 : ∀ a, a < 3 → ∀ b, b < 3 → a ≠ b → (TX5 a).2.1 ≠ (TX5 b).2.1 := by decide +kernel
theorem tyX5_ok : ∀ k, k < 3 → parseFieldDescriptor (TX5 k).2.2.1 = some (tyX5 k) := by decide +kernel
abbrev cX5_init : ByteArray := prog_1_method_1_code
def yX5_init : MethodName := ⟨RX5, "<init>", "()V"⟩
abbrev cX5_come : ByteArray := prog_1_method_2_code
def yX5_come : MethodName := ⟨RX5, "come", "()I"⟩
abbrev cX5_attend : ByteArray := prog_1_method_3_code
def yX5_attend : MethodName := ⟨RX5, "attend", "(II)I"⟩
abbrev cX5_found : ByteArray := prog_1_method_4_code
def yX5_found : MethodName := ⟨RX5, "found", "(I)I"⟩
abbrev cX5_setLot : ByteArray := prog_1_method_5_code
def yX5_setLot : MethodName := ⟨RX5, "setLot", "(I)I"⟩
abbrev cX5_change : ByteArray := prog_1_method_6_code
def yX5_change : MethodName := ⟨RX5, "change", "(II)I"⟩
abbrev cX5_forge : ByteArray := prog_1_method_7_code
def yX5_forge : MethodName := ⟨RX5, "forge", "(I)I"⟩
abbrev cX5_propose : ByteArray := prog_1_method_8_code
def yX5_propose : MethodName := ⟨RX5, "propose", "(II)I"⟩
abbrev cX5_second : ByteArray := prog_1_method_9_code
def yX5_second : MethodName := ⟨RX5, "second", "(II)I"⟩
abbrev cX5_learn : ByteArray := prog_1_method_10_code
def yX5_learn : MethodName := ⟨RX5, "learn", "(I)I"⟩
abbrev cX5_undo : ByteArray := prog_1_method_11_code
def yX5_undo : MethodName := ⟨RX5, "undo", "()I"⟩
abbrev cX5_append : ByteArray := prog_1_method_12_code
def yX5_append : MethodName := ⟨RX5, "append", "(I)I"⟩
abbrev cX5_clearText : ByteArray := prog_1_method_13_code
def yX5_clearText : MethodName := ⟨RX5, "clearText", "()I"⟩
abbrev cX5_run : ByteArray := prog_1_method_14_code
def yX5_run : MethodName := ⟨RX5, "run", "()I"⟩
abbrev cX5_count : ByteArray := prog_1_method_15_code
def yX5_count : MethodName := ⟨RX5, "count", "(I)I"⟩
abbrev cX5_elder : ByteArray := prog_1_method_16_code
def yX5_elder : MethodName := ⟨RX5, "elder", "(II)I"⟩
abbrev cX5_villager : ByteArray := prog_1_method_17_code
def yX5_villager : MethodName := ⟨RX5, "villager", "(II)I"⟩
abbrev cX5_entry : ByteArray := prog_1_method_18_code
def yX5_entry : MethodName := ⟨RX5, "entry", "(II)I"⟩
abbrev cX5_draw : ByteArray := prog_1_method_19_code
def yX5_draw : MethodName := ⟨RX5, "draw", "(II)I"⟩
abbrev cX5_missing : ByteArray := prog_1_method_20_code
def yX5_missing : MethodName := ⟨RX5, "missing", "(I)I"⟩
abbrev cX5_reachable : ByteArray := prog_1_method_21_code
def yX5_reachable : MethodName := ⟨RX5, "reachable", "()I"⟩
abbrev cX5_nextDrawn : ByteArray := prog_1_method_22_code
def yX5_nextDrawn : MethodName := ⟨RX5, "nextDrawn", "(I)I"⟩
abbrev cX5_spare : ByteArray := prog_1_method_23_code
def yX5_spare : MethodName := ⟨RX5, "spare", "()I"⟩
abbrev cX5_lotFor : ByteArray := prog_1_method_24_code
def yX5_lotFor : MethodName := ⟨RX5, "lotFor", "(II)I"⟩
abbrev cX5_kept : ByteArray := prog_1_method_25_code
def yX5_kept : MethodName := ⟨RX5, "kept", "(I)I"⟩
abbrev cX5_failedRun : ByteArray := prog_1_method_26_code
def yX5_failedRun : MethodName := ⟨RX5, "failedRun", "(I)I"⟩
abbrev cX5_callCommand : ByteArray := prog_1_method_27_code
def yX5_callCommand : MethodName := ⟨RX5, "callCommand", "(III)I"⟩
def RX6 : String := "VillageLogModel"
def TX6 : u_T := fun k => match k with
  | 0 => ("VillageLogModel", "s", "[I", true)
  | 1 => ("VillageLogModel", "past", "[I", true)
  | 2 => ("VillageLogModel", "held", "[I", true)
  | 3 => ("VillageLogModel", "pasts", "I", false)
  | 4 => ("VillageLogModel", "runs", "Z", false)
  | 5 => ("VillageLogModel", "text", "[I", true)
  | 6 => ("VillageLogModel", "typed", "I", false)
  | 7 => ("VillageLogModel", "at", "I", false)
  | _ => ("VillageLogModel", "read", "I", false)
def tyX6 : Nat → FieldType := fun k => match k with
  | 0 => .array .int
  | 1 => .array .int
  | 2 => .array .int
  | 3 => .int
  | 4 => .boolean
  | 5 => .array .int
  | 6 => .int
  | 7 => .int
  | _ => .int
abbrev wsX60 : List Cond := u_ws RX6 TX6 9
theorem nmX6 : ∀ a, a < 9 → ∀ b, b < 9 → a ≠ b → (TX6 a).2.1 ≠ (TX6 b).2.1 := by decide +kernel
theorem tyX6_ok : ∀ k, k < 9 → parseFieldDescriptor (TX6 k).2.2.1 = some (tyX6 k) := by decide +kernel
abbrev cX6_init : ByteArray := prog_8_method_1_code
def yX6_init : MethodName := ⟨RX6, "<init>", "()V"⟩
abbrev cX6_in : ByteArray := prog_8_method_3_code
def yX6_in : MethodName := ⟨RX6, "in", "(III)Z"⟩
abbrev cX6_acts : ByteArray := prog_8_method_4_code
def yX6_acts : MethodName := ⟨RX6, "acts", "()V"⟩
abbrev cX6_isVillager : ByteArray := prog_8_method_5_code
def yX6_isVillager : MethodName := ⟨RX6, "isVillager", "(I)Z"⟩
abbrev cX6_isSeat : ByteArray := prog_8_method_6_code
def yX6_isSeat : MethodName := ⟨RX6, "isSeat", "(I)Z"⟩
abbrev cX6_isEntry : ByteArray := prog_8_method_7_code
def yX6_isEntry : MethodName := ⟨RX6, "isEntry", "(I)Z"⟩
abbrev cX6_goesOn : ByteArray := prog_8_method_8_code
def yX6_goesOn : MethodName := ⟨RX6, "goesOn", "()Z"⟩
abbrev cX6_isPresent : ByteArray := prog_8_method_9_code
def yX6_isPresent : MethodName := ⟨RX6, "isPresent", "(I)Z"⟩
abbrev cX6_seatOf : ByteArray := prog_8_method_10_code
def yX6_seatOf : MethodName := ⟨RX6, "seatOf", "(II)I"⟩
abbrev cX6_newer : ByteArray := prog_8_method_11_code
def yX6_newer : MethodName := ⟨RX6, "newer", "()I"⟩
abbrev cX6_isElder : ByteArray := prog_8_method_12_code
def yX6_isElder : MethodName := ⟨RX6, "isElder", "(I)Z"⟩
abbrev cX6_having : ByteArray := prog_8_method_13_code
def yX6_having : MethodName := ⟨RX6, "having", "(II)I"⟩
abbrev cX6_isMajor : ByteArray := prog_8_method_14_code
def yX6_isMajor : MethodName := ⟨RX6, "isMajor", "(I)Z"⟩
abbrev cX6_ends : ByteArray := prog_8_method_15_code
def yX6_ends : MethodName := ⟨RX6, "ends", "()V"⟩
abbrev cX6_agrees : ByteArray := prog_8_method_16_code
def yX6_agrees : MethodName := ⟨RX6, "agrees", "()I"⟩
abbrev cX6_come : ByteArray := prog_8_method_17_code
def yX6_come : MethodName := ⟨RX6, "come", "()I"⟩
abbrev cX6_present : ByteArray := prog_8_method_18_code
def yX6_present : MethodName := ⟨RX6, "present", "()I"⟩
abbrev cX6_attend : ByteArray := prog_8_method_19_code
def yX6_attend : MethodName := ⟨RX6, "attend", "(II)I"⟩
abbrev cX6_found : ByteArray := prog_8_method_20_code
def yX6_found : MethodName := ⟨RX6, "found", "(I)I"⟩
abbrev cX6_setLot : ByteArray := prog_8_method_21_code
def yX6_setLot : MethodName := ⟨RX6, "setLot", "(I)I"⟩
abbrev cX6_candidates : ByteArray := prog_8_method_22_code
def yX6_candidates : MethodName := ⟨RX6, "candidates", "()I"⟩
abbrev cX6_drawn : ByteArray := prog_8_method_23_code
def yX6_drawn : MethodName := ⟨RX6, "drawn", "(I)I"⟩
abbrev cX6_candidate : ByteArray := prog_8_method_24_code
def yX6_candidate : MethodName := ⟨RX6, "candidate", "(I)I"⟩
abbrev cX6_canWrite : ByteArray := prog_8_method_25_code
def yX6_canWrite : MethodName := ⟨RX6, "canWrite", "(I)Z"⟩
abbrev cX6_writes : ByteArray := prog_8_method_26_code
def yX6_writes : MethodName := ⟨RX6, "writes", "(II)I"⟩
abbrev cX6_change : ByteArray := prog_8_method_27_code
def yX6_change : MethodName := ⟨RX6, "change", "(II)I"⟩
abbrev cX6_forge : ByteArray := prog_8_method_28_code
def yX6_forge : MethodName := ⟨RX6, "forge", "(I)I"⟩
abbrev cX6_propose : ByteArray := prog_8_method_29_code
def yX6_propose : MethodName := ⟨RX6, "propose", "(II)I"⟩
abbrev cX6_second : ByteArray := prog_8_method_30_code
def yX6_second : MethodName := ⟨RX6, "second", "(II)I"⟩
abbrev cX6_learn : ByteArray := prog_8_method_31_code
def yX6_learn : MethodName := ⟨RX6, "learn", "(I)I"⟩
abbrev cX6_undo : ByteArray := prog_8_method_32_code
def yX6_undo : MethodName := ⟨RX6, "undo", "()I"⟩
abbrev cX6_append : ByteArray := prog_8_method_33_code
def yX6_append : MethodName := ⟨RX6, "append", "(I)I"⟩
abbrev cX6_clearText : ByteArray := prog_8_method_34_code
def yX6_clearText : MethodName := ⟨RX6, "clearText", "()I"⟩
abbrev cX6_isAt : ByteArray := prog_8_method_35_code
def yX6_isAt : MethodName := ⟨RX6, "isAt", "(II)Z"⟩
abbrev cX6_number : ByteArray := prog_8_method_36_code
def yX6_number : MethodName := ⟨RX6, "number", "(I)Z"⟩
abbrev cX6_doesOne : ByteArray := prog_8_method_37_code
def yX6_doesOne : MethodName := ⟨RX6, "doesOne", "()I"⟩
abbrev cX6_exchanges : ByteArray := prog_8_method_38_code
def yX6_exchanges : MethodName := ⟨RX6, "exchanges", "()V"⟩
abbrev cX6_holds : ByteArray := prog_8_method_39_code
def yX6_holds : MethodName := ⟨RX6, "holds", "()V"⟩
abbrev cX6_run : ByteArray := prog_8_method_40_code
def yX6_run : MethodName := ⟨RX6, "run", "()I"⟩
abbrev cX6_forged : ByteArray := prog_8_method_41_code
def yX6_forged : MethodName := ⟨RX6, "forged", "()I"⟩
abbrev cX6_isForged : ByteArray := prog_8_method_42_code
def yX6_isForged : MethodName := ⟨RX6, "isForged", "(I)Z"⟩
abbrev cX6_count : ByteArray := prog_8_method_43_code
def yX6_count : MethodName := ⟨RX6, "count", "(I)I"⟩
abbrev cX6_elder : ByteArray := prog_8_method_44_code
def yX6_elder : MethodName := ⟨RX6, "elder", "(II)I"⟩
abbrev cX6_timesDrawn : ByteArray := prog_8_method_45_code
def yX6_timesDrawn : MethodName := ⟨RX6, "timesDrawn", "(I)I"⟩
abbrev cX6_villager : ByteArray := prog_8_method_46_code
def yX6_villager : MethodName := ⟨RX6, "villager", "(II)I"⟩
abbrev cX6_copies : ByteArray := prog_8_method_47_code
def yX6_copies : MethodName := ⟨RX6, "copies", "(I)I"⟩
abbrev cX6_entry : ByteArray := prog_8_method_48_code
def yX6_entry : MethodName := ⟨RX6, "entry", "(II)I"⟩
abbrev cX6_draw : ByteArray := prog_8_method_49_code
def yX6_draw : MethodName := ⟨RX6, "draw", "(II)I"⟩
abbrev cX6_fewest : ByteArray := prog_8_method_50_code
def yX6_fewest : MethodName := ⟨RX6, "fewest", "(III)I"⟩
abbrev cX6_missing : ByteArray := prog_8_method_51_code
def yX6_missing : MethodName := ⟨RX6, "missing", "(I)I"⟩
abbrev cX6_reachable : ByteArray := prog_8_method_52_code
def yX6_reachable : MethodName := ⟨RX6, "reachable", "()I"⟩
abbrev cX6_nextDrawn : ByteArray := prog_8_method_53_code
def yX6_nextDrawn : MethodName := ⟨RX6, "nextDrawn", "(I)I"⟩
abbrev cX6_spare : ByteArray := prog_8_method_54_code
def yX6_spare : MethodName := ⟨RX6, "spare", "()I"⟩
abbrev cX6_lotFor : ByteArray := prog_8_method_55_code
def yX6_lotFor : MethodName := ⟨RX6, "lotFor", "(II)I"⟩
def RJ9 : String := "java/lang/Math"
def TJ9 : u_T := fun k => match k with
  | _ => ("", "", "", false)
def tyJ9 : Nat → FieldType := fun k => match k with
  | _ => .int
abbrev wsJ90 : List Cond := u_ws RJ9 TJ9 0
theorem nmJ9 : ∀ a, a < 0 → ∀ b, b < 0 → a ≠ b → (TJ9 a).2.1 ≠ (TJ9 b).2.1 := by decide +kernel
theorem tyJ9_ok : ∀ k, k < 0 → parseFieldDescriptor (TJ9 k).2.2.1 = some (tyJ9 k) := by decide +kernel
abbrev cJ9_max_7cf53 : ByteArray := prog_9_method_65_code
def yJ9_max_7cf53 : MethodName := ⟨RJ9, "max", "(II)I"⟩
abbrev cJ9_min_7cf53 : ByteArray := prog_9_method_69_code
def yJ9_min_7cf53 : MethodName := ⟨RJ9, "min", "(II)I"⟩
def RJ10 : String := "java/lang/System"
def TJ10 : u_T := fun k => match k with
  | _ => ("", "", "", false)
def tyJ10 : Nat → FieldType := fun k => match k with
  | _ => .int
abbrev wsJ100 : List Cond := u_ws RJ10 TJ10 0
theorem nmJ10 : ∀ a, a < 0 → ∀ b, b < 0 → a ≠ b → (TJ10 a).2.1 ≠ (TJ10 b).2.1 := by decide +kernel
theorem tyJ10_ok : ∀ k, k < 0 → parseFieldDescriptor (TJ10 k).2.2.1 = some (tyJ10 k) := by decide +kernel
def RL : String := "VillageLogLaw"
abbrev cL_law : ByteArray := code
def yL_law : MethodName := ⟨RL, "law", "([I)Z"⟩
def wsX0_init : List Cond := .code yX0_init cX0_init 1 none :: ([.methodLink RX0 3 objectInit, .instanceMethod objectInit, .code objectInit ⟨#[0xb1]⟩ 1 none, .arrayClass .int, .fieldLink RX0 9 "VillageLog$Council" "elders" "[I"] ++ wsX00)
def wsX0_copyFrom : List Cond := .code yX0_copyFrom cX0_copyFrom 2 none :: ([.fieldLink RX0 15 "VillageLog$Council" "size" "I", .fieldLink RX0 9 "VillageLog$Council" "elders" "[I", .methodLink RX0 19 arraycopyName, .native arraycopyName, .static arraycopyName, .initialized "java/lang/System"] ++ wsX00)
def wsX0_seatFirst : List Cond := .code yX0_seatFirst cX0_seatFirst 3 none :: ([.methodLink RX0 25 Lib.Math.min.name, .static Lib.Math.min.name, .initialized "java/lang/Math", .code Lib.Math.min.name Lib.Math.min.code 2 (some .int), .fieldLink RX0 15 "VillageLog$Council" "size" "I", .fieldLink RX0 9 "VillageLog$Council" "elders" "[I"] ++ wsX00)
def wsX0_hasSeat : List Cond := .code yX0_hasSeat cX0_hasSeat 2 (some .boolean) :: ([.fieldLink RX0 15 "VillageLog$Council" "size" "I"] ++ wsX00)
def wsX0_place : List Cond := .code yX0_place cX0_place 3 none :: ([.fieldLink RX0 9 "VillageLog$Council" "elders" "[I", .methodLink RX0 31 yX0_hasSeat, .instanceMethod yX0_hasSeat, .selects RX0 yX0_hasSeat yX0_hasSeat, .initialized RX0, .code yX0_hasSeat cX0_hasSeat 2 (some .boolean), .fieldLink RX0 15 "VillageLog$Council" "size" "I"] ++ wsX00)
def wsX0_size : List Cond := .code yX0_size cX0_size 1 (some .int) :: ([.fieldLink RX0 15 "VillageLog$Council" "size" "I"] ++ wsX00)
def wsX0_isEmpty : List Cond := .code yX0_isEmpty cX0_isEmpty 1 (some .boolean) :: ([.fieldLink RX0 15 "VillageLog$Council" "size" "I"] ++ wsX00)
def wsX0_elderOn : List Cond := .code yX0_elderOn cX0_elderOn 2 (some .int) :: ([.fieldLink RX0 9 "VillageLog$Council" "elders" "[I", .methodLink RX0 31 yX0_hasSeat, .instanceMethod yX0_hasSeat, .selects RX0 yX0_hasSeat yX0_hasSeat, .initialized RX0, .code yX0_hasSeat cX0_hasSeat 2 (some .boolean), .fieldLink RX0 15 "VillageLog$Council" "size" "I"] ++ wsX00)
def wsX0_seatOf : List Cond := .code yX0_seatOf cX0_seatOf 3 (some .int) :: ([.fieldLink RX0 15 "VillageLog$Council" "size" "I", .fieldLink RX0 9 "VillageLog$Council" "elders" "[I"] ++ wsX00)
def wsX0_has : List Cond := .code yX0_has cX0_has 2 (some .boolean) :: ([.methodLink RX0 35 yX0_seatOf, .instanceMethod yX0_seatOf, .selects RX0 yX0_seatOf yX0_seatOf, .initialized RX0, .code yX0_seatOf cX0_seatOf 3 (some .int), .fieldLink RX0 15 "VillageLog$Council" "size" "I", .fieldLink RX0 9 "VillageLog$Council" "elders" "[I"] ++ wsX00)
def wsX0_majority : List Cond := .code yX0_majority cX0_majority 1 (some .int) :: ([.fieldLink RX0 15 "VillageLog$Council" "size" "I"] ++ wsX00)
def wsX2_init : List Cond := .code yX2_init cX2_init 1 none :: ([.methodLink RX2 3 objectInit, .instanceMethod objectInit, .code objectInit ⟨#[0xb1]⟩ 1 none, .fieldLink RX2 9 "VillageLog$Lot" "state" "I", .arrayClass .int, .fieldLink RX2 15 "VillageLog$Lot" "states" "[I", .fieldLink RX2 19 "VillageLog$Lot" "candidates" "[I", .fieldLink RX2 22 "VillageLog$Lot" "drawn" "[I", .fieldLink RX2 25 "VillageLog$Lot" "standing" "[I", .fieldLink RX2 28 "VillageLog$Lot" "seats" "[I"] ++ wsX20)
def wsX4_init_r1 : List Cond := [Cond.methodLink RX4 3 objectInit, Cond.instanceMethod objectInit, Cond.code objectInit ⟨#[0xb1]⟩ 1 none, Cond.arrayClass .int, Cond.fieldLink RX4 9 "VillageLog$Village" "present" "[I", Cond.fieldLink RX4 15 "VillageLog$Village" "copied" "[I", Cond.classLink RX4 18 RX0, Cond.instantiable RX0 2, Cond.initialized RX0, Cond.fieldLink RX4 21 "VillageLog$Village" "oldCouncil" "LVillageLog$Council;", Cond.fieldLink RX4 25 "VillageLog$Village" "newCouncil" "LVillageLog$Council;", Cond.fieldLink RX4 28 "VillageLog$Village" "changeEntry" "I", Cond.classLink RX4 32 RX2, Cond.instantiable RX2 7, Cond.initialized RX2, Cond.fieldLink RX4 35 "VillageLog$Village" "lot" "LVillageLog$Lot;", Cond.fieldLink RX4 39 "VillageLog$Village" "numbers" "[I", Cond.fieldLink RX4 42 "VillageLog$Village" "terms" "[I", Cond.fieldLink RX4 45 "VillageLog$Village" "proposers" "[I", Cond.instanceMethod yX0_init, Cond.code yX0_init cX0_init 1 none, Cond.methodLink RX0 3 objectInit, Cond.fieldLink RX0 9 "VillageLog$Council" "elders" "[I", Cond.instanceMethod yX2_init]
def wsX4_init_r2 : List Cond := [Cond.code yX2_init cX2_init 1 none, Cond.methodLink RX2 3 objectInit, Cond.fieldLink RX2 9 "VillageLog$Lot" "state" "I", Cond.fieldLink RX2 15 "VillageLog$Lot" "states" "[I", Cond.fieldLink RX2 19 "VillageLog$Lot" "candidates" "[I", Cond.fieldLink RX2 22 "VillageLog$Lot" "drawn" "[I", Cond.fieldLink RX2 25 "VillageLog$Lot" "standing" "[I", Cond.fieldLink RX2 28 "VillageLog$Lot" "seats" "[I"]
def wsX4_init : List Cond := .code yX4_init cX4_init 1 none :: ((wsX4_init_r1 ++ wsX4_init_r2) ++ wsX40 ++ wsX00 ++ wsX20)
def wsX1_init_r1 : List Cond := [Cond.methodLink RX1 3 objectInit, Cond.instanceMethod objectInit, Cond.code objectInit ⟨#[0xb1]⟩ 1 none, Cond.classLink RX1 11 RX4, Cond.fieldLink RX1 13 "VillageLog$History" "rows" "[LVillageLog$Village;", Cond.instantiable RX4 13, Cond.initialized RX4, Cond.instanceMethod yX4_init, Cond.code yX4_init cX4_init 1 none, Cond.methodLink RX4 3 objectInit, Cond.arrayClass .int, Cond.fieldLink RX4 9 "VillageLog$Village" "present" "[I", Cond.fieldLink RX4 15 "VillageLog$Village" "copied" "[I", Cond.classLink RX4 18 RX0, Cond.instantiable RX0 2, Cond.initialized RX0, Cond.fieldLink RX4 21 "VillageLog$Village" "oldCouncil" "LVillageLog$Council;", Cond.fieldLink RX4 25 "VillageLog$Village" "newCouncil" "LVillageLog$Council;", Cond.fieldLink RX4 28 "VillageLog$Village" "changeEntry" "I", Cond.classLink RX4 32 RX2, Cond.instantiable RX2 7, Cond.initialized RX2, Cond.fieldLink RX4 35 "VillageLog$Village" "lot" "LVillageLog$Lot;", Cond.fieldLink RX4 39 "VillageLog$Village" "numbers" "[I"]
def wsX1_init_r2 : List Cond := [Cond.fieldLink RX4 42 "VillageLog$Village" "terms" "[I", Cond.fieldLink RX4 45 "VillageLog$Village" "proposers" "[I", Cond.instanceMethod yX0_init, Cond.code yX0_init cX0_init 1 none, Cond.methodLink RX0 3 objectInit, Cond.fieldLink RX0 9 "VillageLog$Council" "elders" "[I", Cond.instanceMethod yX2_init, Cond.code yX2_init cX2_init 1 none, Cond.methodLink RX2 3 objectInit, Cond.fieldLink RX2 9 "VillageLog$Lot" "state" "I", Cond.fieldLink RX2 15 "VillageLog$Lot" "states" "[I", Cond.fieldLink RX2 19 "VillageLog$Lot" "candidates" "[I", Cond.fieldLink RX2 22 "VillageLog$Lot" "drawn" "[I", Cond.fieldLink RX2 25 "VillageLog$Lot" "standing" "[I", Cond.fieldLink RX2 28 "VillageLog$Lot" "seats" "[I"]
def wsX1_init : List Cond := .code yX1_init cX1_init 2 none :: ((wsX1_init_r1 ++ wsX1_init_r2) ++ wsX10 ++ wsX40 ++ wsX00 ++ wsX20)
def wsX1_length : List Cond := .code yX1_length cX1_length 1 (some .int) :: ([.fieldLink RX1 18 "VillageLog$History" "length" "I"] ++ wsX10)
def wsX2_copyFrom : List Cond := .code yX2_copyFrom cX2_copyFrom 2 none :: ([.fieldLink RX2 9 "VillageLog$Lot" "state" "I", .fieldLink RX2 32 "VillageLog$Lot" "draws" "I", .fieldLink RX2 15 "VillageLog$Lot" "states" "[I", .methodLink RX2 35 arraycopyName, .native arraycopyName, .static arraycopyName, .initialized "java/lang/System", .fieldLink RX2 19 "VillageLog$Lot" "candidates" "[I", .fieldLink RX2 22 "VillageLog$Lot" "drawn" "[I", .fieldLink RX2 25 "VillageLog$Lot" "standing" "[I", .fieldLink RX2 28 "VillageLog$Lot" "seats" "[I"] ++ wsX20)
def wsX4_copyFrom_r1 : List Cond := [Cond.fieldLink RX4 48 "VillageLog$Village" "villagers" "I", Cond.fieldLink RX4 9 "VillageLog$Village" "present" "[I", Cond.methodLink RX4 51 arraycopyName, Cond.native arraycopyName, Cond.static arraycopyName, Cond.initialized "java/lang/System", Cond.fieldLink RX4 15 "VillageLog$Village" "copied" "[I", Cond.fieldLink RX4 21 "VillageLog$Village" "oldCouncil" "LVillageLog$Council;", Cond.fieldLink RX4 25 "VillageLog$Village" "newCouncil" "LVillageLog$Council;", Cond.fieldLink RX4 61 "VillageLog$Village" "term" "I", Cond.fieldLink RX4 28 "VillageLog$Village" "changeEntry" "I", Cond.fieldLink RX4 35 "VillageLog$Village" "lot" "LVillageLog$Lot;", Cond.fieldLink RX4 67 "VillageLog$Village" "entries" "I", Cond.fieldLink RX4 70 "VillageLog$Village" "agreed" "I", Cond.fieldLink RX4 39 "VillageLog$Village" "numbers" "[I", Cond.fieldLink RX4 42 "VillageLog$Village" "terms" "[I", Cond.fieldLink RX4 45 "VillageLog$Village" "proposers" "[I", Cond.methodLink RX4 57 yX0_copyFrom, Cond.instanceMethod yX0_copyFrom, Cond.selects RX0 yX0_copyFrom yX0_copyFrom, Cond.initialized RX0, Cond.code yX0_copyFrom cX0_copyFrom 2 none, Cond.fieldLink RX0 15 "VillageLog$Council" "size" "I", Cond.fieldLink RX0 9 "VillageLog$Council" "elders" "[I"]
def wsX4_copyFrom_r2 : List Cond := [Cond.methodLink RX0 19 arraycopyName, Cond.methodLink RX4 64 yX2_copyFrom, Cond.instanceMethod yX2_copyFrom, Cond.selects RX2 yX2_copyFrom yX2_copyFrom, Cond.initialized RX2, Cond.code yX2_copyFrom cX2_copyFrom 2 none, Cond.fieldLink RX2 9 "VillageLog$Lot" "state" "I", Cond.fieldLink RX2 32 "VillageLog$Lot" "draws" "I", Cond.fieldLink RX2 15 "VillageLog$Lot" "states" "[I", Cond.methodLink RX2 35 arraycopyName, Cond.fieldLink RX2 19 "VillageLog$Lot" "candidates" "[I", Cond.fieldLink RX2 22 "VillageLog$Lot" "drawn" "[I", Cond.fieldLink RX2 25 "VillageLog$Lot" "standing" "[I", Cond.fieldLink RX2 28 "VillageLog$Lot" "seats" "[I"]
def wsX4_copyFrom : List Cond := .code yX4_copyFrom cX4_copyFrom 2 none :: ((wsX4_copyFrom_r1 ++ wsX4_copyFrom_r2) ++ wsX40 ++ wsX00 ++ wsX20)
def wsX1_note_r1 : List Cond := [Cond.fieldLink RX1 13 "VillageLog$History" "rows" "[LVillageLog$Village;", Cond.fieldLink RX1 22 "VillageLog$History" "free" "I", Cond.methodLink RX1 25 yX4_copyFrom, Cond.instanceMethod yX4_copyFrom, Cond.selects RX4 yX4_copyFrom yX4_copyFrom, Cond.initialized RX4, Cond.code yX4_copyFrom cX4_copyFrom 2 none, Cond.fieldLink RX4 48 "VillageLog$Village" "villagers" "I", Cond.fieldLink RX4 9 "VillageLog$Village" "present" "[I", Cond.methodLink RX4 51 arraycopyName, Cond.native arraycopyName, Cond.static arraycopyName, Cond.initialized "java/lang/System", Cond.fieldLink RX4 15 "VillageLog$Village" "copied" "[I", Cond.fieldLink RX4 21 "VillageLog$Village" "oldCouncil" "LVillageLog$Council;", Cond.fieldLink RX4 25 "VillageLog$Village" "newCouncil" "LVillageLog$Council;", Cond.fieldLink RX4 61 "VillageLog$Village" "term" "I", Cond.fieldLink RX4 28 "VillageLog$Village" "changeEntry" "I", Cond.fieldLink RX4 35 "VillageLog$Village" "lot" "LVillageLog$Lot;", Cond.fieldLink RX4 67 "VillageLog$Village" "entries" "I", Cond.fieldLink RX4 70 "VillageLog$Village" "agreed" "I", Cond.fieldLink RX4 39 "VillageLog$Village" "numbers" "[I", Cond.fieldLink RX4 42 "VillageLog$Village" "terms" "[I", Cond.fieldLink RX4 45 "VillageLog$Village" "proposers" "[I"]
def wsX1_note_r2 : List Cond := [Cond.methodLink RX4 57 yX0_copyFrom, Cond.instanceMethod yX0_copyFrom, Cond.selects RX0 yX0_copyFrom yX0_copyFrom, Cond.initialized RX0, Cond.code yX0_copyFrom cX0_copyFrom 2 none, Cond.fieldLink RX0 15 "VillageLog$Council" "size" "I", Cond.fieldLink RX0 9 "VillageLog$Council" "elders" "[I", Cond.methodLink RX0 19 arraycopyName, Cond.methodLink RX4 64 yX2_copyFrom, Cond.instanceMethod yX2_copyFrom, Cond.selects RX2 yX2_copyFrom yX2_copyFrom, Cond.initialized RX2, Cond.code yX2_copyFrom cX2_copyFrom 2 none, Cond.fieldLink RX2 9 "VillageLog$Lot" "state" "I", Cond.fieldLink RX2 32 "VillageLog$Lot" "draws" "I", Cond.fieldLink RX2 15 "VillageLog$Lot" "states" "[I", Cond.methodLink RX2 35 arraycopyName, Cond.fieldLink RX2 19 "VillageLog$Lot" "candidates" "[I", Cond.fieldLink RX2 22 "VillageLog$Lot" "drawn" "[I", Cond.fieldLink RX2 25 "VillageLog$Lot" "standing" "[I", Cond.fieldLink RX2 28 "VillageLog$Lot" "seats" "[I"]
def wsX1_note : List Cond := .code yX1_note cX1_note 2 none :: ((wsX1_note_r1 ++ wsX1_note_r2) ++ wsX10 ++ wsX40 ++ wsX00 ++ wsX20)
def wsX1_keep : List Cond := .code yX1_keep cX1_keep 1 none :: ([.fieldLink RX1 22 "VillageLog$History" "free" "I", .fieldLink RX1 18 "VillageLog$History" "length" "I", .methodLink RX1 29 Lib.Math.min.name, .static Lib.Math.min.name, .initialized "java/lang/Math", .code Lib.Math.min.name Lib.Math.min.code 2 (some .int)] ++ wsX10)
def wsX1_restore_r1 : List Cond := [Cond.fieldLink RX1 13 "VillageLog$History" "rows" "[LVillageLog$Village;", Cond.fieldLink RX1 22 "VillageLog$History" "free" "I", Cond.methodLink RX1 25 yX4_copyFrom, Cond.instanceMethod yX4_copyFrom, Cond.selects RX4 yX4_copyFrom yX4_copyFrom, Cond.initialized RX4, Cond.code yX4_copyFrom cX4_copyFrom 2 none, Cond.fieldLink RX4 48 "VillageLog$Village" "villagers" "I", Cond.fieldLink RX4 9 "VillageLog$Village" "present" "[I", Cond.methodLink RX4 51 arraycopyName, Cond.native arraycopyName, Cond.static arraycopyName, Cond.initialized "java/lang/System", Cond.fieldLink RX4 15 "VillageLog$Village" "copied" "[I", Cond.fieldLink RX4 21 "VillageLog$Village" "oldCouncil" "LVillageLog$Council;", Cond.fieldLink RX4 25 "VillageLog$Village" "newCouncil" "LVillageLog$Council;", Cond.fieldLink RX4 61 "VillageLog$Village" "term" "I", Cond.fieldLink RX4 28 "VillageLog$Village" "changeEntry" "I", Cond.fieldLink RX4 35 "VillageLog$Village" "lot" "LVillageLog$Lot;", Cond.fieldLink RX4 67 "VillageLog$Village" "entries" "I", Cond.fieldLink RX4 70 "VillageLog$Village" "agreed" "I", Cond.fieldLink RX4 39 "VillageLog$Village" "numbers" "[I", Cond.fieldLink RX4 42 "VillageLog$Village" "terms" "[I", Cond.fieldLink RX4 45 "VillageLog$Village" "proposers" "[I"]
def wsX1_restore_r2 : List Cond := [Cond.methodLink RX4 57 yX0_copyFrom, Cond.instanceMethod yX0_copyFrom, Cond.selects RX0 yX0_copyFrom yX0_copyFrom, Cond.initialized RX0, Cond.code yX0_copyFrom cX0_copyFrom 2 none, Cond.fieldLink RX0 15 "VillageLog$Council" "size" "I", Cond.fieldLink RX0 9 "VillageLog$Council" "elders" "[I", Cond.methodLink RX0 19 arraycopyName, Cond.methodLink RX4 64 yX2_copyFrom, Cond.instanceMethod yX2_copyFrom, Cond.selects RX2 yX2_copyFrom yX2_copyFrom, Cond.initialized RX2, Cond.code yX2_copyFrom cX2_copyFrom 2 none, Cond.fieldLink RX2 9 "VillageLog$Lot" "state" "I", Cond.fieldLink RX2 32 "VillageLog$Lot" "draws" "I", Cond.fieldLink RX2 15 "VillageLog$Lot" "states" "[I", Cond.methodLink RX2 35 arraycopyName, Cond.fieldLink RX2 19 "VillageLog$Lot" "candidates" "[I", Cond.fieldLink RX2 22 "VillageLog$Lot" "drawn" "[I", Cond.fieldLink RX2 25 "VillageLog$Lot" "standing" "[I", Cond.fieldLink RX2 28 "VillageLog$Lot" "seats" "[I"]
def wsX1_restore : List Cond := .code yX1_restore cX1_restore 2 none :: ((wsX1_restore_r1 ++ wsX1_restore_r2) ++ wsX10 ++ wsX40 ++ wsX00 ++ wsX20)
def wsX1_stepBack_r1 : List Cond := [Cond.fieldLink RX1 18 "VillageLog$History" "length" "I", Cond.fieldLink RX1 22 "VillageLog$History" "free" "I", Cond.methodLink RX1 35 yX1_restore, Cond.instanceMethod yX1_restore, Cond.selects RX1 yX1_restore yX1_restore, Cond.initialized RX1, Cond.code yX1_restore cX1_restore 2 none, Cond.fieldLink RX1 13 "VillageLog$History" "rows" "[LVillageLog$Village;", Cond.methodLink RX1 25 yX4_copyFrom, Cond.instanceMethod yX4_copyFrom, Cond.selects RX4 yX4_copyFrom yX4_copyFrom, Cond.initialized RX4, Cond.code yX4_copyFrom cX4_copyFrom 2 none, Cond.fieldLink RX4 48 "VillageLog$Village" "villagers" "I", Cond.fieldLink RX4 9 "VillageLog$Village" "present" "[I", Cond.methodLink RX4 51 arraycopyName, Cond.native arraycopyName, Cond.static arraycopyName, Cond.initialized "java/lang/System", Cond.fieldLink RX4 15 "VillageLog$Village" "copied" "[I", Cond.fieldLink RX4 21 "VillageLog$Village" "oldCouncil" "LVillageLog$Council;", Cond.fieldLink RX4 25 "VillageLog$Village" "newCouncil" "LVillageLog$Council;", Cond.fieldLink RX4 61 "VillageLog$Village" "term" "I", Cond.fieldLink RX4 28 "VillageLog$Village" "changeEntry" "I"]
def wsX1_stepBack_r2 : List Cond := [Cond.fieldLink RX4 35 "VillageLog$Village" "lot" "LVillageLog$Lot;", Cond.fieldLink RX4 67 "VillageLog$Village" "entries" "I", Cond.fieldLink RX4 70 "VillageLog$Village" "agreed" "I", Cond.fieldLink RX4 39 "VillageLog$Village" "numbers" "[I", Cond.fieldLink RX4 42 "VillageLog$Village" "terms" "[I", Cond.fieldLink RX4 45 "VillageLog$Village" "proposers" "[I", Cond.methodLink RX4 57 yX0_copyFrom, Cond.instanceMethod yX0_copyFrom, Cond.selects RX0 yX0_copyFrom yX0_copyFrom, Cond.initialized RX0, Cond.code yX0_copyFrom cX0_copyFrom 2 none, Cond.fieldLink RX0 15 "VillageLog$Council" "size" "I", Cond.fieldLink RX0 9 "VillageLog$Council" "elders" "[I", Cond.methodLink RX0 19 arraycopyName, Cond.methodLink RX4 64 yX2_copyFrom, Cond.instanceMethod yX2_copyFrom, Cond.selects RX2 yX2_copyFrom yX2_copyFrom, Cond.initialized RX2, Cond.code yX2_copyFrom cX2_copyFrom 2 none, Cond.fieldLink RX2 9 "VillageLog$Lot" "state" "I", Cond.fieldLink RX2 32 "VillageLog$Lot" "draws" "I", Cond.fieldLink RX2 15 "VillageLog$Lot" "states" "[I", Cond.methodLink RX2 35 arraycopyName, Cond.fieldLink RX2 19 "VillageLog$Lot" "candidates" "[I"]
def wsX1_stepBack_r3 : List Cond := [Cond.fieldLink RX2 22 "VillageLog$Lot" "drawn" "[I", Cond.fieldLink RX2 25 "VillageLog$Lot" "standing" "[I", Cond.fieldLink RX2 28 "VillageLog$Lot" "seats" "[I"]
def wsX1_stepBack : List Cond := .code yX1_stepBack cX1_stepBack 2 (some .int) :: ((wsX1_stepBack_r1 ++ (wsX1_stepBack_r2 ++ wsX1_stepBack_r3)) ++ wsX10 ++ wsX40 ++ wsX00 ++ wsX20)
def wsX2_after : List Cond := .code yX2_after cX2_after 1 (some .int) :: ([.constant RX2 31 (65536)])
def wsX2_state : List Cond := .code yX2_state cX2_state 1 (some .int) :: ([.fieldLink RX2 9 "VillageLog$Lot" "state" "I"] ++ wsX20)
def wsX2_setState : List Cond := .code yX2_setState cX2_setState 3 (some .int) :: ([.fieldLink RX2 9 "VillageLog$Lot" "state" "I"] ++ wsX20)
def wsX2_draws : List Cond := .code yX2_draws cX2_draws 1 (some .int) :: ([.fieldLink RX2 32 "VillageLog$Lot" "draws" "I"] ++ wsX20)
def wsX2_write : List Cond := .code yX2_write cX2_write 4 none :: ([.fieldLink RX2 32 "VillageLog$Lot" "draws" "I", .fieldLink RX2 15 "VillageLog$Lot" "states" "[I", .fieldLink RX2 9 "VillageLog$Lot" "state" "I", .fieldLink RX2 19 "VillageLog$Lot" "candidates" "[I", .fieldLink RX2 22 "VillageLog$Lot" "drawn" "[I", .fieldLink RX2 25 "VillageLog$Lot" "standing" "[I", .fieldLink RX2 28 "VillageLog$Lot" "seats" "[I", .methodLink RX2 41 yX2_after, .static yX2_after, .initialized RX2, .code yX2_after cX2_after 1 (some .int), .constant RX2 31 (65536)] ++ wsX20)
def wsX2_forgeLast : List Cond := .code yX2_forgeLast cX2_forgeLast 2 none :: ([.fieldLink RX2 32 "VillageLog$Lot" "draws" "I", .fieldLink RX2 25 "VillageLog$Lot" "standing" "[I"] ++ wsX20)
def wsX2_lastSeat : List Cond := .code yX2_lastSeat cX2_lastSeat 1 (some .int) :: ([.fieldLink RX2 32 "VillageLog$Lot" "draws" "I", .fieldLink RX2 28 "VillageLog$Lot" "seats" "[I"] ++ wsX20)
def wsX2_isForged : List Cond := .code yX2_isForged cX2_isForged 2 (some .boolean) :: ([.fieldLink RX2 32 "VillageLog$Lot" "draws" "I", .fieldLink RX2 25 "VillageLog$Lot" "standing" "[I", .fieldLink RX2 22 "VillageLog$Lot" "drawn" "[I"] ++ wsX20)
def wsX2_forgedDraws : List Cond := .code yX2_forgedDraws cX2_forgedDraws 3 (some .int) :: ([.fieldLink RX2 32 "VillageLog$Lot" "draws" "I", .methodLink RX2 45 yX2_isForged, .instanceMethod yX2_isForged, .selects RX2 yX2_isForged yX2_isForged, .initialized RX2, .code yX2_isForged cX2_isForged 2 (some .boolean), .fieldLink RX2 25 "VillageLog$Lot" "standing" "[I", .fieldLink RX2 22 "VillageLog$Lot" "drawn" "[I"] ++ wsX20)
def wsX2_drawsOf : List Cond := .code yX2_drawsOf cX2_drawsOf 4 (some .int) :: ([.fieldLink RX2 32 "VillageLog$Lot" "draws" "I", .fieldLink RX2 25 "VillageLog$Lot" "standing" "[I"] ++ wsX20)
def wsX2_about : List Cond := .code yX2_about cX2_about 3 (some .int) :: ([.fieldLink RX2 32 "VillageLog$Lot" "draws" "I", .fieldLink RX2 15 "VillageLog$Lot" "states" "[I", .fieldLink RX2 19 "VillageLog$Lot" "candidates" "[I", .fieldLink RX2 25 "VillageLog$Lot" "standing" "[I", .fieldLink RX2 28 "VillageLog$Lot" "seats" "[I", .methodLink RX2 45 yX2_isForged, .instanceMethod yX2_isForged, .selects RX2 yX2_isForged yX2_isForged, .initialized RX2, .code yX2_isForged cX2_isForged 2 (some .boolean), .fieldLink RX2 22 "VillageLog$Lot" "drawn" "[I"] ++ wsX20)
def wsX3_init : List Cond := .code yX3_init cX3_init 1 none :: ([.methodLink RX3 3 objectInit, .instanceMethod objectInit, .code objectInit ⟨#[0xb1]⟩ 1 none, .arrayClass .int, .fieldLink RX3 9 "VillageLog$Text" "characters" "[I"] ++ wsX30)
def wsX3_length : List Cond := .code yX3_length cX3_length 1 (some .int) :: ([.fieldLink RX3 15 "VillageLog$Text" "length" "I"] ++ wsX30)
def wsX3_add : List Cond := .code yX3_add cX3_add 2 (some .int) :: ([.fieldLink RX3 15 "VillageLog$Text" "length" "I", .fieldLink RX3 9 "VillageLog$Text" "characters" "[I"] ++ wsX30)
def wsX3_clear : List Cond := .code yX3_clear cX3_clear 2 (some .int) :: ([.fieldLink RX3 15 "VillageLog$Text" "length" "I"] ++ wsX30)
def wsX3_place : List Cond := .code yX3_place cX3_place 1 (some .int) :: ([.fieldLink RX3 19 "VillageLog$Text" "place" "I"] ++ wsX30)
def wsX3_rewind : List Cond := .code yX3_rewind cX3_rewind 1 none :: ([.fieldLink RX3 19 "VillageLog$Text" "place" "I"] ++ wsX30)
def wsX3_isRead : List Cond := .code yX3_isRead cX3_isRead 1 (some .boolean) :: ([.fieldLink RX3 19 "VillageLog$Text" "place" "I", .fieldLink RX3 15 "VillageLog$Text" "length" "I"] ++ wsX30)
def wsX3_letter : List Cond := .code yX3_letter cX3_letter 1 (some .int) :: ([.fieldLink RX3 22 "VillageLog$Text" "letter" "I"] ++ wsX30)
def wsX3_villagerRead : List Cond := .code yX3_villagerRead cX3_villagerRead 1 (some .int) :: ([.fieldLink RX3 25 "VillageLog$Text" "villagerRead" "I"] ++ wsX30)
def wsX3_numberRead : List Cond := .code yX3_numberRead cX3_numberRead 1 (some .int) :: ([.fieldLink RX3 28 "VillageLog$Text" "numberRead" "I"] ++ wsX30)
def wsX3_next : List Cond := .code yX3_next cX3_next 1 (some .int) :: ([.fieldLink RX3 19 "VillageLog$Text" "place" "I", .fieldLink RX3 15 "VillageLog$Text" "length" "I", .fieldLink RX3 9 "VillageLog$Text" "characters" "[I"] ++ wsX30)
def wsX3_isDigit : List Cond := .code yX3_isDigit cX3_isDigit 1 (some .boolean) :: ([])
def wsX3_readNumber : List Cond := .code yX3_readNumber cX3_readNumber 3 (some .int) :: ([.fieldLink RX3 19 "VillageLog$Text" "place" "I", .methodLink RX3 31 yX3_next, .instanceMethod yX3_next, .selects RX3 yX3_next yX3_next, .initialized RX3, .code yX3_next cX3_next 1 (some .int), .fieldLink RX3 15 "VillageLog$Text" "length" "I", .fieldLink RX3 9 "VillageLog$Text" "characters" "[I", .methodLink RX3 42 yX3_isDigit, .static yX3_isDigit, .code yX3_isDigit cX3_isDigit 1 (some .boolean)] ++ wsX30)
def wsX3_readSign : List Cond := .code yX3_readSign cX3_readSign 2 (some .boolean) :: ([.fieldLink RX3 19 "VillageLog$Text" "place" "I", .methodLink RX3 31 yX3_next, .instanceMethod yX3_next, .selects RX3 yX3_next yX3_next, .initialized RX3, .code yX3_next cX3_next 1 (some .int), .fieldLink RX3 15 "VillageLog$Text" "length" "I", .fieldLink RX3 9 "VillageLog$Text" "characters" "[I"] ++ wsX30)
def wsX3_readCommand : List Cond := .code yX3_readCommand cX3_readCommand 2 (some .boolean) :: ([.fieldLink RX3 22 "VillageLog$Text" "letter" "I", .fieldLink RX3 19 "VillageLog$Text" "place" "I", .fieldLink RX3 25 "VillageLog$Text" "villagerRead" "I", .fieldLink RX3 28 "VillageLog$Text" "numberRead" "I", .methodLink RX3 31 yX3_next, .instanceMethod yX3_next, .selects RX3 yX3_next yX3_next, .initialized RX3, .code yX3_next cX3_next 1 (some .int), .fieldLink RX3 15 "VillageLog$Text" "length" "I", .fieldLink RX3 9 "VillageLog$Text" "characters" "[I", .methodLink RX3 35 yX3_readNumber, .instanceMethod yX3_readNumber, .selects RX3 yX3_readNumber yX3_readNumber, .code yX3_readNumber cX3_readNumber 3 (some .int), .methodLink RX3 42 yX3_isDigit, .static yX3_isDigit, .code yX3_isDigit cX3_isDigit 1 (some .boolean), .methodLink RX3 38 yX3_readSign, .instanceMethod yX3_readSign, .selects RX3 yX3_readSign yX3_readSign, .code yX3_readSign cX3_readSign 2 (some .boolean)] ++ wsX30)
def wsX4_letCome : List Cond := .code yX4_letCome cX4_letCome 1 (some .int) :: ([.fieldLink RX4 48 "VillageLog$Village" "villagers" "I", .fieldLink RX4 9 "VillageLog$Village" "present" "[I", .fieldLink RX4 15 "VillageLog$Village" "copied" "[I"] ++ wsX40)
def wsX4_isVillager : List Cond := .code yX4_isVillager cX4_isVillager 2 (some .boolean) :: ([.fieldLink RX4 48 "VillageLog$Village" "villagers" "I"] ++ wsX40)
def wsX4_presentVillagers : List Cond := .code yX4_presentVillagers cX4_presentVillagers 3 (some .int) :: ([.fieldLink RX4 48 "VillageLog$Village" "villagers" "I", .fieldLink RX4 9 "VillageLog$Village" "present" "[I"] ++ wsX40)
def wsX4_letAttend : List Cond := .code yX4_letAttend cX4_letAttend 3 (some .int) :: ([.fieldLink RX4 9 "VillageLog$Village" "present" "[I", .methodLink RX4 73 yX4_isVillager, .instanceMethod yX4_isVillager, .selects RX4 yX4_isVillager yX4_isVillager, .initialized RX4, .code yX4_isVillager cX4_isVillager 2 (some .boolean), .fieldLink RX4 48 "VillageLog$Village" "villagers" "I", .methodLink RX4 77 yX4_presentVillagers, .instanceMethod yX4_presentVillagers, .selects RX4 yX4_presentVillagers yX4_presentVillagers, .code yX4_presentVillagers cX4_presentVillagers 3 (some .int)] ++ wsX40)
def wsX4_setFirstCouncil_r1 : List Cond := [Cond.fieldLink RX4 21 "VillageLog$Village" "oldCouncil" "LVillageLog$Council;", Cond.fieldLink RX4 48 "VillageLog$Village" "villagers" "I", Cond.fieldLink RX4 25 "VillageLog$Village" "newCouncil" "LVillageLog$Council;", Cond.methodLink RX4 81 yX0_isEmpty, Cond.instanceMethod yX0_isEmpty, Cond.selects RX0 yX0_isEmpty yX0_isEmpty, Cond.initialized RX0, Cond.code yX0_isEmpty cX0_isEmpty 1 (some .boolean), Cond.fieldLink RX0 15 "VillageLog$Council" "size" "I", Cond.methodLink RX4 85 yX0_seatFirst, Cond.instanceMethod yX0_seatFirst, Cond.selects RX0 yX0_seatFirst yX0_seatFirst, Cond.code yX0_seatFirst cX0_seatFirst 3 none, Cond.methodLink RX0 25 Lib.Math.min.name, Cond.static Lib.Math.min.name, Cond.initialized "java/lang/Math", Cond.code Lib.Math.min.name Lib.Math.min.code 2 (some .int), Cond.fieldLink RX0 9 "VillageLog$Council" "elders" "[I", Cond.methodLink RX4 57 yX0_copyFrom, Cond.instanceMethod yX0_copyFrom, Cond.selects RX0 yX0_copyFrom yX0_copyFrom, Cond.code yX0_copyFrom cX0_copyFrom 2 none, Cond.methodLink RX0 19 arraycopyName, Cond.native arraycopyName]
def wsX4_setFirstCouncil_r2 : List Cond := [Cond.static arraycopyName, Cond.initialized "java/lang/System"]
def wsX4_setFirstCouncil : List Cond := .code yX4_setFirstCouncil cX4_setFirstCouncil 2 (some .int) :: ((wsX4_setFirstCouncil_r1 ++ wsX4_setFirstCouncil_r2) ++ wsX40 ++ wsX00)
def wsX4_setLotState : List Cond := .code yX4_setLotState cX4_setLotState 2 (some .int) :: ([.constant RX4 89 (65536), .fieldLink RX4 35 "VillageLog$Village" "lot" "LVillageLog$Lot;", .methodLink RX4 90 yX2_setState, .instanceMethod yX2_setState, .selects RX2 yX2_setState yX2_setState, .initialized RX2, .code yX2_setState cX2_setState 3 (some .int), .fieldLink RX2 9 "VillageLog$Lot" "state" "I"] ++ wsX40 ++ wsX20)
def wsX4_candidatesBefore : List Cond := .code yX4_candidatesBefore cX4_candidatesBefore 4 (some .int) :: ([.fieldLink RX4 21 "VillageLog$Village" "oldCouncil" "LVillageLog$Council;", .methodLink RX4 183 yX0_has, .instanceMethod yX0_has, .selects RX0 yX0_has yX0_has, .initialized RX0, .code yX0_has cX0_has 2 (some .boolean), .methodLink RX0 35 yX0_seatOf, .instanceMethod yX0_seatOf, .selects RX0 yX0_seatOf yX0_seatOf, .code yX0_seatOf cX0_seatOf 3 (some .int), .fieldLink RX0 15 "VillageLog$Council" "size" "I", .fieldLink RX0 9 "VillageLog$Council" "elders" "[I"] ++ wsX40 ++ wsX00)
def wsX4_candidates : List Cond := .code yX4_candidates cX4_candidates 1 (some .int) :: ([.fieldLink RX4 48 "VillageLog$Village" "villagers" "I", .methodLink RX4 186 yX4_candidatesBefore, .instanceMethod yX4_candidatesBefore, .selects RX4 yX4_candidatesBefore yX4_candidatesBefore, .initialized RX4, .code yX4_candidatesBefore cX4_candidatesBefore 4 (some .int), .fieldLink RX4 21 "VillageLog$Village" "oldCouncil" "LVillageLog$Council;", .methodLink RX4 183 yX0_has, .instanceMethod yX0_has, .selects RX0 yX0_has yX0_has, .initialized RX0, .code yX0_has cX0_has 2 (some .boolean), .methodLink RX0 35 yX0_seatOf, .instanceMethod yX0_seatOf, .selects RX0 yX0_seatOf yX0_seatOf, .code yX0_seatOf cX0_seatOf 3 (some .int), .fieldLink RX0 15 "VillageLog$Council" "size" "I", .fieldLink RX0 9 "VillageLog$Council" "elders" "[I"] ++ wsX40 ++ wsX00)
def wsX4_drawnWith_r1 : List Cond := [Cond.fieldLink RX4 48 "VillageLog$Village" "villagers" "I", Cond.fieldLink RX4 21 "VillageLog$Village" "oldCouncil" "LVillageLog$Council;", Cond.methodLink RX4 109 yX4_candidates, Cond.instanceMethod yX4_candidates, Cond.selects RX4 yX4_candidates yX4_candidates, Cond.initialized RX4, Cond.code yX4_candidates cX4_candidates 1 (some .int), Cond.methodLink RX4 186 yX4_candidatesBefore, Cond.instanceMethod yX4_candidatesBefore, Cond.selects RX4 yX4_candidatesBefore yX4_candidatesBefore, Cond.code yX4_candidatesBefore cX4_candidatesBefore 4 (some .int), Cond.methodLink RX4 183 yX0_has, Cond.instanceMethod yX0_has, Cond.selects RX0 yX0_has yX0_has, Cond.initialized RX0, Cond.code yX0_has cX0_has 2 (some .boolean), Cond.methodLink RX0 35 yX0_seatOf, Cond.instanceMethod yX0_seatOf, Cond.selects RX0 yX0_seatOf yX0_seatOf, Cond.code yX0_seatOf cX0_seatOf 3 (some .int), Cond.fieldLink RX0 15 "VillageLog$Council" "size" "I", Cond.fieldLink RX0 9 "VillageLog$Council" "elders" "[I", Cond.methodLink RX4 189 yX2_after, Cond.static yX2_after]
def wsX4_drawnWith_r2 : List Cond := [Cond.initialized RX2, Cond.code yX2_after cX2_after 1 (some .int), Cond.constant RX2 31 (65536)]
def wsX4_drawnWith : List Cond := .code yX4_drawnWith cX4_drawnWith 5 (some .int) :: ((wsX4_drawnWith_r1 ++ wsX4_drawnWith_r2) ++ wsX40 ++ wsX00)
def wsX4_isChanging : List Cond := .code yX4_isChanging cX4_isChanging 1 (some .boolean) :: ([.fieldLink RX4 28 "VillageLog$Village" "changeEntry" "I"] ++ wsX40)
def wsX4_isElder : List Cond := .code yX4_isElder cX4_isElder 2 (some .boolean) :: ([.fieldLink RX4 21 "VillageLog$Village" "oldCouncil" "LVillageLog$Council;", .fieldLink RX4 25 "VillageLog$Village" "newCouncil" "LVillageLog$Council;", .methodLink RX4 183 yX0_has, .instanceMethod yX0_has, .selects RX0 yX0_has yX0_has, .initialized RX0, .code yX0_has cX0_has 2 (some .boolean), .methodLink RX0 35 yX0_seatOf, .instanceMethod yX0_seatOf, .selects RX0 yX0_seatOf yX0_seatOf, .code yX0_seatOf cX0_seatOf 3 (some .int), .fieldLink RX0 15 "VillageLog$Council" "size" "I", .fieldLink RX0 9 "VillageLog$Council" "elders" "[I"] ++ wsX40 ++ wsX00)
def wsX4_isPresent : List Cond := .code yX4_isPresent cX4_isPresent 2 (some .boolean) :: ([.fieldLink RX4 9 "VillageLog$Village" "present" "[I", .methodLink RX4 73 yX4_isVillager, .instanceMethod yX4_isVillager, .selects RX4 yX4_isVillager yX4_isVillager, .initialized RX4, .code yX4_isVillager cX4_isVillager 2 (some .boolean), .fieldLink RX4 48 "VillageLog$Village" "villagers" "I"] ++ wsX40)
def wsX4_mayAct_r1 : List Cond := [Cond.methodLink RX4 126 yX4_isElder, Cond.instanceMethod yX4_isElder, Cond.selects RX4 yX4_isElder yX4_isElder, Cond.initialized RX4, Cond.code yX4_isElder cX4_isElder 2 (some .boolean), Cond.fieldLink RX4 21 "VillageLog$Village" "oldCouncil" "LVillageLog$Council;", Cond.fieldLink RX4 25 "VillageLog$Village" "newCouncil" "LVillageLog$Council;", Cond.methodLink RX4 183 yX0_has, Cond.instanceMethod yX0_has, Cond.selects RX0 yX0_has yX0_has, Cond.initialized RX0, Cond.code yX0_has cX0_has 2 (some .boolean), Cond.methodLink RX0 35 yX0_seatOf, Cond.instanceMethod yX0_seatOf, Cond.selects RX0 yX0_seatOf yX0_seatOf, Cond.code yX0_seatOf cX0_seatOf 3 (some .int), Cond.fieldLink RX0 15 "VillageLog$Council" "size" "I", Cond.fieldLink RX0 9 "VillageLog$Council" "elders" "[I", Cond.methodLink RX4 192 yX4_isPresent, Cond.instanceMethod yX4_isPresent, Cond.selects RX4 yX4_isPresent yX4_isPresent, Cond.code yX4_isPresent cX4_isPresent 2 (some .boolean), Cond.fieldLink RX4 9 "VillageLog$Village" "present" "[I", Cond.methodLink RX4 73 yX4_isVillager]
def wsX4_mayAct_r2 : List Cond := [Cond.instanceMethod yX4_isVillager, Cond.selects RX4 yX4_isVillager yX4_isVillager, Cond.code yX4_isVillager cX4_isVillager 2 (some .boolean), Cond.fieldLink RX4 48 "VillageLog$Village" "villagers" "I"]
def wsX4_mayAct : List Cond := .code yX4_mayAct cX4_mayAct 2 (some .boolean) :: ((wsX4_mayAct_r1 ++ wsX4_mayAct_r2) ++ wsX40 ++ wsX00)
def wsX4_addEntry : List Cond := .code yX4_addEntry cX4_addEntry 3 none :: ([.fieldLink RX4 39 "VillageLog$Village" "numbers" "[I", .fieldLink RX4 67 "VillageLog$Village" "entries" "I", .fieldLink RX4 42 "VillageLog$Village" "terms" "[I", .fieldLink RX4 61 "VillageLog$Village" "term" "I", .fieldLink RX4 45 "VillageLog$Village" "proposers" "[I", .fieldLink RX4 15 "VillageLog$Village" "copied" "[I"] ++ wsX40)
def wsX4_holds : List Cond := .code yX4_holds cX4_holds 3 (some .boolean) :: ([.fieldLink RX4 15 "VillageLog$Village" "copied" "[I", .methodLink RX4 73 yX4_isVillager, .instanceMethod yX4_isVillager, .selects RX4 yX4_isVillager yX4_isVillager, .initialized RX4, .code yX4_isVillager cX4_isVillager 2 (some .boolean), .fieldLink RX4 48 "VillageLog$Village" "villagers" "I"] ++ wsX40)
def wsX4_holders_r1 : List Cond := [Cond.methodLink RX4 147 yX0_size, Cond.instanceMethod yX0_size, Cond.selects RX0 yX0_size yX0_size, Cond.initialized RX0, Cond.code yX0_size cX0_size 1 (some .int), Cond.fieldLink RX0 15 "VillageLog$Council" "size" "I", Cond.methodLink RX4 132 yX0_elderOn, Cond.instanceMethod yX0_elderOn, Cond.selects RX0 yX0_elderOn yX0_elderOn, Cond.code yX0_elderOn cX0_elderOn 2 (some .int), Cond.fieldLink RX0 9 "VillageLog$Council" "elders" "[I", Cond.methodLink RX0 31 yX0_hasSeat, Cond.instanceMethod yX0_hasSeat, Cond.selects RX0 yX0_hasSeat yX0_hasSeat, Cond.code yX0_hasSeat cX0_hasSeat 2 (some .boolean), Cond.methodLink RX4 195 yX4_holds, Cond.instanceMethod yX4_holds, Cond.selects RX4 yX4_holds yX4_holds, Cond.initialized RX4, Cond.code yX4_holds cX4_holds 3 (some .boolean), Cond.fieldLink RX4 15 "VillageLog$Village" "copied" "[I", Cond.methodLink RX4 73 yX4_isVillager, Cond.instanceMethod yX4_isVillager, Cond.selects RX4 yX4_isVillager yX4_isVillager]
def wsX4_holders_r2 : List Cond := [Cond.code yX4_isVillager cX4_isVillager 2 (some .boolean), Cond.fieldLink RX4 48 "VillageLog$Village" "villagers" "I", Cond.methodLink RX4 192 yX4_isPresent, Cond.instanceMethod yX4_isPresent, Cond.selects RX4 yX4_isPresent yX4_isPresent, Cond.code yX4_isPresent cX4_isPresent 2 (some .boolean), Cond.fieldLink RX4 9 "VillageLog$Village" "present" "[I"]
def wsX4_holders : List Cond := .code yX4_holders cX4_holders 7 (some .int) :: ((wsX4_holders_r1 ++ wsX4_holders_r2) ++ wsX00 ++ wsX40)
def wsX4_oldCounts : List Cond := .code yX4_oldCounts cX4_oldCounts 2 (some .boolean) :: ([.fieldLink RX4 28 "VillageLog$Village" "changeEntry" "I", .methodLink RX4 103 yX4_isChanging, .instanceMethod yX4_isChanging, .selects RX4 yX4_isChanging yX4_isChanging, .initialized RX4, .code yX4_isChanging cX4_isChanging 1 (some .boolean)] ++ wsX40)
def wsX4_isSupported_r1 : List Cond := [Cond.fieldLink RX4 25 "VillageLog$Village" "newCouncil" "LVillageLog$Council;", Cond.fieldLink RX4 21 "VillageLog$Village" "oldCouncil" "LVillageLog$Council;", Cond.methodLink RX4 165 yX4_holders, Cond.instanceMethod yX4_holders, Cond.selects RX4 yX4_holders yX4_holders, Cond.initialized RX4, Cond.code yX4_holders cX4_holders 7 (some .int), Cond.methodLink RX4 147 yX0_size, Cond.instanceMethod yX0_size, Cond.selects RX0 yX0_size yX0_size, Cond.initialized RX0, Cond.code yX0_size cX0_size 1 (some .int), Cond.fieldLink RX0 15 "VillageLog$Council" "size" "I", Cond.methodLink RX4 132 yX0_elderOn, Cond.instanceMethod yX0_elderOn, Cond.selects RX0 yX0_elderOn yX0_elderOn, Cond.code yX0_elderOn cX0_elderOn 2 (some .int), Cond.fieldLink RX0 9 "VillageLog$Council" "elders" "[I", Cond.methodLink RX0 31 yX0_hasSeat, Cond.instanceMethod yX0_hasSeat, Cond.selects RX0 yX0_hasSeat yX0_hasSeat, Cond.code yX0_hasSeat cX0_hasSeat 2 (some .boolean), Cond.methodLink RX4 195 yX4_holds, Cond.instanceMethod yX4_holds]
def wsX4_isSupported_r2 : List Cond := [Cond.selects RX4 yX4_holds yX4_holds, Cond.code yX4_holds cX4_holds 3 (some .boolean), Cond.fieldLink RX4 15 "VillageLog$Village" "copied" "[I", Cond.methodLink RX4 73 yX4_isVillager, Cond.instanceMethod yX4_isVillager, Cond.selects RX4 yX4_isVillager yX4_isVillager, Cond.code yX4_isVillager cX4_isVillager 2 (some .boolean), Cond.fieldLink RX4 48 "VillageLog$Village" "villagers" "I", Cond.methodLink RX4 192 yX4_isPresent, Cond.instanceMethod yX4_isPresent, Cond.selects RX4 yX4_isPresent yX4_isPresent, Cond.code yX4_isPresent cX4_isPresent 2 (some .boolean), Cond.fieldLink RX4 9 "VillageLog$Village" "present" "[I", Cond.methodLink RX4 202 yX0_majority, Cond.instanceMethod yX0_majority, Cond.selects RX0 yX0_majority yX0_majority, Cond.code yX0_majority cX0_majority 1 (some .int), Cond.methodLink RX4 172 yX4_oldCounts, Cond.instanceMethod yX4_oldCounts, Cond.selects RX4 yX4_oldCounts yX4_oldCounts, Cond.code yX4_oldCounts cX4_oldCounts 2 (some .boolean), Cond.fieldLink RX4 28 "VillageLog$Village" "changeEntry" "I", Cond.methodLink RX4 103 yX4_isChanging, Cond.instanceMethod yX4_isChanging]
def wsX4_isSupported_r3 : List Cond := [Cond.selects RX4 yX4_isChanging yX4_isChanging, Cond.code yX4_isChanging cX4_isChanging 1 (some .boolean)]
def wsX4_isSupported : List Cond := .code yX4_isSupported cX4_isSupported 3 (some .boolean) :: ((wsX4_isSupported_r1 ++ (wsX4_isSupported_r2 ++ wsX4_isSupported_r3)) ++ wsX40 ++ wsX00)
def wsX4_endChange : List Cond := .code yX4_endChange cX4_endChange 1 none :: ([.fieldLink RX4 21 "VillageLog$Village" "oldCouncil" "LVillageLog$Council;", .fieldLink RX4 25 "VillageLog$Village" "newCouncil" "LVillageLog$Council;", .fieldLink RX4 28 "VillageLog$Village" "changeEntry" "I", .fieldLink RX4 61 "VillageLog$Village" "term" "I", .methodLink RX4 57 yX0_copyFrom, .instanceMethod yX0_copyFrom, .selects RX0 yX0_copyFrom yX0_copyFrom, .initialized RX0, .code yX0_copyFrom cX0_copyFrom 2 none, .fieldLink RX0 15 "VillageLog$Council" "size" "I", .fieldLink RX0 9 "VillageLog$Council" "elders" "[I", .methodLink RX0 19 arraycopyName, .native arraycopyName, .static arraycopyName, .initialized "java/lang/System"] ++ wsX40 ++ wsX00)
def wsX4_agree_r1 : List Cond := [Cond.fieldLink RX4 70 "VillageLog$Village" "agreed" "I", Cond.fieldLink RX4 67 "VillageLog$Village" "entries" "I", Cond.fieldLink RX4 28 "VillageLog$Village" "changeEntry" "I", Cond.methodLink RX4 179 yX4_isSupported, Cond.instanceMethod yX4_isSupported, Cond.selects RX4 yX4_isSupported yX4_isSupported, Cond.initialized RX4, Cond.code yX4_isSupported cX4_isSupported 3 (some .boolean), Cond.fieldLink RX4 25 "VillageLog$Village" "newCouncil" "LVillageLog$Council;", Cond.fieldLink RX4 21 "VillageLog$Village" "oldCouncil" "LVillageLog$Council;", Cond.methodLink RX4 165 yX4_holders, Cond.instanceMethod yX4_holders, Cond.selects RX4 yX4_holders yX4_holders, Cond.code yX4_holders cX4_holders 7 (some .int), Cond.methodLink RX4 147 yX0_size, Cond.instanceMethod yX0_size, Cond.selects RX0 yX0_size yX0_size, Cond.initialized RX0, Cond.code yX0_size cX0_size 1 (some .int), Cond.fieldLink RX0 15 "VillageLog$Council" "size" "I", Cond.methodLink RX4 132 yX0_elderOn, Cond.instanceMethod yX0_elderOn, Cond.selects RX0 yX0_elderOn yX0_elderOn, Cond.code yX0_elderOn cX0_elderOn 2 (some .int)]
def wsX4_agree_r2 : List Cond := [Cond.fieldLink RX0 9 "VillageLog$Council" "elders" "[I", Cond.methodLink RX0 31 yX0_hasSeat, Cond.instanceMethod yX0_hasSeat, Cond.selects RX0 yX0_hasSeat yX0_hasSeat, Cond.code yX0_hasSeat cX0_hasSeat 2 (some .boolean), Cond.methodLink RX4 195 yX4_holds, Cond.instanceMethod yX4_holds, Cond.selects RX4 yX4_holds yX4_holds, Cond.code yX4_holds cX4_holds 3 (some .boolean), Cond.fieldLink RX4 15 "VillageLog$Village" "copied" "[I", Cond.methodLink RX4 73 yX4_isVillager, Cond.instanceMethod yX4_isVillager, Cond.selects RX4 yX4_isVillager yX4_isVillager, Cond.code yX4_isVillager cX4_isVillager 2 (some .boolean), Cond.fieldLink RX4 48 "VillageLog$Village" "villagers" "I", Cond.methodLink RX4 192 yX4_isPresent, Cond.instanceMethod yX4_isPresent, Cond.selects RX4 yX4_isPresent yX4_isPresent, Cond.code yX4_isPresent cX4_isPresent 2 (some .boolean), Cond.fieldLink RX4 9 "VillageLog$Village" "present" "[I", Cond.methodLink RX4 202 yX0_majority, Cond.instanceMethod yX0_majority, Cond.selects RX0 yX0_majority yX0_majority, Cond.code yX0_majority cX0_majority 1 (some .int)]
def wsX4_agree_r3 : List Cond := [Cond.methodLink RX4 172 yX4_oldCounts, Cond.instanceMethod yX4_oldCounts, Cond.selects RX4 yX4_oldCounts yX4_oldCounts, Cond.code yX4_oldCounts cX4_oldCounts 2 (some .boolean), Cond.methodLink RX4 103 yX4_isChanging, Cond.instanceMethod yX4_isChanging, Cond.selects RX4 yX4_isChanging yX4_isChanging, Cond.code yX4_isChanging cX4_isChanging 1 (some .boolean), Cond.methodLink RX4 199 yX4_endChange, Cond.instanceMethod yX4_endChange, Cond.selects RX4 yX4_endChange yX4_endChange, Cond.code yX4_endChange cX4_endChange 1 none, Cond.fieldLink RX4 61 "VillageLog$Village" "term" "I", Cond.methodLink RX4 57 yX0_copyFrom, Cond.instanceMethod yX0_copyFrom, Cond.selects RX0 yX0_copyFrom yX0_copyFrom, Cond.code yX0_copyFrom cX0_copyFrom 2 none, Cond.methodLink RX0 19 arraycopyName, Cond.native arraycopyName, Cond.static arraycopyName, Cond.initialized "java/lang/System"]
def wsX4_agree : List Cond := .code yX4_agree cX4_agree 2 (some .int) :: ((wsX4_agree_r1 ++ (wsX4_agree_r2 ++ wsX4_agree_r3)) ++ wsX40 ++ wsX00)
def wsX4_beginChange_r1 : List Cond := [Cond.fieldLink RX4 21 "VillageLog$Village" "oldCouncil" "LVillageLog$Council;", Cond.fieldLink RX4 35 "VillageLog$Village" "lot" "LVillageLog$Lot;", Cond.fieldLink RX4 15 "VillageLog$Village" "copied" "[I", Cond.fieldLink RX4 67 "VillageLog$Village" "entries" "I", Cond.fieldLink RX4 25 "VillageLog$Village" "newCouncil" "LVillageLog$Council;", Cond.fieldLink RX4 28 "VillageLog$Village" "changeEntry" "I", Cond.methodLink RX4 73 yX4_isVillager, Cond.instanceMethod yX4_isVillager, Cond.selects RX4 yX4_isVillager yX4_isVillager, Cond.initialized RX4, Cond.code yX4_isVillager cX4_isVillager 2 (some .boolean), Cond.fieldLink RX4 48 "VillageLog$Village" "villagers" "I", Cond.methodLink RX4 94 yX0_hasSeat, Cond.instanceMethod yX0_hasSeat, Cond.selects RX0 yX0_hasSeat yX0_hasSeat, Cond.initialized RX0, Cond.code yX0_hasSeat cX0_hasSeat 2 (some .boolean), Cond.fieldLink RX0 15 "VillageLog$Council" "size" "I", Cond.methodLink RX4 97 yX2_state, Cond.instanceMethod yX2_state, Cond.selects RX2 yX2_state yX2_state, Cond.initialized RX2, Cond.code yX2_state cX2_state 1 (some .int), Cond.fieldLink RX2 9 "VillageLog$Lot" "state" "I"]
def wsX4_beginChange_r2 : List Cond := [Cond.methodLink RX4 100 yX4_drawnWith, Cond.instanceMethod yX4_drawnWith, Cond.selects RX4 yX4_drawnWith yX4_drawnWith, Cond.code yX4_drawnWith cX4_drawnWith 5 (some .int), Cond.methodLink RX4 109 yX4_candidates, Cond.instanceMethod yX4_candidates, Cond.selects RX4 yX4_candidates yX4_candidates, Cond.code yX4_candidates cX4_candidates 1 (some .int), Cond.methodLink RX4 186 yX4_candidatesBefore, Cond.instanceMethod yX4_candidatesBefore, Cond.selects RX4 yX4_candidatesBefore yX4_candidatesBefore, Cond.code yX4_candidatesBefore cX4_candidatesBefore 4 (some .int), Cond.methodLink RX4 183 yX0_has, Cond.instanceMethod yX0_has, Cond.selects RX0 yX0_has yX0_has, Cond.code yX0_has cX0_has 2 (some .boolean), Cond.methodLink RX0 35 yX0_seatOf, Cond.instanceMethod yX0_seatOf, Cond.selects RX0 yX0_seatOf yX0_seatOf, Cond.code yX0_seatOf cX0_seatOf 3 (some .int), Cond.fieldLink RX0 9 "VillageLog$Council" "elders" "[I", Cond.methodLink RX4 189 yX2_after, Cond.static yX2_after, Cond.code yX2_after cX2_after 1 (some .int)]
def wsX4_beginChange_r3 : List Cond := [Cond.constant RX2 31 (65536), Cond.methodLink RX4 103 yX4_isChanging, Cond.instanceMethod yX4_isChanging, Cond.selects RX4 yX4_isChanging yX4_isChanging, Cond.code yX4_isChanging cX4_isChanging 1 (some .boolean), Cond.methodLink RX4 106 yX4_mayAct, Cond.instanceMethod yX4_mayAct, Cond.selects RX4 yX4_mayAct yX4_mayAct, Cond.code yX4_mayAct cX4_mayAct 2 (some .boolean), Cond.methodLink RX4 126 yX4_isElder, Cond.instanceMethod yX4_isElder, Cond.selects RX4 yX4_isElder yX4_isElder, Cond.code yX4_isElder cX4_isElder 2 (some .boolean), Cond.methodLink RX4 192 yX4_isPresent, Cond.instanceMethod yX4_isPresent, Cond.selects RX4 yX4_isPresent yX4_isPresent, Cond.code yX4_isPresent cX4_isPresent 2 (some .boolean), Cond.fieldLink RX4 9 "VillageLog$Village" "present" "[I", Cond.methodLink RX4 112 yX2_write, Cond.instanceMethod yX2_write, Cond.selects RX2 yX2_write yX2_write, Cond.code yX2_write cX2_write 4 none, Cond.fieldLink RX2 32 "VillageLog$Lot" "draws" "I", Cond.fieldLink RX2 15 "VillageLog$Lot" "states" "[I"]
def wsX4_beginChange_r4 : List Cond := [Cond.fieldLink RX2 19 "VillageLog$Lot" "candidates" "[I", Cond.fieldLink RX2 22 "VillageLog$Lot" "drawn" "[I", Cond.fieldLink RX2 25 "VillageLog$Lot" "standing" "[I", Cond.fieldLink RX2 28 "VillageLog$Lot" "seats" "[I", Cond.methodLink RX2 41 yX2_after, Cond.methodLink RX4 116 yX0_place, Cond.instanceMethod yX0_place, Cond.selects RX0 yX0_place yX0_place, Cond.code yX0_place cX0_place 3 none, Cond.methodLink RX0 31 yX0_hasSeat, Cond.methodLink RX4 120 yX4_addEntry, Cond.instanceMethod yX4_addEntry, Cond.selects RX4 yX4_addEntry yX4_addEntry, Cond.code yX4_addEntry cX4_addEntry 3 none, Cond.fieldLink RX4 39 "VillageLog$Village" "numbers" "[I", Cond.fieldLink RX4 42 "VillageLog$Village" "terms" "[I", Cond.fieldLink RX4 61 "VillageLog$Village" "term" "I", Cond.fieldLink RX4 45 "VillageLog$Village" "proposers" "[I", Cond.methodLink RX4 123 yX4_agree, Cond.instanceMethod yX4_agree, Cond.selects RX4 yX4_agree yX4_agree, Cond.code yX4_agree cX4_agree 2 (some .int), Cond.fieldLink RX4 70 "VillageLog$Village" "agreed" "I", Cond.methodLink RX4 179 yX4_isSupported]
def wsX4_beginChange_r5 : List Cond := [Cond.instanceMethod yX4_isSupported, Cond.selects RX4 yX4_isSupported yX4_isSupported, Cond.code yX4_isSupported cX4_isSupported 3 (some .boolean), Cond.methodLink RX4 165 yX4_holders, Cond.instanceMethod yX4_holders, Cond.selects RX4 yX4_holders yX4_holders, Cond.code yX4_holders cX4_holders 7 (some .int), Cond.methodLink RX4 147 yX0_size, Cond.instanceMethod yX0_size, Cond.selects RX0 yX0_size yX0_size, Cond.code yX0_size cX0_size 1 (some .int), Cond.methodLink RX4 132 yX0_elderOn, Cond.instanceMethod yX0_elderOn, Cond.selects RX0 yX0_elderOn yX0_elderOn, Cond.code yX0_elderOn cX0_elderOn 2 (some .int), Cond.methodLink RX4 195 yX4_holds, Cond.instanceMethod yX4_holds, Cond.selects RX4 yX4_holds yX4_holds, Cond.code yX4_holds cX4_holds 3 (some .boolean), Cond.methodLink RX4 202 yX0_majority, Cond.instanceMethod yX0_majority, Cond.selects RX0 yX0_majority yX0_majority, Cond.code yX0_majority cX0_majority 1 (some .int), Cond.methodLink RX4 172 yX4_oldCounts]
def wsX4_beginChange_r6 : List Cond := [Cond.instanceMethod yX4_oldCounts, Cond.selects RX4 yX4_oldCounts yX4_oldCounts, Cond.code yX4_oldCounts cX4_oldCounts 2 (some .boolean), Cond.methodLink RX4 199 yX4_endChange, Cond.instanceMethod yX4_endChange, Cond.selects RX4 yX4_endChange yX4_endChange, Cond.code yX4_endChange cX4_endChange 1 none, Cond.methodLink RX4 57 yX0_copyFrom, Cond.instanceMethod yX0_copyFrom, Cond.selects RX0 yX0_copyFrom yX0_copyFrom, Cond.code yX0_copyFrom cX0_copyFrom 2 none, Cond.methodLink RX0 19 arraycopyName, Cond.native arraycopyName, Cond.static arraycopyName, Cond.initialized "java/lang/System"]
def wsX4_beginChange : List Cond := .code yX4_beginChange cX4_beginChange 4 (some .int) :: ((wsX4_beginChange_r1 ++ (wsX4_beginChange_r2 ++ (wsX4_beginChange_r3 ++ (wsX4_beginChange_r4 ++ (wsX4_beginChange_r5 ++ wsX4_beginChange_r6))))) ++ wsX40 ++ wsX00 ++ wsX20)
def wsX4_forgeLot_r1 : List Cond := [Cond.fieldLink RX4 35 "VillageLog$Village" "lot" "LVillageLog$Lot;", Cond.fieldLink RX4 25 "VillageLog$Village" "newCouncil" "LVillageLog$Council;", Cond.methodLink RX4 73 yX4_isVillager, Cond.instanceMethod yX4_isVillager, Cond.selects RX4 yX4_isVillager yX4_isVillager, Cond.initialized RX4, Cond.code yX4_isVillager cX4_isVillager 2 (some .boolean), Cond.fieldLink RX4 48 "VillageLog$Village" "villagers" "I", Cond.methodLink RX4 103 yX4_isChanging, Cond.instanceMethod yX4_isChanging, Cond.selects RX4 yX4_isChanging yX4_isChanging, Cond.code yX4_isChanging cX4_isChanging 1 (some .boolean), Cond.fieldLink RX4 28 "VillageLog$Village" "changeEntry" "I", Cond.methodLink RX4 126 yX4_isElder, Cond.instanceMethod yX4_isElder, Cond.selects RX4 yX4_isElder yX4_isElder, Cond.code yX4_isElder cX4_isElder 2 (some .boolean), Cond.fieldLink RX4 21 "VillageLog$Village" "oldCouncil" "LVillageLog$Council;", Cond.methodLink RX4 183 yX0_has, Cond.instanceMethod yX0_has, Cond.selects RX0 yX0_has yX0_has, Cond.initialized RX0, Cond.code yX0_has cX0_has 2 (some .boolean), Cond.methodLink RX0 35 yX0_seatOf]
def wsX4_forgeLot_r2 : List Cond := [Cond.instanceMethod yX0_seatOf, Cond.selects RX0 yX0_seatOf yX0_seatOf, Cond.code yX0_seatOf cX0_seatOf 3 (some .int), Cond.fieldLink RX0 15 "VillageLog$Council" "size" "I", Cond.fieldLink RX0 9 "VillageLog$Council" "elders" "[I", Cond.methodLink RX4 129 yX2_lastSeat, Cond.instanceMethod yX2_lastSeat, Cond.selects RX2 yX2_lastSeat yX2_lastSeat, Cond.initialized RX2, Cond.code yX2_lastSeat cX2_lastSeat 1 (some .int), Cond.fieldLink RX2 32 "VillageLog$Lot" "draws" "I", Cond.fieldLink RX2 28 "VillageLog$Lot" "seats" "[I", Cond.methodLink RX4 132 yX0_elderOn, Cond.instanceMethod yX0_elderOn, Cond.selects RX0 yX0_elderOn yX0_elderOn, Cond.code yX0_elderOn cX0_elderOn 2 (some .int), Cond.methodLink RX0 31 yX0_hasSeat, Cond.instanceMethod yX0_hasSeat, Cond.selects RX0 yX0_hasSeat yX0_hasSeat, Cond.code yX0_hasSeat cX0_hasSeat 2 (some .boolean), Cond.methodLink RX4 116 yX0_place, Cond.instanceMethod yX0_place, Cond.selects RX0 yX0_place yX0_place, Cond.code yX0_place cX0_place 3 none]
def wsX4_forgeLot_r3 : List Cond := [Cond.methodLink RX4 135 yX2_forgeLast, Cond.instanceMethod yX2_forgeLast, Cond.selects RX2 yX2_forgeLast yX2_forgeLast, Cond.code yX2_forgeLast cX2_forgeLast 2 none, Cond.fieldLink RX2 25 "VillageLog$Lot" "standing" "[I", Cond.methodLink RX4 123 yX4_agree, Cond.instanceMethod yX4_agree, Cond.selects RX4 yX4_agree yX4_agree, Cond.code yX4_agree cX4_agree 2 (some .int), Cond.fieldLink RX4 70 "VillageLog$Village" "agreed" "I", Cond.fieldLink RX4 67 "VillageLog$Village" "entries" "I", Cond.methodLink RX4 179 yX4_isSupported, Cond.instanceMethod yX4_isSupported, Cond.selects RX4 yX4_isSupported yX4_isSupported, Cond.code yX4_isSupported cX4_isSupported 3 (some .boolean), Cond.methodLink RX4 165 yX4_holders, Cond.instanceMethod yX4_holders, Cond.selects RX4 yX4_holders yX4_holders, Cond.code yX4_holders cX4_holders 7 (some .int), Cond.methodLink RX4 147 yX0_size, Cond.instanceMethod yX0_size, Cond.selects RX0 yX0_size yX0_size, Cond.code yX0_size cX0_size 1 (some .int), Cond.methodLink RX4 195 yX4_holds]
def wsX4_forgeLot_r4 : List Cond := [Cond.instanceMethod yX4_holds, Cond.selects RX4 yX4_holds yX4_holds, Cond.code yX4_holds cX4_holds 3 (some .boolean), Cond.fieldLink RX4 15 "VillageLog$Village" "copied" "[I", Cond.methodLink RX4 192 yX4_isPresent, Cond.instanceMethod yX4_isPresent, Cond.selects RX4 yX4_isPresent yX4_isPresent, Cond.code yX4_isPresent cX4_isPresent 2 (some .boolean), Cond.fieldLink RX4 9 "VillageLog$Village" "present" "[I", Cond.methodLink RX4 202 yX0_majority, Cond.instanceMethod yX0_majority, Cond.selects RX0 yX0_majority yX0_majority, Cond.code yX0_majority cX0_majority 1 (some .int), Cond.methodLink RX4 172 yX4_oldCounts, Cond.instanceMethod yX4_oldCounts, Cond.selects RX4 yX4_oldCounts yX4_oldCounts, Cond.code yX4_oldCounts cX4_oldCounts 2 (some .boolean), Cond.methodLink RX4 199 yX4_endChange, Cond.instanceMethod yX4_endChange, Cond.selects RX4 yX4_endChange yX4_endChange, Cond.code yX4_endChange cX4_endChange 1 none, Cond.fieldLink RX4 61 "VillageLog$Village" "term" "I", Cond.methodLink RX4 57 yX0_copyFrom, Cond.instanceMethod yX0_copyFrom]
def wsX4_forgeLot_r5 : List Cond := [Cond.selects RX0 yX0_copyFrom yX0_copyFrom, Cond.code yX0_copyFrom cX0_copyFrom 2 none, Cond.methodLink RX0 19 arraycopyName, Cond.native arraycopyName, Cond.static arraycopyName, Cond.initialized "java/lang/System"]
def wsX4_forgeLot : List Cond := .code yX4_forgeLot cX4_forgeLot 4 (some .int) :: ((wsX4_forgeLot_r1 ++ (wsX4_forgeLot_r2 ++ (wsX4_forgeLot_r3 ++ (wsX4_forgeLot_r4 ++ wsX4_forgeLot_r5)))) ++ wsX40 ++ wsX00 ++ wsX20)
def wsX4_proposeEntry_r1 : List Cond := [Cond.fieldLink RX4 15 "VillageLog$Village" "copied" "[I", Cond.fieldLink RX4 67 "VillageLog$Village" "entries" "I", Cond.methodLink RX4 73 yX4_isVillager, Cond.instanceMethod yX4_isVillager, Cond.selects RX4 yX4_isVillager yX4_isVillager, Cond.initialized RX4, Cond.code yX4_isVillager cX4_isVillager 2 (some .boolean), Cond.fieldLink RX4 48 "VillageLog$Village" "villagers" "I", Cond.methodLink RX4 106 yX4_mayAct, Cond.instanceMethod yX4_mayAct, Cond.selects RX4 yX4_mayAct yX4_mayAct, Cond.code yX4_mayAct cX4_mayAct 2 (some .boolean), Cond.methodLink RX4 126 yX4_isElder, Cond.instanceMethod yX4_isElder, Cond.selects RX4 yX4_isElder yX4_isElder, Cond.code yX4_isElder cX4_isElder 2 (some .boolean), Cond.fieldLink RX4 21 "VillageLog$Village" "oldCouncil" "LVillageLog$Council;", Cond.fieldLink RX4 25 "VillageLog$Village" "newCouncil" "LVillageLog$Council;", Cond.methodLink RX4 183 yX0_has, Cond.instanceMethod yX0_has, Cond.selects RX0 yX0_has yX0_has, Cond.initialized RX0, Cond.code yX0_has cX0_has 2 (some .boolean), Cond.methodLink RX0 35 yX0_seatOf]
def wsX4_proposeEntry_r2 : List Cond := [Cond.instanceMethod yX0_seatOf, Cond.selects RX0 yX0_seatOf yX0_seatOf, Cond.code yX0_seatOf cX0_seatOf 3 (some .int), Cond.fieldLink RX0 15 "VillageLog$Council" "size" "I", Cond.fieldLink RX0 9 "VillageLog$Council" "elders" "[I", Cond.methodLink RX4 192 yX4_isPresent, Cond.instanceMethod yX4_isPresent, Cond.selects RX4 yX4_isPresent yX4_isPresent, Cond.code yX4_isPresent cX4_isPresent 2 (some .boolean), Cond.fieldLink RX4 9 "VillageLog$Village" "present" "[I", Cond.methodLink RX4 120 yX4_addEntry, Cond.instanceMethod yX4_addEntry, Cond.selects RX4 yX4_addEntry yX4_addEntry, Cond.code yX4_addEntry cX4_addEntry 3 none, Cond.fieldLink RX4 39 "VillageLog$Village" "numbers" "[I", Cond.fieldLink RX4 42 "VillageLog$Village" "terms" "[I", Cond.fieldLink RX4 61 "VillageLog$Village" "term" "I", Cond.fieldLink RX4 45 "VillageLog$Village" "proposers" "[I", Cond.methodLink RX4 123 yX4_agree, Cond.instanceMethod yX4_agree, Cond.selects RX4 yX4_agree yX4_agree, Cond.code yX4_agree cX4_agree 2 (some .int), Cond.fieldLink RX4 70 "VillageLog$Village" "agreed" "I", Cond.fieldLink RX4 28 "VillageLog$Village" "changeEntry" "I"]
def wsX4_proposeEntry_r3 : List Cond := [Cond.methodLink RX4 179 yX4_isSupported, Cond.instanceMethod yX4_isSupported, Cond.selects RX4 yX4_isSupported yX4_isSupported, Cond.code yX4_isSupported cX4_isSupported 3 (some .boolean), Cond.methodLink RX4 165 yX4_holders, Cond.instanceMethod yX4_holders, Cond.selects RX4 yX4_holders yX4_holders, Cond.code yX4_holders cX4_holders 7 (some .int), Cond.methodLink RX4 147 yX0_size, Cond.instanceMethod yX0_size, Cond.selects RX0 yX0_size yX0_size, Cond.code yX0_size cX0_size 1 (some .int), Cond.methodLink RX4 132 yX0_elderOn, Cond.instanceMethod yX0_elderOn, Cond.selects RX0 yX0_elderOn yX0_elderOn, Cond.code yX0_elderOn cX0_elderOn 2 (some .int), Cond.methodLink RX0 31 yX0_hasSeat, Cond.instanceMethod yX0_hasSeat, Cond.selects RX0 yX0_hasSeat yX0_hasSeat, Cond.code yX0_hasSeat cX0_hasSeat 2 (some .boolean), Cond.methodLink RX4 195 yX4_holds, Cond.instanceMethod yX4_holds, Cond.selects RX4 yX4_holds yX4_holds, Cond.code yX4_holds cX4_holds 3 (some .boolean)]
def wsX4_proposeEntry_r4 : List Cond := [Cond.methodLink RX4 202 yX0_majority, Cond.instanceMethod yX0_majority, Cond.selects RX0 yX0_majority yX0_majority, Cond.code yX0_majority cX0_majority 1 (some .int), Cond.methodLink RX4 172 yX4_oldCounts, Cond.instanceMethod yX4_oldCounts, Cond.selects RX4 yX4_oldCounts yX4_oldCounts, Cond.code yX4_oldCounts cX4_oldCounts 2 (some .boolean), Cond.methodLink RX4 103 yX4_isChanging, Cond.instanceMethod yX4_isChanging, Cond.selects RX4 yX4_isChanging yX4_isChanging, Cond.code yX4_isChanging cX4_isChanging 1 (some .boolean), Cond.methodLink RX4 199 yX4_endChange, Cond.instanceMethod yX4_endChange, Cond.selects RX4 yX4_endChange yX4_endChange, Cond.code yX4_endChange cX4_endChange 1 none, Cond.methodLink RX4 57 yX0_copyFrom, Cond.instanceMethod yX0_copyFrom, Cond.selects RX0 yX0_copyFrom yX0_copyFrom, Cond.code yX0_copyFrom cX0_copyFrom 2 none, Cond.methodLink RX0 19 arraycopyName, Cond.native arraycopyName, Cond.static arraycopyName, Cond.initialized "java/lang/System"]
def wsX4_proposeEntry : List Cond := .code yX4_proposeEntry cX4_proposeEntry 3 (some .int) :: ((wsX4_proposeEntry_r1 ++ (wsX4_proposeEntry_r2 ++ (wsX4_proposeEntry_r3 ++ wsX4_proposeEntry_r4))) ++ wsX40 ++ wsX00)
def wsX4_isEntry : List Cond := .code yX4_isEntry cX4_isEntry 2 (some .boolean) :: ([.fieldLink RX4 67 "VillageLog$Village" "entries" "I"] ++ wsX40)
def wsX4_secondEntry_r1 : List Cond := [Cond.fieldLink RX4 15 "VillageLog$Village" "copied" "[I", Cond.methodLink RX4 73 yX4_isVillager, Cond.instanceMethod yX4_isVillager, Cond.selects RX4 yX4_isVillager yX4_isVillager, Cond.initialized RX4, Cond.code yX4_isVillager cX4_isVillager 2 (some .boolean), Cond.fieldLink RX4 48 "VillageLog$Village" "villagers" "I", Cond.methodLink RX4 138 yX4_isEntry, Cond.instanceMethod yX4_isEntry, Cond.selects RX4 yX4_isEntry yX4_isEntry, Cond.code yX4_isEntry cX4_isEntry 2 (some .boolean), Cond.fieldLink RX4 67 "VillageLog$Village" "entries" "I", Cond.methodLink RX4 106 yX4_mayAct, Cond.instanceMethod yX4_mayAct, Cond.selects RX4 yX4_mayAct yX4_mayAct, Cond.code yX4_mayAct cX4_mayAct 2 (some .boolean), Cond.methodLink RX4 126 yX4_isElder, Cond.instanceMethod yX4_isElder, Cond.selects RX4 yX4_isElder yX4_isElder, Cond.code yX4_isElder cX4_isElder 2 (some .boolean), Cond.fieldLink RX4 21 "VillageLog$Village" "oldCouncil" "LVillageLog$Council;", Cond.fieldLink RX4 25 "VillageLog$Village" "newCouncil" "LVillageLog$Council;", Cond.methodLink RX4 183 yX0_has, Cond.instanceMethod yX0_has]
def wsX4_secondEntry_r2 : List Cond := [Cond.selects RX0 yX0_has yX0_has, Cond.initialized RX0, Cond.code yX0_has cX0_has 2 (some .boolean), Cond.methodLink RX0 35 yX0_seatOf, Cond.instanceMethod yX0_seatOf, Cond.selects RX0 yX0_seatOf yX0_seatOf, Cond.code yX0_seatOf cX0_seatOf 3 (some .int), Cond.fieldLink RX0 15 "VillageLog$Council" "size" "I", Cond.fieldLink RX0 9 "VillageLog$Council" "elders" "[I", Cond.methodLink RX4 192 yX4_isPresent, Cond.instanceMethod yX4_isPresent, Cond.selects RX4 yX4_isPresent yX4_isPresent, Cond.code yX4_isPresent cX4_isPresent 2 (some .boolean), Cond.fieldLink RX4 9 "VillageLog$Village" "present" "[I", Cond.methodLink RX4 123 yX4_agree, Cond.instanceMethod yX4_agree, Cond.selects RX4 yX4_agree yX4_agree, Cond.code yX4_agree cX4_agree 2 (some .int), Cond.fieldLink RX4 70 "VillageLog$Village" "agreed" "I", Cond.fieldLink RX4 28 "VillageLog$Village" "changeEntry" "I", Cond.methodLink RX4 179 yX4_isSupported, Cond.instanceMethod yX4_isSupported, Cond.selects RX4 yX4_isSupported yX4_isSupported, Cond.code yX4_isSupported cX4_isSupported 3 (some .boolean)]
def wsX4_secondEntry_r3 : List Cond := [Cond.methodLink RX4 165 yX4_holders, Cond.instanceMethod yX4_holders, Cond.selects RX4 yX4_holders yX4_holders, Cond.code yX4_holders cX4_holders 7 (some .int), Cond.methodLink RX4 147 yX0_size, Cond.instanceMethod yX0_size, Cond.selects RX0 yX0_size yX0_size, Cond.code yX0_size cX0_size 1 (some .int), Cond.methodLink RX4 132 yX0_elderOn, Cond.instanceMethod yX0_elderOn, Cond.selects RX0 yX0_elderOn yX0_elderOn, Cond.code yX0_elderOn cX0_elderOn 2 (some .int), Cond.methodLink RX0 31 yX0_hasSeat, Cond.instanceMethod yX0_hasSeat, Cond.selects RX0 yX0_hasSeat yX0_hasSeat, Cond.code yX0_hasSeat cX0_hasSeat 2 (some .boolean), Cond.methodLink RX4 195 yX4_holds, Cond.instanceMethod yX4_holds, Cond.selects RX4 yX4_holds yX4_holds, Cond.code yX4_holds cX4_holds 3 (some .boolean), Cond.methodLink RX4 202 yX0_majority, Cond.instanceMethod yX0_majority, Cond.selects RX0 yX0_majority yX0_majority, Cond.code yX0_majority cX0_majority 1 (some .int)]
def wsX4_secondEntry_r4 : List Cond := [Cond.methodLink RX4 172 yX4_oldCounts, Cond.instanceMethod yX4_oldCounts, Cond.selects RX4 yX4_oldCounts yX4_oldCounts, Cond.code yX4_oldCounts cX4_oldCounts 2 (some .boolean), Cond.methodLink RX4 103 yX4_isChanging, Cond.instanceMethod yX4_isChanging, Cond.selects RX4 yX4_isChanging yX4_isChanging, Cond.code yX4_isChanging cX4_isChanging 1 (some .boolean), Cond.methodLink RX4 199 yX4_endChange, Cond.instanceMethod yX4_endChange, Cond.selects RX4 yX4_endChange yX4_endChange, Cond.code yX4_endChange cX4_endChange 1 none, Cond.fieldLink RX4 61 "VillageLog$Village" "term" "I", Cond.methodLink RX4 57 yX0_copyFrom, Cond.instanceMethod yX0_copyFrom, Cond.selects RX0 yX0_copyFrom yX0_copyFrom, Cond.code yX0_copyFrom cX0_copyFrom 2 none, Cond.methodLink RX0 19 arraycopyName, Cond.native arraycopyName, Cond.static arraycopyName, Cond.initialized "java/lang/System"]
def wsX4_secondEntry : List Cond := .code yX4_secondEntry cX4_secondEntry 3 (some .int) :: ((wsX4_secondEntry_r1 ++ (wsX4_secondEntry_r2 ++ (wsX4_secondEntry_r3 ++ wsX4_secondEntry_r4))) ++ wsX40 ++ wsX00)
def wsX4_learnEntries : List Cond := .code yX4_learnEntries cX4_learnEntries 3 (some .int) :: ([.fieldLink RX4 9 "VillageLog$Village" "present" "[I", .fieldLink RX4 70 "VillageLog$Village" "agreed" "I", .fieldLink RX4 15 "VillageLog$Village" "copied" "[I", .methodLink RX4 141 Lib.Math.max.name, .static Lib.Math.max.name, .initialized "java/lang/Math", .code Lib.Math.max.name Lib.Math.max.code 2 (some .int), .methodLink RX4 73 yX4_isVillager, .instanceMethod yX4_isVillager, .selects RX4 yX4_isVillager yX4_isVillager, .initialized RX4, .code yX4_isVillager cX4_isVillager 2 (some .boolean), .fieldLink RX4 48 "VillageLog$Village" "villagers" "I"] ++ wsX40)
def wsX4_tally_r1 : List Cond := [Cond.fieldLink RX4 48 "VillageLog$Village" "villagers" "I", Cond.fieldLink RX4 21 "VillageLog$Village" "oldCouncil" "LVillageLog$Council;", Cond.fieldLink RX4 61 "VillageLog$Village" "term" "I", Cond.fieldLink RX4 67 "VillageLog$Village" "entries" "I", Cond.fieldLink RX4 70 "VillageLog$Village" "agreed" "I", Cond.fieldLink RX4 35 "VillageLog$Village" "lot" "LVillageLog$Lot;", Cond.methodLink RX4 77 yX4_presentVillagers, Cond.instanceMethod yX4_presentVillagers, Cond.selects RX4 yX4_presentVillagers yX4_presentVillagers, Cond.initialized RX4, Cond.code yX4_presentVillagers cX4_presentVillagers 3 (some .int), Cond.fieldLink RX4 9 "VillageLog$Village" "present" "[I", Cond.methodLink RX4 147 yX0_size, Cond.instanceMethod yX0_size, Cond.selects RX0 yX0_size yX0_size, Cond.initialized RX0, Cond.code yX0_size cX0_size 1 (some .int), Cond.fieldLink RX0 15 "VillageLog$Council" "size" "I", Cond.methodLink RX4 103 yX4_isChanging, Cond.instanceMethod yX4_isChanging, Cond.selects RX4 yX4_isChanging yX4_isChanging, Cond.code yX4_isChanging cX4_isChanging 1 (some .boolean), Cond.fieldLink RX4 28 "VillageLog$Village" "changeEntry" "I", Cond.methodLink RX4 97 yX2_state]
def wsX4_tally_r2 : List Cond := [Cond.instanceMethod yX2_state, Cond.selects RX2 yX2_state yX2_state, Cond.initialized RX2, Cond.code yX2_state cX2_state 1 (some .int), Cond.fieldLink RX2 9 "VillageLog$Lot" "state" "I", Cond.methodLink RX4 150 yX2_draws, Cond.instanceMethod yX2_draws, Cond.selects RX2 yX2_draws yX2_draws, Cond.code yX2_draws cX2_draws 1 (some .int), Cond.fieldLink RX2 32 "VillageLog$Lot" "draws" "I", Cond.methodLink RX4 153 yX2_forgedDraws, Cond.instanceMethod yX2_forgedDraws, Cond.selects RX2 yX2_forgedDraws yX2_forgedDraws, Cond.code yX2_forgedDraws cX2_forgedDraws 3 (some .int), Cond.methodLink RX2 45 yX2_isForged, Cond.instanceMethod yX2_isForged, Cond.selects RX2 yX2_isForged yX2_isForged, Cond.code yX2_isForged cX2_isForged 2 (some .boolean), Cond.fieldLink RX2 25 "VillageLog$Lot" "standing" "[I", Cond.fieldLink RX2 22 "VillageLog$Lot" "drawn" "[I"]
def wsX4_tally : List Cond := .code yX4_tally cX4_tally 2 (some .int) :: ((wsX4_tally_r1 ++ wsX4_tally_r2) ++ wsX40 ++ wsX00 ++ wsX20)
def wsX4_elderOf : List Cond := .code yX4_elderOf cX4_elderOf 3 (some .int) :: ([.fieldLink RX4 21 "VillageLog$Village" "oldCouncil" "LVillageLog$Council;", .fieldLink RX4 25 "VillageLog$Village" "newCouncil" "LVillageLog$Council;", .methodLink RX4 94 yX0_hasSeat, .instanceMethod yX0_hasSeat, .selects RX0 yX0_hasSeat yX0_hasSeat, .initialized RX0, .code yX0_hasSeat cX0_hasSeat 2 (some .boolean), .fieldLink RX0 15 "VillageLog$Council" "size" "I", .methodLink RX4 132 yX0_elderOn, .instanceMethod yX0_elderOn, .selects RX0 yX0_elderOn yX0_elderOn, .code yX0_elderOn cX0_elderOn 2 (some .int), .fieldLink RX0 9 "VillageLog$Council" "elders" "[I", .methodLink RX0 31 yX0_hasSeat, .methodLink RX4 103 yX4_isChanging, .instanceMethod yX4_isChanging, .selects RX4 yX4_isChanging yX4_isChanging, .initialized RX4, .code yX4_isChanging cX4_isChanging 1 (some .boolean), .fieldLink RX4 28 "VillageLog$Village" "changeEntry" "I"] ++ wsX40 ++ wsX00)
def wsX4_aboutVillager_r1 : List Cond := [Cond.fieldLink RX4 9 "VillageLog$Village" "present" "[I", Cond.fieldLink RX4 15 "VillageLog$Village" "copied" "[I", Cond.fieldLink RX4 21 "VillageLog$Village" "oldCouncil" "LVillageLog$Council;", Cond.fieldLink RX4 25 "VillageLog$Village" "newCouncil" "LVillageLog$Council;", Cond.fieldLink RX4 35 "VillageLog$Village" "lot" "LVillageLog$Lot;", Cond.methodLink RX4 73 yX4_isVillager, Cond.instanceMethod yX4_isVillager, Cond.selects RX4 yX4_isVillager yX4_isVillager, Cond.initialized RX4, Cond.code yX4_isVillager cX4_isVillager 2 (some .boolean), Cond.fieldLink RX4 48 "VillageLog$Village" "villagers" "I", Cond.methodLink RX4 156 yX0_seatOf, Cond.instanceMethod yX0_seatOf, Cond.selects RX0 yX0_seatOf yX0_seatOf, Cond.initialized RX0, Cond.code yX0_seatOf cX0_seatOf 3 (some .int), Cond.fieldLink RX0 15 "VillageLog$Council" "size" "I", Cond.fieldLink RX0 9 "VillageLog$Council" "elders" "[I", Cond.methodLink RX4 159 yX2_drawsOf, Cond.instanceMethod yX2_drawsOf, Cond.selects RX2 yX2_drawsOf yX2_drawsOf, Cond.initialized RX2, Cond.code yX2_drawsOf cX2_drawsOf 4 (some .int), Cond.fieldLink RX2 32 "VillageLog$Lot" "draws" "I"]
def wsX4_aboutVillager_r2 : List Cond := [Cond.fieldLink RX2 25 "VillageLog$Lot" "standing" "[I"]
def wsX4_aboutVillager : List Cond := .code yX4_aboutVillager cX4_aboutVillager 3 (some .int) :: ((wsX4_aboutVillager_r1 ++ wsX4_aboutVillager_r2) ++ wsX40 ++ wsX00 ++ wsX20)
def wsX4_copies : List Cond := .code yX4_copies cX4_copies 4 (some .int) :: ([.fieldLink RX4 48 "VillageLog$Village" "villagers" "I", .methodLink RX4 195 yX4_holds, .instanceMethod yX4_holds, .selects RX4 yX4_holds yX4_holds, .initialized RX4, .code yX4_holds cX4_holds 3 (some .boolean), .fieldLink RX4 15 "VillageLog$Village" "copied" "[I", .methodLink RX4 73 yX4_isVillager, .instanceMethod yX4_isVillager, .selects RX4 yX4_isVillager yX4_isVillager, .code yX4_isVillager cX4_isVillager 2 (some .boolean)] ++ wsX40)
def wsX4_aboutEntry_r1 : List Cond := [Cond.fieldLink RX4 39 "VillageLog$Village" "numbers" "[I", Cond.fieldLink RX4 42 "VillageLog$Village" "terms" "[I", Cond.fieldLink RX4 70 "VillageLog$Village" "agreed" "I", Cond.fieldLink RX4 45 "VillageLog$Village" "proposers" "[I", Cond.fieldLink RX4 21 "VillageLog$Village" "oldCouncil" "LVillageLog$Council;", Cond.fieldLink RX4 25 "VillageLog$Village" "newCouncil" "LVillageLog$Council;", Cond.methodLink RX4 138 yX4_isEntry, Cond.instanceMethod yX4_isEntry, Cond.selects RX4 yX4_isEntry yX4_isEntry, Cond.initialized RX4, Cond.code yX4_isEntry cX4_isEntry 2 (some .boolean), Cond.fieldLink RX4 67 "VillageLog$Village" "entries" "I", Cond.methodLink RX4 162 yX4_copies, Cond.instanceMethod yX4_copies, Cond.selects RX4 yX4_copies yX4_copies, Cond.code yX4_copies cX4_copies 4 (some .int), Cond.fieldLink RX4 48 "VillageLog$Village" "villagers" "I", Cond.methodLink RX4 195 yX4_holds, Cond.instanceMethod yX4_holds, Cond.selects RX4 yX4_holds yX4_holds, Cond.code yX4_holds cX4_holds 3 (some .boolean), Cond.fieldLink RX4 15 "VillageLog$Village" "copied" "[I", Cond.methodLink RX4 73 yX4_isVillager, Cond.instanceMethod yX4_isVillager]
def wsX4_aboutEntry_r2 : List Cond := [Cond.selects RX4 yX4_isVillager yX4_isVillager, Cond.code yX4_isVillager cX4_isVillager 2 (some .boolean), Cond.methodLink RX4 165 yX4_holders, Cond.instanceMethod yX4_holders, Cond.selects RX4 yX4_holders yX4_holders, Cond.code yX4_holders cX4_holders 7 (some .int), Cond.methodLink RX4 147 yX0_size, Cond.instanceMethod yX0_size, Cond.selects RX0 yX0_size yX0_size, Cond.initialized RX0, Cond.code yX0_size cX0_size 1 (some .int), Cond.fieldLink RX0 15 "VillageLog$Council" "size" "I", Cond.methodLink RX4 132 yX0_elderOn, Cond.instanceMethod yX0_elderOn, Cond.selects RX0 yX0_elderOn yX0_elderOn, Cond.code yX0_elderOn cX0_elderOn 2 (some .int), Cond.fieldLink RX0 9 "VillageLog$Council" "elders" "[I", Cond.methodLink RX0 31 yX0_hasSeat, Cond.instanceMethod yX0_hasSeat, Cond.selects RX0 yX0_hasSeat yX0_hasSeat, Cond.code yX0_hasSeat cX0_hasSeat 2 (some .boolean), Cond.methodLink RX4 192 yX4_isPresent, Cond.instanceMethod yX4_isPresent, Cond.selects RX4 yX4_isPresent yX4_isPresent]
def wsX4_aboutEntry_r3 : List Cond := [Cond.code yX4_isPresent cX4_isPresent 2 (some .boolean), Cond.fieldLink RX4 9 "VillageLog$Village" "present" "[I"]
def wsX4_aboutEntry : List Cond := .code yX4_aboutEntry cX4_aboutEntry 3 (some .int) :: ((wsX4_aboutEntry_r1 ++ (wsX4_aboutEntry_r2 ++ wsX4_aboutEntry_r3)) ++ wsX40 ++ wsX00)
def wsX4_aboutDraw : List Cond := .code yX4_aboutDraw cX4_aboutDraw 3 (some .int) :: ([.fieldLink RX4 35 "VillageLog$Village" "lot" "LVillageLog$Lot;", .methodLink RX4 169 yX2_about, .instanceMethod yX2_about, .selects RX2 yX2_about yX2_about, .initialized RX2, .code yX2_about cX2_about 3 (some .int), .fieldLink RX2 32 "VillageLog$Lot" "draws" "I", .fieldLink RX2 15 "VillageLog$Lot" "states" "[I", .fieldLink RX2 19 "VillageLog$Lot" "candidates" "[I", .fieldLink RX2 25 "VillageLog$Lot" "standing" "[I", .fieldLink RX2 28 "VillageLog$Lot" "seats" "[I", .methodLink RX2 45 yX2_isForged, .instanceMethod yX2_isForged, .selects RX2 yX2_isForged yX2_isForged, .code yX2_isForged cX2_isForged 2 (some .boolean), .fieldLink RX2 22 "VillageLog$Lot" "drawn" "[I"] ++ wsX40 ++ wsX20)
def wsX4_lacking_r1 : List Cond := [Cond.methodLink RX4 141 Lib.Math.max.name, Cond.static Lib.Math.max.name, Cond.initialized "java/lang/Math", Cond.code Lib.Math.max.name Lib.Math.max.code 2 (some .int), Cond.methodLink RX4 202 yX0_majority, Cond.instanceMethod yX0_majority, Cond.selects RX0 yX0_majority yX0_majority, Cond.initialized RX0, Cond.code yX0_majority cX0_majority 1 (some .int), Cond.fieldLink RX0 15 "VillageLog$Council" "size" "I", Cond.methodLink RX4 165 yX4_holders, Cond.instanceMethod yX4_holders, Cond.selects RX4 yX4_holders yX4_holders, Cond.initialized RX4, Cond.code yX4_holders cX4_holders 7 (some .int), Cond.methodLink RX4 147 yX0_size, Cond.instanceMethod yX0_size, Cond.selects RX0 yX0_size yX0_size, Cond.code yX0_size cX0_size 1 (some .int), Cond.methodLink RX4 132 yX0_elderOn, Cond.instanceMethod yX0_elderOn, Cond.selects RX0 yX0_elderOn yX0_elderOn, Cond.code yX0_elderOn cX0_elderOn 2 (some .int), Cond.fieldLink RX0 9 "VillageLog$Council" "elders" "[I"]
def wsX4_lacking_r2 : List Cond := [Cond.methodLink RX0 31 yX0_hasSeat, Cond.instanceMethod yX0_hasSeat, Cond.selects RX0 yX0_hasSeat yX0_hasSeat, Cond.code yX0_hasSeat cX0_hasSeat 2 (some .boolean), Cond.methodLink RX4 195 yX4_holds, Cond.instanceMethod yX4_holds, Cond.selects RX4 yX4_holds yX4_holds, Cond.code yX4_holds cX4_holds 3 (some .boolean), Cond.fieldLink RX4 15 "VillageLog$Village" "copied" "[I", Cond.methodLink RX4 73 yX4_isVillager, Cond.instanceMethod yX4_isVillager, Cond.selects RX4 yX4_isVillager yX4_isVillager, Cond.code yX4_isVillager cX4_isVillager 2 (some .boolean), Cond.fieldLink RX4 48 "VillageLog$Village" "villagers" "I", Cond.methodLink RX4 192 yX4_isPresent, Cond.instanceMethod yX4_isPresent, Cond.selects RX4 yX4_isPresent yX4_isPresent, Cond.code yX4_isPresent cX4_isPresent 2 (some .boolean), Cond.fieldLink RX4 9 "VillageLog$Village" "present" "[I"]
def wsX4_lacking : List Cond := .code yX4_lacking cX4_lacking 3 (some .int) :: ((wsX4_lacking_r1 ++ wsX4_lacking_r2) ++ wsX00 ++ wsX40)
def wsX4_commonWithout_r1 : List Cond := [Cond.fieldLink RX4 21 "VillageLog$Village" "oldCouncil" "LVillageLog$Council;", Cond.fieldLink RX4 25 "VillageLog$Village" "newCouncil" "LVillageLog$Council;", Cond.methodLink RX4 147 yX0_size, Cond.instanceMethod yX0_size, Cond.selects RX0 yX0_size yX0_size, Cond.initialized RX0, Cond.code yX0_size cX0_size 1 (some .int), Cond.fieldLink RX0 15 "VillageLog$Council" "size" "I", Cond.methodLink RX4 132 yX0_elderOn, Cond.instanceMethod yX0_elderOn, Cond.selects RX0 yX0_elderOn yX0_elderOn, Cond.code yX0_elderOn cX0_elderOn 2 (some .int), Cond.fieldLink RX0 9 "VillageLog$Council" "elders" "[I", Cond.methodLink RX0 31 yX0_hasSeat, Cond.instanceMethod yX0_hasSeat, Cond.selects RX0 yX0_hasSeat yX0_hasSeat, Cond.code yX0_hasSeat cX0_hasSeat 2 (some .boolean), Cond.methodLink RX4 183 yX0_has, Cond.instanceMethod yX0_has, Cond.selects RX0 yX0_has yX0_has, Cond.code yX0_has cX0_has 2 (some .boolean), Cond.methodLink RX0 35 yX0_seatOf, Cond.instanceMethod yX0_seatOf, Cond.selects RX0 yX0_seatOf yX0_seatOf]
def wsX4_commonWithout_r2 : List Cond := [Cond.code yX0_seatOf cX0_seatOf 3 (some .int), Cond.methodLink RX4 195 yX4_holds, Cond.instanceMethod yX4_holds, Cond.selects RX4 yX4_holds yX4_holds, Cond.initialized RX4, Cond.code yX4_holds cX4_holds 3 (some .boolean), Cond.fieldLink RX4 15 "VillageLog$Village" "copied" "[I", Cond.methodLink RX4 73 yX4_isVillager, Cond.instanceMethod yX4_isVillager, Cond.selects RX4 yX4_isVillager yX4_isVillager, Cond.code yX4_isVillager cX4_isVillager 2 (some .boolean), Cond.fieldLink RX4 48 "VillageLog$Village" "villagers" "I"]
def wsX4_commonWithout : List Cond := .code yX4_commonWithout cX4_commonWithout 5 (some .int) :: ((wsX4_commonWithout_r1 ++ wsX4_commonWithout_r2) ++ wsX40 ++ wsX00)
def wsX4_fewestToSecond_r1 : List Cond := [Cond.fieldLink RX4 25 "VillageLog$Village" "newCouncil" "LVillageLog$Council;", Cond.fieldLink RX4 21 "VillageLog$Village" "oldCouncil" "LVillageLog$Council;", Cond.methodLink RX4 209 Lib.Math.min.name, Cond.static Lib.Math.min.name, Cond.initialized "java/lang/Math", Cond.code Lib.Math.min.name Lib.Math.min.code 2 (some .int), Cond.methodLink RX4 205 yX4_lacking, Cond.instanceMethod yX4_lacking, Cond.selects RX4 yX4_lacking yX4_lacking, Cond.initialized RX4, Cond.code yX4_lacking cX4_lacking 3 (some .int), Cond.methodLink RX4 141 Lib.Math.max.name, Cond.static Lib.Math.max.name, Cond.code Lib.Math.max.name Lib.Math.max.code 2 (some .int), Cond.methodLink RX4 202 yX0_majority, Cond.instanceMethod yX0_majority, Cond.selects RX0 yX0_majority yX0_majority, Cond.initialized RX0, Cond.code yX0_majority cX0_majority 1 (some .int), Cond.fieldLink RX0 15 "VillageLog$Council" "size" "I", Cond.methodLink RX4 165 yX4_holders, Cond.instanceMethod yX4_holders, Cond.selects RX4 yX4_holders yX4_holders, Cond.code yX4_holders cX4_holders 7 (some .int)]
def wsX4_fewestToSecond_r2 : List Cond := [Cond.methodLink RX4 147 yX0_size, Cond.instanceMethod yX0_size, Cond.selects RX0 yX0_size yX0_size, Cond.code yX0_size cX0_size 1 (some .int), Cond.methodLink RX4 132 yX0_elderOn, Cond.instanceMethod yX0_elderOn, Cond.selects RX0 yX0_elderOn yX0_elderOn, Cond.code yX0_elderOn cX0_elderOn 2 (some .int), Cond.fieldLink RX0 9 "VillageLog$Council" "elders" "[I", Cond.methodLink RX0 31 yX0_hasSeat, Cond.instanceMethod yX0_hasSeat, Cond.selects RX0 yX0_hasSeat yX0_hasSeat, Cond.code yX0_hasSeat cX0_hasSeat 2 (some .boolean), Cond.methodLink RX4 195 yX4_holds, Cond.instanceMethod yX4_holds, Cond.selects RX4 yX4_holds yX4_holds, Cond.code yX4_holds cX4_holds 3 (some .boolean), Cond.fieldLink RX4 15 "VillageLog$Village" "copied" "[I", Cond.methodLink RX4 73 yX4_isVillager, Cond.instanceMethod yX4_isVillager, Cond.selects RX4 yX4_isVillager yX4_isVillager, Cond.code yX4_isVillager cX4_isVillager 2 (some .boolean), Cond.fieldLink RX4 48 "VillageLog$Village" "villagers" "I", Cond.methodLink RX4 192 yX4_isPresent]
def wsX4_fewestToSecond_r3 : List Cond := [Cond.instanceMethod yX4_isPresent, Cond.selects RX4 yX4_isPresent yX4_isPresent, Cond.code yX4_isPresent cX4_isPresent 2 (some .boolean), Cond.fieldLink RX4 9 "VillageLog$Village" "present" "[I", Cond.methodLink RX4 212 yX4_commonWithout, Cond.instanceMethod yX4_commonWithout, Cond.selects RX4 yX4_commonWithout yX4_commonWithout, Cond.code yX4_commonWithout cX4_commonWithout 5 (some .int), Cond.methodLink RX4 183 yX0_has, Cond.instanceMethod yX0_has, Cond.selects RX0 yX0_has yX0_has, Cond.code yX0_has cX0_has 2 (some .boolean), Cond.methodLink RX0 35 yX0_seatOf, Cond.instanceMethod yX0_seatOf, Cond.selects RX0 yX0_seatOf yX0_seatOf, Cond.code yX0_seatOf cX0_seatOf 3 (some .int)]
def wsX4_fewestToSecond : List Cond := .code yX4_fewestToSecond cX4_fewestToSecond 6 (some .int) :: ((wsX4_fewestToSecond_r1 ++ (wsX4_fewestToSecond_r2 ++ wsX4_fewestToSecond_r3)) ++ wsX40 ++ wsX00)
def wsX4_missingElders_r1 : List Cond := [Cond.fieldLink RX4 70 "VillageLog$Village" "agreed" "I", Cond.methodLink RX4 138 yX4_isEntry, Cond.instanceMethod yX4_isEntry, Cond.selects RX4 yX4_isEntry yX4_isEntry, Cond.initialized RX4, Cond.code yX4_isEntry cX4_isEntry 2 (some .boolean), Cond.fieldLink RX4 67 "VillageLog$Village" "entries" "I", Cond.methodLink RX4 172 yX4_oldCounts, Cond.instanceMethod yX4_oldCounts, Cond.selects RX4 yX4_oldCounts yX4_oldCounts, Cond.code yX4_oldCounts cX4_oldCounts 2 (some .boolean), Cond.fieldLink RX4 28 "VillageLog$Village" "changeEntry" "I", Cond.methodLink RX4 103 yX4_isChanging, Cond.instanceMethod yX4_isChanging, Cond.selects RX4 yX4_isChanging yX4_isChanging, Cond.code yX4_isChanging cX4_isChanging 1 (some .boolean), Cond.methodLink RX4 175 yX4_fewestToSecond, Cond.instanceMethod yX4_fewestToSecond, Cond.selects RX4 yX4_fewestToSecond yX4_fewestToSecond, Cond.code yX4_fewestToSecond cX4_fewestToSecond 6 (some .int), Cond.fieldLink RX4 25 "VillageLog$Village" "newCouncil" "LVillageLog$Council;", Cond.fieldLink RX4 21 "VillageLog$Village" "oldCouncil" "LVillageLog$Council;", Cond.methodLink RX4 209 Lib.Math.min.name, Cond.static Lib.Math.min.name]
def wsX4_missingElders_r2 : List Cond := [Cond.initialized "java/lang/Math", Cond.code Lib.Math.min.name Lib.Math.min.code 2 (some .int), Cond.methodLink RX4 205 yX4_lacking, Cond.instanceMethod yX4_lacking, Cond.selects RX4 yX4_lacking yX4_lacking, Cond.code yX4_lacking cX4_lacking 3 (some .int), Cond.methodLink RX4 141 Lib.Math.max.name, Cond.static Lib.Math.max.name, Cond.code Lib.Math.max.name Lib.Math.max.code 2 (some .int), Cond.methodLink RX4 202 yX0_majority, Cond.instanceMethod yX0_majority, Cond.selects RX0 yX0_majority yX0_majority, Cond.initialized RX0, Cond.code yX0_majority cX0_majority 1 (some .int), Cond.fieldLink RX0 15 "VillageLog$Council" "size" "I", Cond.methodLink RX4 165 yX4_holders, Cond.instanceMethod yX4_holders, Cond.selects RX4 yX4_holders yX4_holders, Cond.code yX4_holders cX4_holders 7 (some .int), Cond.methodLink RX4 147 yX0_size, Cond.instanceMethod yX0_size, Cond.selects RX0 yX0_size yX0_size, Cond.code yX0_size cX0_size 1 (some .int), Cond.methodLink RX4 132 yX0_elderOn]
def wsX4_missingElders_r3 : List Cond := [Cond.instanceMethod yX0_elderOn, Cond.selects RX0 yX0_elderOn yX0_elderOn, Cond.code yX0_elderOn cX0_elderOn 2 (some .int), Cond.fieldLink RX0 9 "VillageLog$Council" "elders" "[I", Cond.methodLink RX0 31 yX0_hasSeat, Cond.instanceMethod yX0_hasSeat, Cond.selects RX0 yX0_hasSeat yX0_hasSeat, Cond.code yX0_hasSeat cX0_hasSeat 2 (some .boolean), Cond.methodLink RX4 195 yX4_holds, Cond.instanceMethod yX4_holds, Cond.selects RX4 yX4_holds yX4_holds, Cond.code yX4_holds cX4_holds 3 (some .boolean), Cond.fieldLink RX4 15 "VillageLog$Village" "copied" "[I", Cond.methodLink RX4 73 yX4_isVillager, Cond.instanceMethod yX4_isVillager, Cond.selects RX4 yX4_isVillager yX4_isVillager, Cond.code yX4_isVillager cX4_isVillager 2 (some .boolean), Cond.fieldLink RX4 48 "VillageLog$Village" "villagers" "I", Cond.methodLink RX4 192 yX4_isPresent, Cond.instanceMethod yX4_isPresent, Cond.selects RX4 yX4_isPresent yX4_isPresent, Cond.code yX4_isPresent cX4_isPresent 2 (some .boolean), Cond.fieldLink RX4 9 "VillageLog$Village" "present" "[I", Cond.methodLink RX4 212 yX4_commonWithout]
def wsX4_missingElders_r4 : List Cond := [Cond.instanceMethod yX4_commonWithout, Cond.selects RX4 yX4_commonWithout yX4_commonWithout, Cond.code yX4_commonWithout cX4_commonWithout 5 (some .int), Cond.methodLink RX4 183 yX0_has, Cond.instanceMethod yX0_has, Cond.selects RX0 yX0_has yX0_has, Cond.code yX0_has cX0_has 2 (some .boolean), Cond.methodLink RX0 35 yX0_seatOf, Cond.instanceMethod yX0_seatOf, Cond.selects RX0 yX0_seatOf yX0_seatOf, Cond.code yX0_seatOf cX0_seatOf 3 (some .int)]
def wsX4_missingElders : List Cond := .code yX4_missingElders cX4_missingElders 2 (some .int) :: ((wsX4_missingElders_r1 ++ (wsX4_missingElders_r2 ++ (wsX4_missingElders_r3 ++ wsX4_missingElders_r4))) ++ wsX40 ++ wsX00)
def wsX4_reachableEntries_r1 : List Cond := [Cond.fieldLink RX4 70 "VillageLog$Village" "agreed" "I", Cond.fieldLink RX4 67 "VillageLog$Village" "entries" "I", Cond.methodLink RX4 179 yX4_isSupported, Cond.instanceMethod yX4_isSupported, Cond.selects RX4 yX4_isSupported yX4_isSupported, Cond.initialized RX4, Cond.code yX4_isSupported cX4_isSupported 3 (some .boolean), Cond.fieldLink RX4 25 "VillageLog$Village" "newCouncil" "LVillageLog$Council;", Cond.fieldLink RX4 21 "VillageLog$Village" "oldCouncil" "LVillageLog$Council;", Cond.methodLink RX4 165 yX4_holders, Cond.instanceMethod yX4_holders, Cond.selects RX4 yX4_holders yX4_holders, Cond.code yX4_holders cX4_holders 7 (some .int), Cond.methodLink RX4 147 yX0_size, Cond.instanceMethod yX0_size, Cond.selects RX0 yX0_size yX0_size, Cond.initialized RX0, Cond.code yX0_size cX0_size 1 (some .int), Cond.fieldLink RX0 15 "VillageLog$Council" "size" "I", Cond.methodLink RX4 132 yX0_elderOn, Cond.instanceMethod yX0_elderOn, Cond.selects RX0 yX0_elderOn yX0_elderOn, Cond.code yX0_elderOn cX0_elderOn 2 (some .int), Cond.fieldLink RX0 9 "VillageLog$Council" "elders" "[I"]
def wsX4_reachableEntries_r2 : List Cond := [Cond.methodLink RX0 31 yX0_hasSeat, Cond.instanceMethod yX0_hasSeat, Cond.selects RX0 yX0_hasSeat yX0_hasSeat, Cond.code yX0_hasSeat cX0_hasSeat 2 (some .boolean), Cond.methodLink RX4 195 yX4_holds, Cond.instanceMethod yX4_holds, Cond.selects RX4 yX4_holds yX4_holds, Cond.code yX4_holds cX4_holds 3 (some .boolean), Cond.fieldLink RX4 15 "VillageLog$Village" "copied" "[I", Cond.methodLink RX4 73 yX4_isVillager, Cond.instanceMethod yX4_isVillager, Cond.selects RX4 yX4_isVillager yX4_isVillager, Cond.code yX4_isVillager cX4_isVillager 2 (some .boolean), Cond.fieldLink RX4 48 "VillageLog$Village" "villagers" "I", Cond.methodLink RX4 192 yX4_isPresent, Cond.instanceMethod yX4_isPresent, Cond.selects RX4 yX4_isPresent yX4_isPresent, Cond.code yX4_isPresent cX4_isPresent 2 (some .boolean), Cond.fieldLink RX4 9 "VillageLog$Village" "present" "[I", Cond.methodLink RX4 202 yX0_majority, Cond.instanceMethod yX0_majority, Cond.selects RX0 yX0_majority yX0_majority, Cond.code yX0_majority cX0_majority 1 (some .int), Cond.methodLink RX4 172 yX4_oldCounts]
def wsX4_reachableEntries_r3 : List Cond := [Cond.instanceMethod yX4_oldCounts, Cond.selects RX4 yX4_oldCounts yX4_oldCounts, Cond.code yX4_oldCounts cX4_oldCounts 2 (some .boolean), Cond.fieldLink RX4 28 "VillageLog$Village" "changeEntry" "I", Cond.methodLink RX4 103 yX4_isChanging, Cond.instanceMethod yX4_isChanging, Cond.selects RX4 yX4_isChanging yX4_isChanging, Cond.code yX4_isChanging cX4_isChanging 1 (some .boolean)]
def wsX4_reachableEntries : List Cond := .code yX4_reachableEntries cX4_reachableEntries 2 (some .int) :: ((wsX4_reachableEntries_r1 ++ (wsX4_reachableEntries_r2 ++ wsX4_reachableEntries_r3)) ++ wsX40 ++ wsX00)
def wsX4_drawnNext_r1 : List Cond := [Cond.fieldLink RX4 21 "VillageLog$Village" "oldCouncil" "LVillageLog$Council;", Cond.fieldLink RX4 35 "VillageLog$Village" "lot" "LVillageLog$Lot;", Cond.methodLink RX4 94 yX0_hasSeat, Cond.instanceMethod yX0_hasSeat, Cond.selects RX0 yX0_hasSeat yX0_hasSeat, Cond.initialized RX0, Cond.code yX0_hasSeat cX0_hasSeat 2 (some .boolean), Cond.fieldLink RX0 15 "VillageLog$Council" "size" "I", Cond.methodLink RX4 103 yX4_isChanging, Cond.instanceMethod yX4_isChanging, Cond.selects RX4 yX4_isChanging yX4_isChanging, Cond.initialized RX4, Cond.code yX4_isChanging cX4_isChanging 1 (some .boolean), Cond.fieldLink RX4 28 "VillageLog$Village" "changeEntry" "I", Cond.methodLink RX4 97 yX2_state, Cond.instanceMethod yX2_state, Cond.selects RX2 yX2_state yX2_state, Cond.initialized RX2, Cond.code yX2_state cX2_state 1 (some .int), Cond.fieldLink RX2 9 "VillageLog$Lot" "state" "I", Cond.methodLink RX4 100 yX4_drawnWith, Cond.instanceMethod yX4_drawnWith, Cond.selects RX4 yX4_drawnWith yX4_drawnWith, Cond.code yX4_drawnWith cX4_drawnWith 5 (some .int)]
def wsX4_drawnNext_r2 : List Cond := [Cond.fieldLink RX4 48 "VillageLog$Village" "villagers" "I", Cond.methodLink RX4 109 yX4_candidates, Cond.instanceMethod yX4_candidates, Cond.selects RX4 yX4_candidates yX4_candidates, Cond.code yX4_candidates cX4_candidates 1 (some .int), Cond.methodLink RX4 186 yX4_candidatesBefore, Cond.instanceMethod yX4_candidatesBefore, Cond.selects RX4 yX4_candidatesBefore yX4_candidatesBefore, Cond.code yX4_candidatesBefore cX4_candidatesBefore 4 (some .int), Cond.methodLink RX4 183 yX0_has, Cond.instanceMethod yX0_has, Cond.selects RX0 yX0_has yX0_has, Cond.code yX0_has cX0_has 2 (some .boolean), Cond.methodLink RX0 35 yX0_seatOf, Cond.instanceMethod yX0_seatOf, Cond.selects RX0 yX0_seatOf yX0_seatOf, Cond.code yX0_seatOf cX0_seatOf 3 (some .int), Cond.fieldLink RX0 9 "VillageLog$Council" "elders" "[I", Cond.methodLink RX4 189 yX2_after, Cond.static yX2_after, Cond.code yX2_after cX2_after 1 (some .int), Cond.constant RX2 31 (65536)]
def wsX4_drawnNext : List Cond := .code yX4_drawnNext cX4_drawnNext 2 (some .int) :: ((wsX4_drawnNext_r1 ++ wsX4_drawnNext_r2) ++ wsX40 ++ wsX00 ++ wsX20)
def wsX4_spareVillagers_r1 : List Cond := [Cond.fieldLink RX4 21 "VillageLog$Village" "oldCouncil" "LVillageLog$Council;", Cond.fieldLink RX4 48 "VillageLog$Village" "villagers" "I", Cond.fieldLink RX4 67 "VillageLog$Village" "entries" "I", Cond.methodLink RX4 81 yX0_isEmpty, Cond.instanceMethod yX0_isEmpty, Cond.selects RX0 yX0_isEmpty yX0_isEmpty, Cond.initialized RX0, Cond.code yX0_isEmpty cX0_isEmpty 1 (some .boolean), Cond.fieldLink RX0 15 "VillageLog$Council" "size" "I", Cond.methodLink RX4 103 yX4_isChanging, Cond.instanceMethod yX4_isChanging, Cond.selects RX4 yX4_isChanging yX4_isChanging, Cond.initialized RX4, Cond.code yX4_isChanging cX4_isChanging 1 (some .boolean), Cond.fieldLink RX4 28 "VillageLog$Village" "changeEntry" "I", Cond.methodLink RX4 175 yX4_fewestToSecond, Cond.instanceMethod yX4_fewestToSecond, Cond.selects RX4 yX4_fewestToSecond yX4_fewestToSecond, Cond.code yX4_fewestToSecond cX4_fewestToSecond 6 (some .int), Cond.fieldLink RX4 25 "VillageLog$Village" "newCouncil" "LVillageLog$Council;", Cond.methodLink RX4 209 Lib.Math.min.name, Cond.static Lib.Math.min.name, Cond.initialized "java/lang/Math", Cond.code Lib.Math.min.name Lib.Math.min.code 2 (some .int)]
def wsX4_spareVillagers_r2 : List Cond := [Cond.methodLink RX4 205 yX4_lacking, Cond.instanceMethod yX4_lacking, Cond.selects RX4 yX4_lacking yX4_lacking, Cond.code yX4_lacking cX4_lacking 3 (some .int), Cond.methodLink RX4 141 Lib.Math.max.name, Cond.static Lib.Math.max.name, Cond.code Lib.Math.max.name Lib.Math.max.code 2 (some .int), Cond.methodLink RX4 202 yX0_majority, Cond.instanceMethod yX0_majority, Cond.selects RX0 yX0_majority yX0_majority, Cond.code yX0_majority cX0_majority 1 (some .int), Cond.methodLink RX4 165 yX4_holders, Cond.instanceMethod yX4_holders, Cond.selects RX4 yX4_holders yX4_holders, Cond.code yX4_holders cX4_holders 7 (some .int), Cond.methodLink RX4 147 yX0_size, Cond.instanceMethod yX0_size, Cond.selects RX0 yX0_size yX0_size, Cond.code yX0_size cX0_size 1 (some .int), Cond.methodLink RX4 132 yX0_elderOn, Cond.instanceMethod yX0_elderOn, Cond.selects RX0 yX0_elderOn yX0_elderOn, Cond.code yX0_elderOn cX0_elderOn 2 (some .int), Cond.fieldLink RX0 9 "VillageLog$Council" "elders" "[I"]
def wsX4_spareVillagers_r3 : List Cond := [Cond.methodLink RX0 31 yX0_hasSeat, Cond.instanceMethod yX0_hasSeat, Cond.selects RX0 yX0_hasSeat yX0_hasSeat, Cond.code yX0_hasSeat cX0_hasSeat 2 (some .boolean), Cond.methodLink RX4 195 yX4_holds, Cond.instanceMethod yX4_holds, Cond.selects RX4 yX4_holds yX4_holds, Cond.code yX4_holds cX4_holds 3 (some .boolean), Cond.fieldLink RX4 15 "VillageLog$Village" "copied" "[I", Cond.methodLink RX4 73 yX4_isVillager, Cond.instanceMethod yX4_isVillager, Cond.selects RX4 yX4_isVillager yX4_isVillager, Cond.code yX4_isVillager cX4_isVillager 2 (some .boolean), Cond.methodLink RX4 192 yX4_isPresent, Cond.instanceMethod yX4_isPresent, Cond.selects RX4 yX4_isPresent yX4_isPresent, Cond.code yX4_isPresent cX4_isPresent 2 (some .boolean), Cond.fieldLink RX4 9 "VillageLog$Village" "present" "[I", Cond.methodLink RX4 212 yX4_commonWithout, Cond.instanceMethod yX4_commonWithout, Cond.selects RX4 yX4_commonWithout yX4_commonWithout, Cond.code yX4_commonWithout cX4_commonWithout 5 (some .int), Cond.methodLink RX4 183 yX0_has, Cond.instanceMethod yX0_has]
def wsX4_spareVillagers_r4 : List Cond := [Cond.selects RX0 yX0_has yX0_has, Cond.code yX0_has cX0_has 2 (some .boolean), Cond.methodLink RX0 35 yX0_seatOf, Cond.instanceMethod yX0_seatOf, Cond.selects RX0 yX0_seatOf yX0_seatOf, Cond.code yX0_seatOf cX0_seatOf 3 (some .int)]
def wsX4_spareVillagers : List Cond := .code yX4_spareVillagers cX4_spareVillagers 1 (some .int) :: ((wsX4_spareVillagers_r1 ++ (wsX4_spareVillagers_r2 ++ (wsX4_spareVillagers_r3 ++ wsX4_spareVillagers_r4))) ++ wsX40 ++ wsX00)
def wsX4_lotToDraw_r1 : List Cond := [Cond.fieldLink RX4 21 "VillageLog$Village" "oldCouncil" "LVillageLog$Council;", Cond.constant RX4 89 (65536), Cond.methodLink RX4 73 yX4_isVillager, Cond.instanceMethod yX4_isVillager, Cond.selects RX4 yX4_isVillager yX4_isVillager, Cond.initialized RX4, Cond.code yX4_isVillager cX4_isVillager 2 (some .boolean), Cond.fieldLink RX4 48 "VillageLog$Village" "villagers" "I", Cond.methodLink RX4 94 yX0_hasSeat, Cond.instanceMethod yX0_hasSeat, Cond.selects RX0 yX0_hasSeat yX0_hasSeat, Cond.initialized RX0, Cond.code yX0_hasSeat cX0_hasSeat 2 (some .boolean), Cond.fieldLink RX0 15 "VillageLog$Council" "size" "I", Cond.methodLink RX4 103 yX4_isChanging, Cond.instanceMethod yX4_isChanging, Cond.selects RX4 yX4_isChanging yX4_isChanging, Cond.code yX4_isChanging cX4_isChanging 1 (some .boolean), Cond.fieldLink RX4 28 "VillageLog$Village" "changeEntry" "I", Cond.methodLink RX4 109 yX4_candidates, Cond.instanceMethod yX4_candidates, Cond.selects RX4 yX4_candidates yX4_candidates, Cond.code yX4_candidates cX4_candidates 1 (some .int), Cond.methodLink RX4 186 yX4_candidatesBefore]
def wsX4_lotToDraw_r2 : List Cond := [Cond.instanceMethod yX4_candidatesBefore, Cond.selects RX4 yX4_candidatesBefore yX4_candidatesBefore, Cond.code yX4_candidatesBefore cX4_candidatesBefore 4 (some .int), Cond.methodLink RX4 183 yX0_has, Cond.instanceMethod yX0_has, Cond.selects RX0 yX0_has yX0_has, Cond.code yX0_has cX0_has 2 (some .boolean), Cond.methodLink RX0 35 yX0_seatOf, Cond.instanceMethod yX0_seatOf, Cond.selects RX0 yX0_seatOf yX0_seatOf, Cond.code yX0_seatOf cX0_seatOf 3 (some .int), Cond.fieldLink RX0 9 "VillageLog$Council" "elders" "[I", Cond.methodLink RX4 189 yX2_after, Cond.static yX2_after, Cond.initialized RX2, Cond.code yX2_after cX2_after 1 (some .int), Cond.constant RX2 31 (65536)]
def wsX4_lotToDraw : List Cond := .code yX4_lotToDraw cX4_lotToDraw 6 (some .int) :: ((wsX4_lotToDraw_r1 ++ wsX4_lotToDraw_r2) ++ wsX40 ++ wsX00)
def wsX5_init_r1 : List Cond := [Cond.methodLink RX5 1 objectInit, Cond.instanceMethod objectInit, Cond.code objectInit ⟨#[0xb1]⟩ 1 none, Cond.classLink RX5 7 RX4, Cond.instantiable RX4 13, Cond.initialized RX4, Cond.fieldLink RX5 10 "VillageLog" "village" "LVillageLog$Village;", Cond.classLink RX5 16 RX1, Cond.instantiable RX1 3, Cond.initialized RX1, Cond.fieldLink RX5 19 "VillageLog" "history" "LVillageLog$History;", Cond.classLink RX5 23 RX3, Cond.instantiable RX3 6, Cond.initialized RX3, Cond.fieldLink RX5 26 "VillageLog" "text" "LVillageLog$Text;", Cond.instanceMethod yX4_init, Cond.code yX4_init cX4_init 1 none, Cond.methodLink RX4 3 objectInit, Cond.arrayClass .int, Cond.fieldLink RX4 9 "VillageLog$Village" "present" "[I", Cond.fieldLink RX4 15 "VillageLog$Village" "copied" "[I", Cond.classLink RX4 18 RX0, Cond.instantiable RX0 2, Cond.initialized RX0]
def wsX5_init_r2 : List Cond := [Cond.fieldLink RX4 21 "VillageLog$Village" "oldCouncil" "LVillageLog$Council;", Cond.fieldLink RX4 25 "VillageLog$Village" "newCouncil" "LVillageLog$Council;", Cond.fieldLink RX4 28 "VillageLog$Village" "changeEntry" "I", Cond.classLink RX4 32 RX2, Cond.instantiable RX2 7, Cond.initialized RX2, Cond.fieldLink RX4 35 "VillageLog$Village" "lot" "LVillageLog$Lot;", Cond.fieldLink RX4 39 "VillageLog$Village" "numbers" "[I", Cond.fieldLink RX4 42 "VillageLog$Village" "terms" "[I", Cond.fieldLink RX4 45 "VillageLog$Village" "proposers" "[I", Cond.instanceMethod yX0_init, Cond.code yX0_init cX0_init 1 none, Cond.methodLink RX0 3 objectInit, Cond.fieldLink RX0 9 "VillageLog$Council" "elders" "[I", Cond.instanceMethod yX2_init, Cond.code yX2_init cX2_init 1 none, Cond.methodLink RX2 3 objectInit, Cond.fieldLink RX2 9 "VillageLog$Lot" "state" "I", Cond.fieldLink RX2 15 "VillageLog$Lot" "states" "[I", Cond.fieldLink RX2 19 "VillageLog$Lot" "candidates" "[I", Cond.fieldLink RX2 22 "VillageLog$Lot" "drawn" "[I", Cond.fieldLink RX2 25 "VillageLog$Lot" "standing" "[I", Cond.fieldLink RX2 28 "VillageLog$Lot" "seats" "[I", Cond.methodLink RX5 18 yX1_init]
def wsX5_init_r3 : List Cond := [Cond.instanceMethod yX1_init, Cond.code yX1_init cX1_init 2 none, Cond.methodLink RX1 3 objectInit, Cond.classLink RX1 11 RX4, Cond.fieldLink RX1 13 "VillageLog$History" "rows" "[LVillageLog$Village;", Cond.instanceMethod yX3_init, Cond.code yX3_init cX3_init 1 none, Cond.methodLink RX3 3 objectInit, Cond.fieldLink RX3 9 "VillageLog$Text" "characters" "[I"]
def wsX5_init : List Cond := .code yX5_init cX5_init 1 none :: ((wsX5_init_r1 ++ (wsX5_init_r2 ++ wsX5_init_r3)) ++ wsX40 ++ wsX50 ++ wsX10 ++ wsX30 ++ wsX00 ++ wsX20)
def wsX5_kept : List Cond := .code yX5_kept cX5_kept 2 (some .int) :: ([.fieldLink RX5 19 "VillageLog" "history" "LVillageLog$History;", .methodLink RX5 140 yX1_keep, .instanceMethod yX1_keep, .selects RX1 yX1_keep yX1_keep, .initialized RX1, .code yX1_keep cX1_keep 1 none, .fieldLink RX1 22 "VillageLog$History" "free" "I", .fieldLink RX1 18 "VillageLog$History" "length" "I", .methodLink RX1 29 Lib.Math.min.name, .static Lib.Math.min.name, .initialized "java/lang/Math", .code Lib.Math.min.name Lib.Math.min.code 2 (some .int)] ++ wsX50 ++ wsX10)
def wsX5_come_r1 : List Cond := [Cond.fieldLink RX5 19 "VillageLog" "history" "LVillageLog$History;", Cond.fieldLink RX5 10 "VillageLog" "village" "LVillageLog$Village;", Cond.methodLink RX5 30 yX1_note, Cond.instanceMethod yX1_note, Cond.selects RX1 yX1_note yX1_note, Cond.initialized RX1, Cond.code yX1_note cX1_note 2 none, Cond.fieldLink RX1 13 "VillageLog$History" "rows" "[LVillageLog$Village;", Cond.fieldLink RX1 22 "VillageLog$History" "free" "I", Cond.methodLink RX1 25 yX4_copyFrom, Cond.instanceMethod yX4_copyFrom, Cond.selects RX4 yX4_copyFrom yX4_copyFrom, Cond.initialized RX4, Cond.code yX4_copyFrom cX4_copyFrom 2 none, Cond.fieldLink RX4 48 "VillageLog$Village" "villagers" "I", Cond.fieldLink RX4 9 "VillageLog$Village" "present" "[I", Cond.methodLink RX4 51 arraycopyName, Cond.native arraycopyName, Cond.static arraycopyName, Cond.initialized "java/lang/System", Cond.fieldLink RX4 15 "VillageLog$Village" "copied" "[I", Cond.fieldLink RX4 21 "VillageLog$Village" "oldCouncil" "LVillageLog$Council;", Cond.fieldLink RX4 25 "VillageLog$Village" "newCouncil" "LVillageLog$Council;", Cond.fieldLink RX4 61 "VillageLog$Village" "term" "I"]
def wsX5_come_r2 : List Cond := [Cond.fieldLink RX4 28 "VillageLog$Village" "changeEntry" "I", Cond.fieldLink RX4 35 "VillageLog$Village" "lot" "LVillageLog$Lot;", Cond.fieldLink RX4 67 "VillageLog$Village" "entries" "I", Cond.fieldLink RX4 70 "VillageLog$Village" "agreed" "I", Cond.fieldLink RX4 39 "VillageLog$Village" "numbers" "[I", Cond.fieldLink RX4 42 "VillageLog$Village" "terms" "[I", Cond.fieldLink RX4 45 "VillageLog$Village" "proposers" "[I", Cond.methodLink RX4 57 yX0_copyFrom, Cond.instanceMethod yX0_copyFrom, Cond.selects RX0 yX0_copyFrom yX0_copyFrom, Cond.initialized RX0, Cond.code yX0_copyFrom cX0_copyFrom 2 none, Cond.fieldLink RX0 15 "VillageLog$Council" "size" "I", Cond.fieldLink RX0 9 "VillageLog$Council" "elders" "[I", Cond.methodLink RX0 19 arraycopyName, Cond.methodLink RX4 64 yX2_copyFrom, Cond.instanceMethod yX2_copyFrom, Cond.selects RX2 yX2_copyFrom yX2_copyFrom, Cond.initialized RX2, Cond.code yX2_copyFrom cX2_copyFrom 2 none, Cond.fieldLink RX2 9 "VillageLog$Lot" "state" "I", Cond.fieldLink RX2 32 "VillageLog$Lot" "draws" "I", Cond.fieldLink RX2 15 "VillageLog$Lot" "states" "[I", Cond.methodLink RX2 35 arraycopyName]
def wsX5_come_r3 : List Cond := [Cond.fieldLink RX2 19 "VillageLog$Lot" "candidates" "[I", Cond.fieldLink RX2 22 "VillageLog$Lot" "drawn" "[I", Cond.fieldLink RX2 25 "VillageLog$Lot" "standing" "[I", Cond.fieldLink RX2 28 "VillageLog$Lot" "seats" "[I", Cond.methodLink RX5 34 yX4_letCome, Cond.instanceMethod yX4_letCome, Cond.selects RX4 yX4_letCome yX4_letCome, Cond.code yX4_letCome cX4_letCome 1 (some .int), Cond.methodLink RX5 38 yX5_kept, Cond.instanceMethod yX5_kept, Cond.selects RX5 yX5_kept yX5_kept, Cond.initialized RX5, Cond.code yX5_kept cX5_kept 2 (some .int), Cond.methodLink RX5 140 yX1_keep, Cond.instanceMethod yX1_keep, Cond.selects RX1 yX1_keep yX1_keep, Cond.code yX1_keep cX1_keep 1 none, Cond.fieldLink RX1 18 "VillageLog$History" "length" "I", Cond.methodLink RX1 29 Lib.Math.min.name, Cond.static Lib.Math.min.name, Cond.initialized "java/lang/Math", Cond.code Lib.Math.min.name Lib.Math.min.code 2 (some .int)]
def wsX5_come : List Cond := .code yX5_come cX5_come 1 (some .int) :: ((wsX5_come_r1 ++ (wsX5_come_r2 ++ wsX5_come_r3)) ++ wsX50 ++ wsX10 ++ wsX40 ++ wsX00 ++ wsX20)
def wsX5_attend_r1 : List Cond := [Cond.fieldLink RX5 19 "VillageLog" "history" "LVillageLog$History;", Cond.fieldLink RX5 10 "VillageLog" "village" "LVillageLog$Village;", Cond.methodLink RX5 30 yX1_note, Cond.instanceMethod yX1_note, Cond.selects RX1 yX1_note yX1_note, Cond.initialized RX1, Cond.code yX1_note cX1_note 2 none, Cond.fieldLink RX1 13 "VillageLog$History" "rows" "[LVillageLog$Village;", Cond.fieldLink RX1 22 "VillageLog$History" "free" "I", Cond.methodLink RX1 25 yX4_copyFrom, Cond.instanceMethod yX4_copyFrom, Cond.selects RX4 yX4_copyFrom yX4_copyFrom, Cond.initialized RX4, Cond.code yX4_copyFrom cX4_copyFrom 2 none, Cond.fieldLink RX4 48 "VillageLog$Village" "villagers" "I", Cond.fieldLink RX4 9 "VillageLog$Village" "present" "[I", Cond.methodLink RX4 51 arraycopyName, Cond.native arraycopyName, Cond.static arraycopyName, Cond.initialized "java/lang/System", Cond.fieldLink RX4 15 "VillageLog$Village" "copied" "[I", Cond.fieldLink RX4 21 "VillageLog$Village" "oldCouncil" "LVillageLog$Council;", Cond.fieldLink RX4 25 "VillageLog$Village" "newCouncil" "LVillageLog$Council;", Cond.fieldLink RX4 61 "VillageLog$Village" "term" "I"]
def wsX5_attend_r2 : List Cond := [Cond.fieldLink RX4 28 "VillageLog$Village" "changeEntry" "I", Cond.fieldLink RX4 35 "VillageLog$Village" "lot" "LVillageLog$Lot;", Cond.fieldLink RX4 67 "VillageLog$Village" "entries" "I", Cond.fieldLink RX4 70 "VillageLog$Village" "agreed" "I", Cond.fieldLink RX4 39 "VillageLog$Village" "numbers" "[I", Cond.fieldLink RX4 42 "VillageLog$Village" "terms" "[I", Cond.fieldLink RX4 45 "VillageLog$Village" "proposers" "[I", Cond.methodLink RX4 57 yX0_copyFrom, Cond.instanceMethod yX0_copyFrom, Cond.selects RX0 yX0_copyFrom yX0_copyFrom, Cond.initialized RX0, Cond.code yX0_copyFrom cX0_copyFrom 2 none, Cond.fieldLink RX0 15 "VillageLog$Council" "size" "I", Cond.fieldLink RX0 9 "VillageLog$Council" "elders" "[I", Cond.methodLink RX0 19 arraycopyName, Cond.methodLink RX4 64 yX2_copyFrom, Cond.instanceMethod yX2_copyFrom, Cond.selects RX2 yX2_copyFrom yX2_copyFrom, Cond.initialized RX2, Cond.code yX2_copyFrom cX2_copyFrom 2 none, Cond.fieldLink RX2 9 "VillageLog$Lot" "state" "I", Cond.fieldLink RX2 32 "VillageLog$Lot" "draws" "I", Cond.fieldLink RX2 15 "VillageLog$Lot" "states" "[I", Cond.methodLink RX2 35 arraycopyName]
def wsX5_attend_r3 : List Cond := [Cond.fieldLink RX2 19 "VillageLog$Lot" "candidates" "[I", Cond.fieldLink RX2 22 "VillageLog$Lot" "drawn" "[I", Cond.fieldLink RX2 25 "VillageLog$Lot" "standing" "[I", Cond.fieldLink RX2 28 "VillageLog$Lot" "seats" "[I", Cond.methodLink RX5 42 yX4_letAttend, Cond.instanceMethod yX4_letAttend, Cond.selects RX4 yX4_letAttend yX4_letAttend, Cond.code yX4_letAttend cX4_letAttend 3 (some .int), Cond.methodLink RX4 73 yX4_isVillager, Cond.instanceMethod yX4_isVillager, Cond.selects RX4 yX4_isVillager yX4_isVillager, Cond.code yX4_isVillager cX4_isVillager 2 (some .boolean), Cond.methodLink RX4 77 yX4_presentVillagers, Cond.instanceMethod yX4_presentVillagers, Cond.selects RX4 yX4_presentVillagers yX4_presentVillagers, Cond.code yX4_presentVillagers cX4_presentVillagers 3 (some .int), Cond.methodLink RX5 38 yX5_kept, Cond.instanceMethod yX5_kept, Cond.selects RX5 yX5_kept yX5_kept, Cond.initialized RX5, Cond.code yX5_kept cX5_kept 2 (some .int), Cond.methodLink RX5 140 yX1_keep, Cond.instanceMethod yX1_keep, Cond.selects RX1 yX1_keep yX1_keep]
def wsX5_attend_r4 : List Cond := [Cond.code yX1_keep cX1_keep 1 none, Cond.fieldLink RX1 18 "VillageLog$History" "length" "I", Cond.methodLink RX1 29 Lib.Math.min.name, Cond.static Lib.Math.min.name, Cond.initialized "java/lang/Math", Cond.code Lib.Math.min.name Lib.Math.min.code 2 (some .int)]
def wsX5_attend : List Cond := .code yX5_attend cX5_attend 3 (some .int) :: ((wsX5_attend_r1 ++ (wsX5_attend_r2 ++ (wsX5_attend_r3 ++ wsX5_attend_r4))) ++ wsX50 ++ wsX10 ++ wsX40 ++ wsX00 ++ wsX20)
def wsX5_found_r1 : List Cond := [Cond.fieldLink RX5 19 "VillageLog" "history" "LVillageLog$History;", Cond.fieldLink RX5 10 "VillageLog" "village" "LVillageLog$Village;", Cond.methodLink RX5 30 yX1_note, Cond.instanceMethod yX1_note, Cond.selects RX1 yX1_note yX1_note, Cond.initialized RX1, Cond.code yX1_note cX1_note 2 none, Cond.fieldLink RX1 13 "VillageLog$History" "rows" "[LVillageLog$Village;", Cond.fieldLink RX1 22 "VillageLog$History" "free" "I", Cond.methodLink RX1 25 yX4_copyFrom, Cond.instanceMethod yX4_copyFrom, Cond.selects RX4 yX4_copyFrom yX4_copyFrom, Cond.initialized RX4, Cond.code yX4_copyFrom cX4_copyFrom 2 none, Cond.fieldLink RX4 48 "VillageLog$Village" "villagers" "I", Cond.fieldLink RX4 9 "VillageLog$Village" "present" "[I", Cond.methodLink RX4 51 arraycopyName, Cond.native arraycopyName, Cond.static arraycopyName, Cond.initialized "java/lang/System", Cond.fieldLink RX4 15 "VillageLog$Village" "copied" "[I", Cond.fieldLink RX4 21 "VillageLog$Village" "oldCouncil" "LVillageLog$Council;", Cond.fieldLink RX4 25 "VillageLog$Village" "newCouncil" "LVillageLog$Council;", Cond.fieldLink RX4 61 "VillageLog$Village" "term" "I"]
def wsX5_found_r2 : List Cond := [Cond.fieldLink RX4 28 "VillageLog$Village" "changeEntry" "I", Cond.fieldLink RX4 35 "VillageLog$Village" "lot" "LVillageLog$Lot;", Cond.fieldLink RX4 67 "VillageLog$Village" "entries" "I", Cond.fieldLink RX4 70 "VillageLog$Village" "agreed" "I", Cond.fieldLink RX4 39 "VillageLog$Village" "numbers" "[I", Cond.fieldLink RX4 42 "VillageLog$Village" "terms" "[I", Cond.fieldLink RX4 45 "VillageLog$Village" "proposers" "[I", Cond.methodLink RX4 57 yX0_copyFrom, Cond.instanceMethod yX0_copyFrom, Cond.selects RX0 yX0_copyFrom yX0_copyFrom, Cond.initialized RX0, Cond.code yX0_copyFrom cX0_copyFrom 2 none, Cond.fieldLink RX0 15 "VillageLog$Council" "size" "I", Cond.fieldLink RX0 9 "VillageLog$Council" "elders" "[I", Cond.methodLink RX0 19 arraycopyName, Cond.methodLink RX4 64 yX2_copyFrom, Cond.instanceMethod yX2_copyFrom, Cond.selects RX2 yX2_copyFrom yX2_copyFrom, Cond.initialized RX2, Cond.code yX2_copyFrom cX2_copyFrom 2 none, Cond.fieldLink RX2 9 "VillageLog$Lot" "state" "I", Cond.fieldLink RX2 32 "VillageLog$Lot" "draws" "I", Cond.fieldLink RX2 15 "VillageLog$Lot" "states" "[I", Cond.methodLink RX2 35 arraycopyName]
def wsX5_found_r3 : List Cond := [Cond.fieldLink RX2 19 "VillageLog$Lot" "candidates" "[I", Cond.fieldLink RX2 22 "VillageLog$Lot" "drawn" "[I", Cond.fieldLink RX2 25 "VillageLog$Lot" "standing" "[I", Cond.fieldLink RX2 28 "VillageLog$Lot" "seats" "[I", Cond.methodLink RX5 46 yX4_setFirstCouncil, Cond.instanceMethod yX4_setFirstCouncil, Cond.selects RX4 yX4_setFirstCouncil yX4_setFirstCouncil, Cond.code yX4_setFirstCouncil cX4_setFirstCouncil 2 (some .int), Cond.methodLink RX4 81 yX0_isEmpty, Cond.instanceMethod yX0_isEmpty, Cond.selects RX0 yX0_isEmpty yX0_isEmpty, Cond.code yX0_isEmpty cX0_isEmpty 1 (some .boolean), Cond.methodLink RX4 85 yX0_seatFirst, Cond.instanceMethod yX0_seatFirst, Cond.selects RX0 yX0_seatFirst yX0_seatFirst, Cond.code yX0_seatFirst cX0_seatFirst 3 none, Cond.methodLink RX0 25 Lib.Math.min.name, Cond.static Lib.Math.min.name, Cond.initialized "java/lang/Math", Cond.code Lib.Math.min.name Lib.Math.min.code 2 (some .int), Cond.methodLink RX5 38 yX5_kept, Cond.instanceMethod yX5_kept, Cond.selects RX5 yX5_kept yX5_kept, Cond.initialized RX5]
def wsX5_found_r4 : List Cond := [Cond.code yX5_kept cX5_kept 2 (some .int), Cond.methodLink RX5 140 yX1_keep, Cond.instanceMethod yX1_keep, Cond.selects RX1 yX1_keep yX1_keep, Cond.code yX1_keep cX1_keep 1 none, Cond.fieldLink RX1 18 "VillageLog$History" "length" "I", Cond.methodLink RX1 29 Lib.Math.min.name]
def wsX5_found : List Cond := .code yX5_found cX5_found 2 (some .int) :: ((wsX5_found_r1 ++ (wsX5_found_r2 ++ (wsX5_found_r3 ++ wsX5_found_r4))) ++ wsX50 ++ wsX10 ++ wsX40 ++ wsX00 ++ wsX20)
def wsX5_setLot_r1 : List Cond := [Cond.fieldLink RX5 19 "VillageLog" "history" "LVillageLog$History;", Cond.fieldLink RX5 10 "VillageLog" "village" "LVillageLog$Village;", Cond.methodLink RX5 30 yX1_note, Cond.instanceMethod yX1_note, Cond.selects RX1 yX1_note yX1_note, Cond.initialized RX1, Cond.code yX1_note cX1_note 2 none, Cond.fieldLink RX1 13 "VillageLog$History" "rows" "[LVillageLog$Village;", Cond.fieldLink RX1 22 "VillageLog$History" "free" "I", Cond.methodLink RX1 25 yX4_copyFrom, Cond.instanceMethod yX4_copyFrom, Cond.selects RX4 yX4_copyFrom yX4_copyFrom, Cond.initialized RX4, Cond.code yX4_copyFrom cX4_copyFrom 2 none, Cond.fieldLink RX4 48 "VillageLog$Village" "villagers" "I", Cond.fieldLink RX4 9 "VillageLog$Village" "present" "[I", Cond.methodLink RX4 51 arraycopyName, Cond.native arraycopyName, Cond.static arraycopyName, Cond.initialized "java/lang/System", Cond.fieldLink RX4 15 "VillageLog$Village" "copied" "[I", Cond.fieldLink RX4 21 "VillageLog$Village" "oldCouncil" "LVillageLog$Council;", Cond.fieldLink RX4 25 "VillageLog$Village" "newCouncil" "LVillageLog$Council;", Cond.fieldLink RX4 61 "VillageLog$Village" "term" "I"]
def wsX5_setLot_r2 : List Cond := [Cond.fieldLink RX4 28 "VillageLog$Village" "changeEntry" "I", Cond.fieldLink RX4 35 "VillageLog$Village" "lot" "LVillageLog$Lot;", Cond.fieldLink RX4 67 "VillageLog$Village" "entries" "I", Cond.fieldLink RX4 70 "VillageLog$Village" "agreed" "I", Cond.fieldLink RX4 39 "VillageLog$Village" "numbers" "[I", Cond.fieldLink RX4 42 "VillageLog$Village" "terms" "[I", Cond.fieldLink RX4 45 "VillageLog$Village" "proposers" "[I", Cond.methodLink RX4 57 yX0_copyFrom, Cond.instanceMethod yX0_copyFrom, Cond.selects RX0 yX0_copyFrom yX0_copyFrom, Cond.initialized RX0, Cond.code yX0_copyFrom cX0_copyFrom 2 none, Cond.fieldLink RX0 15 "VillageLog$Council" "size" "I", Cond.fieldLink RX0 9 "VillageLog$Council" "elders" "[I", Cond.methodLink RX0 19 arraycopyName, Cond.methodLink RX4 64 yX2_copyFrom, Cond.instanceMethod yX2_copyFrom, Cond.selects RX2 yX2_copyFrom yX2_copyFrom, Cond.initialized RX2, Cond.code yX2_copyFrom cX2_copyFrom 2 none, Cond.fieldLink RX2 9 "VillageLog$Lot" "state" "I", Cond.fieldLink RX2 32 "VillageLog$Lot" "draws" "I", Cond.fieldLink RX2 15 "VillageLog$Lot" "states" "[I", Cond.methodLink RX2 35 arraycopyName]
def wsX5_setLot_r3 : List Cond := [Cond.fieldLink RX2 19 "VillageLog$Lot" "candidates" "[I", Cond.fieldLink RX2 22 "VillageLog$Lot" "drawn" "[I", Cond.fieldLink RX2 25 "VillageLog$Lot" "standing" "[I", Cond.fieldLink RX2 28 "VillageLog$Lot" "seats" "[I", Cond.methodLink RX5 49 yX4_setLotState, Cond.instanceMethod yX4_setLotState, Cond.selects RX4 yX4_setLotState yX4_setLotState, Cond.code yX4_setLotState cX4_setLotState 2 (some .int), Cond.constant RX4 89 (65536), Cond.methodLink RX4 90 yX2_setState, Cond.instanceMethod yX2_setState, Cond.selects RX2 yX2_setState yX2_setState, Cond.code yX2_setState cX2_setState 3 (some .int), Cond.methodLink RX5 38 yX5_kept, Cond.instanceMethod yX5_kept, Cond.selects RX5 yX5_kept yX5_kept, Cond.initialized RX5, Cond.code yX5_kept cX5_kept 2 (some .int), Cond.methodLink RX5 140 yX1_keep, Cond.instanceMethod yX1_keep, Cond.selects RX1 yX1_keep yX1_keep, Cond.code yX1_keep cX1_keep 1 none, Cond.fieldLink RX1 18 "VillageLog$History" "length" "I", Cond.methodLink RX1 29 Lib.Math.min.name]
def wsX5_setLot_r4 : List Cond := [Cond.static Lib.Math.min.name, Cond.initialized "java/lang/Math", Cond.code Lib.Math.min.name Lib.Math.min.code 2 (some .int)]
def wsX5_setLot : List Cond := .code yX5_setLot cX5_setLot 2 (some .int) :: ((wsX5_setLot_r1 ++ (wsX5_setLot_r2 ++ (wsX5_setLot_r3 ++ wsX5_setLot_r4))) ++ wsX50 ++ wsX10 ++ wsX40 ++ wsX00 ++ wsX20)
def wsX5_change_r1 : List Cond := [Cond.fieldLink RX5 19 "VillageLog" "history" "LVillageLog$History;", Cond.fieldLink RX5 10 "VillageLog" "village" "LVillageLog$Village;", Cond.methodLink RX5 30 yX1_note, Cond.instanceMethod yX1_note, Cond.selects RX1 yX1_note yX1_note, Cond.initialized RX1, Cond.code yX1_note cX1_note 2 none, Cond.fieldLink RX1 13 "VillageLog$History" "rows" "[LVillageLog$Village;", Cond.fieldLink RX1 22 "VillageLog$History" "free" "I", Cond.methodLink RX1 25 yX4_copyFrom, Cond.instanceMethod yX4_copyFrom, Cond.selects RX4 yX4_copyFrom yX4_copyFrom, Cond.initialized RX4, Cond.code yX4_copyFrom cX4_copyFrom 2 none, Cond.fieldLink RX4 48 "VillageLog$Village" "villagers" "I", Cond.fieldLink RX4 9 "VillageLog$Village" "present" "[I", Cond.methodLink RX4 51 arraycopyName, Cond.native arraycopyName, Cond.static arraycopyName, Cond.initialized "java/lang/System", Cond.fieldLink RX4 15 "VillageLog$Village" "copied" "[I", Cond.fieldLink RX4 21 "VillageLog$Village" "oldCouncil" "LVillageLog$Council;", Cond.fieldLink RX4 25 "VillageLog$Village" "newCouncil" "LVillageLog$Council;", Cond.fieldLink RX4 61 "VillageLog$Village" "term" "I"]
def wsX5_change_r2 : List Cond := [Cond.fieldLink RX4 28 "VillageLog$Village" "changeEntry" "I", Cond.fieldLink RX4 35 "VillageLog$Village" "lot" "LVillageLog$Lot;", Cond.fieldLink RX4 67 "VillageLog$Village" "entries" "I", Cond.fieldLink RX4 70 "VillageLog$Village" "agreed" "I", Cond.fieldLink RX4 39 "VillageLog$Village" "numbers" "[I", Cond.fieldLink RX4 42 "VillageLog$Village" "terms" "[I", Cond.fieldLink RX4 45 "VillageLog$Village" "proposers" "[I", Cond.methodLink RX4 57 yX0_copyFrom, Cond.instanceMethod yX0_copyFrom, Cond.selects RX0 yX0_copyFrom yX0_copyFrom, Cond.initialized RX0, Cond.code yX0_copyFrom cX0_copyFrom 2 none, Cond.fieldLink RX0 15 "VillageLog$Council" "size" "I", Cond.fieldLink RX0 9 "VillageLog$Council" "elders" "[I", Cond.methodLink RX0 19 arraycopyName, Cond.methodLink RX4 64 yX2_copyFrom, Cond.instanceMethod yX2_copyFrom, Cond.selects RX2 yX2_copyFrom yX2_copyFrom, Cond.initialized RX2, Cond.code yX2_copyFrom cX2_copyFrom 2 none, Cond.fieldLink RX2 9 "VillageLog$Lot" "state" "I", Cond.fieldLink RX2 32 "VillageLog$Lot" "draws" "I", Cond.fieldLink RX2 15 "VillageLog$Lot" "states" "[I", Cond.methodLink RX2 35 arraycopyName]
def wsX5_change_r3 : List Cond := [Cond.fieldLink RX2 19 "VillageLog$Lot" "candidates" "[I", Cond.fieldLink RX2 22 "VillageLog$Lot" "drawn" "[I", Cond.fieldLink RX2 25 "VillageLog$Lot" "standing" "[I", Cond.fieldLink RX2 28 "VillageLog$Lot" "seats" "[I", Cond.methodLink RX5 52 yX4_beginChange, Cond.instanceMethod yX4_beginChange, Cond.selects RX4 yX4_beginChange yX4_beginChange, Cond.code yX4_beginChange cX4_beginChange 4 (some .int), Cond.methodLink RX4 73 yX4_isVillager, Cond.instanceMethod yX4_isVillager, Cond.selects RX4 yX4_isVillager yX4_isVillager, Cond.code yX4_isVillager cX4_isVillager 2 (some .boolean), Cond.methodLink RX4 94 yX0_hasSeat, Cond.instanceMethod yX0_hasSeat, Cond.selects RX0 yX0_hasSeat yX0_hasSeat, Cond.code yX0_hasSeat cX0_hasSeat 2 (some .boolean), Cond.methodLink RX4 97 yX2_state, Cond.instanceMethod yX2_state, Cond.selects RX2 yX2_state yX2_state, Cond.code yX2_state cX2_state 1 (some .int), Cond.methodLink RX4 100 yX4_drawnWith, Cond.instanceMethod yX4_drawnWith, Cond.selects RX4 yX4_drawnWith yX4_drawnWith, Cond.code yX4_drawnWith cX4_drawnWith 5 (some .int)]
def wsX5_change_r4 : List Cond := [Cond.methodLink RX4 109 yX4_candidates, Cond.instanceMethod yX4_candidates, Cond.selects RX4 yX4_candidates yX4_candidates, Cond.code yX4_candidates cX4_candidates 1 (some .int), Cond.methodLink RX4 186 yX4_candidatesBefore, Cond.instanceMethod yX4_candidatesBefore, Cond.selects RX4 yX4_candidatesBefore yX4_candidatesBefore, Cond.code yX4_candidatesBefore cX4_candidatesBefore 4 (some .int), Cond.methodLink RX4 183 yX0_has, Cond.instanceMethod yX0_has, Cond.selects RX0 yX0_has yX0_has, Cond.code yX0_has cX0_has 2 (some .boolean), Cond.methodLink RX0 35 yX0_seatOf, Cond.instanceMethod yX0_seatOf, Cond.selects RX0 yX0_seatOf yX0_seatOf, Cond.code yX0_seatOf cX0_seatOf 3 (some .int), Cond.methodLink RX4 189 yX2_after, Cond.static yX2_after, Cond.code yX2_after cX2_after 1 (some .int), Cond.constant RX2 31 (65536), Cond.methodLink RX4 103 yX4_isChanging, Cond.instanceMethod yX4_isChanging, Cond.selects RX4 yX4_isChanging yX4_isChanging, Cond.code yX4_isChanging cX4_isChanging 1 (some .boolean)]
def wsX5_change_r5 : List Cond := [Cond.methodLink RX4 106 yX4_mayAct, Cond.instanceMethod yX4_mayAct, Cond.selects RX4 yX4_mayAct yX4_mayAct, Cond.code yX4_mayAct cX4_mayAct 2 (some .boolean), Cond.methodLink RX4 126 yX4_isElder, Cond.instanceMethod yX4_isElder, Cond.selects RX4 yX4_isElder yX4_isElder, Cond.code yX4_isElder cX4_isElder 2 (some .boolean), Cond.methodLink RX4 192 yX4_isPresent, Cond.instanceMethod yX4_isPresent, Cond.selects RX4 yX4_isPresent yX4_isPresent, Cond.code yX4_isPresent cX4_isPresent 2 (some .boolean), Cond.methodLink RX4 112 yX2_write, Cond.instanceMethod yX2_write, Cond.selects RX2 yX2_write yX2_write, Cond.code yX2_write cX2_write 4 none, Cond.methodLink RX2 41 yX2_after, Cond.methodLink RX4 116 yX0_place, Cond.instanceMethod yX0_place, Cond.selects RX0 yX0_place yX0_place, Cond.code yX0_place cX0_place 3 none, Cond.methodLink RX0 31 yX0_hasSeat, Cond.methodLink RX4 120 yX4_addEntry, Cond.instanceMethod yX4_addEntry]
def wsX5_change_r6 : List Cond := [Cond.selects RX4 yX4_addEntry yX4_addEntry, Cond.code yX4_addEntry cX4_addEntry 3 none, Cond.methodLink RX4 123 yX4_agree, Cond.instanceMethod yX4_agree, Cond.selects RX4 yX4_agree yX4_agree, Cond.code yX4_agree cX4_agree 2 (some .int), Cond.methodLink RX4 179 yX4_isSupported, Cond.instanceMethod yX4_isSupported, Cond.selects RX4 yX4_isSupported yX4_isSupported, Cond.code yX4_isSupported cX4_isSupported 3 (some .boolean), Cond.methodLink RX4 165 yX4_holders, Cond.instanceMethod yX4_holders, Cond.selects RX4 yX4_holders yX4_holders, Cond.code yX4_holders cX4_holders 7 (some .int), Cond.methodLink RX4 147 yX0_size, Cond.instanceMethod yX0_size, Cond.selects RX0 yX0_size yX0_size, Cond.code yX0_size cX0_size 1 (some .int), Cond.methodLink RX4 132 yX0_elderOn, Cond.instanceMethod yX0_elderOn, Cond.selects RX0 yX0_elderOn yX0_elderOn, Cond.code yX0_elderOn cX0_elderOn 2 (some .int), Cond.methodLink RX4 195 yX4_holds, Cond.instanceMethod yX4_holds]
def wsX5_change_r7 : List Cond := [Cond.selects RX4 yX4_holds yX4_holds, Cond.code yX4_holds cX4_holds 3 (some .boolean), Cond.methodLink RX4 202 yX0_majority, Cond.instanceMethod yX0_majority, Cond.selects RX0 yX0_majority yX0_majority, Cond.code yX0_majority cX0_majority 1 (some .int), Cond.methodLink RX4 172 yX4_oldCounts, Cond.instanceMethod yX4_oldCounts, Cond.selects RX4 yX4_oldCounts yX4_oldCounts, Cond.code yX4_oldCounts cX4_oldCounts 2 (some .boolean), Cond.methodLink RX4 199 yX4_endChange, Cond.instanceMethod yX4_endChange, Cond.selects RX4 yX4_endChange yX4_endChange, Cond.code yX4_endChange cX4_endChange 1 none, Cond.methodLink RX5 38 yX5_kept, Cond.instanceMethod yX5_kept, Cond.selects RX5 yX5_kept yX5_kept, Cond.initialized RX5, Cond.code yX5_kept cX5_kept 2 (some .int), Cond.methodLink RX5 140 yX1_keep, Cond.instanceMethod yX1_keep, Cond.selects RX1 yX1_keep yX1_keep, Cond.code yX1_keep cX1_keep 1 none, Cond.fieldLink RX1 18 "VillageLog$History" "length" "I"]
def wsX5_change_r8 : List Cond := [Cond.methodLink RX1 29 Lib.Math.min.name, Cond.static Lib.Math.min.name, Cond.initialized "java/lang/Math", Cond.code Lib.Math.min.name Lib.Math.min.code 2 (some .int)]
def wsX5_change : List Cond := .code yX5_change cX5_change 3 (some .int) :: ((wsX5_change_r1 ++ (wsX5_change_r2 ++ (wsX5_change_r3 ++ (wsX5_change_r4 ++ (wsX5_change_r5 ++ (wsX5_change_r6 ++ (wsX5_change_r7 ++ wsX5_change_r8))))))) ++ wsX50 ++ wsX10 ++ wsX40 ++ wsX00 ++ wsX20)
def wsX5_forge_r1 : List Cond := [Cond.fieldLink RX5 19 "VillageLog" "history" "LVillageLog$History;", Cond.fieldLink RX5 10 "VillageLog" "village" "LVillageLog$Village;", Cond.methodLink RX5 30 yX1_note, Cond.instanceMethod yX1_note, Cond.selects RX1 yX1_note yX1_note, Cond.initialized RX1, Cond.code yX1_note cX1_note 2 none, Cond.fieldLink RX1 13 "VillageLog$History" "rows" "[LVillageLog$Village;", Cond.fieldLink RX1 22 "VillageLog$History" "free" "I", Cond.methodLink RX1 25 yX4_copyFrom, Cond.instanceMethod yX4_copyFrom, Cond.selects RX4 yX4_copyFrom yX4_copyFrom, Cond.initialized RX4, Cond.code yX4_copyFrom cX4_copyFrom 2 none, Cond.fieldLink RX4 48 "VillageLog$Village" "villagers" "I", Cond.fieldLink RX4 9 "VillageLog$Village" "present" "[I", Cond.methodLink RX4 51 arraycopyName, Cond.native arraycopyName, Cond.static arraycopyName, Cond.initialized "java/lang/System", Cond.fieldLink RX4 15 "VillageLog$Village" "copied" "[I", Cond.fieldLink RX4 21 "VillageLog$Village" "oldCouncil" "LVillageLog$Council;", Cond.fieldLink RX4 25 "VillageLog$Village" "newCouncil" "LVillageLog$Council;", Cond.fieldLink RX4 61 "VillageLog$Village" "term" "I"]
def wsX5_forge_r2 : List Cond := [Cond.fieldLink RX4 28 "VillageLog$Village" "changeEntry" "I", Cond.fieldLink RX4 35 "VillageLog$Village" "lot" "LVillageLog$Lot;", Cond.fieldLink RX4 67 "VillageLog$Village" "entries" "I", Cond.fieldLink RX4 70 "VillageLog$Village" "agreed" "I", Cond.fieldLink RX4 39 "VillageLog$Village" "numbers" "[I", Cond.fieldLink RX4 42 "VillageLog$Village" "terms" "[I", Cond.fieldLink RX4 45 "VillageLog$Village" "proposers" "[I", Cond.methodLink RX4 57 yX0_copyFrom, Cond.instanceMethod yX0_copyFrom, Cond.selects RX0 yX0_copyFrom yX0_copyFrom, Cond.initialized RX0, Cond.code yX0_copyFrom cX0_copyFrom 2 none, Cond.fieldLink RX0 15 "VillageLog$Council" "size" "I", Cond.fieldLink RX0 9 "VillageLog$Council" "elders" "[I", Cond.methodLink RX0 19 arraycopyName, Cond.methodLink RX4 64 yX2_copyFrom, Cond.instanceMethod yX2_copyFrom, Cond.selects RX2 yX2_copyFrom yX2_copyFrom, Cond.initialized RX2, Cond.code yX2_copyFrom cX2_copyFrom 2 none, Cond.fieldLink RX2 9 "VillageLog$Lot" "state" "I", Cond.fieldLink RX2 32 "VillageLog$Lot" "draws" "I", Cond.fieldLink RX2 15 "VillageLog$Lot" "states" "[I", Cond.methodLink RX2 35 arraycopyName]
def wsX5_forge_r3 : List Cond := [Cond.fieldLink RX2 19 "VillageLog$Lot" "candidates" "[I", Cond.fieldLink RX2 22 "VillageLog$Lot" "drawn" "[I", Cond.fieldLink RX2 25 "VillageLog$Lot" "standing" "[I", Cond.fieldLink RX2 28 "VillageLog$Lot" "seats" "[I", Cond.methodLink RX5 55 yX4_forgeLot, Cond.instanceMethod yX4_forgeLot, Cond.selects RX4 yX4_forgeLot yX4_forgeLot, Cond.code yX4_forgeLot cX4_forgeLot 4 (some .int), Cond.methodLink RX4 73 yX4_isVillager, Cond.instanceMethod yX4_isVillager, Cond.selects RX4 yX4_isVillager yX4_isVillager, Cond.code yX4_isVillager cX4_isVillager 2 (some .boolean), Cond.methodLink RX4 103 yX4_isChanging, Cond.instanceMethod yX4_isChanging, Cond.selects RX4 yX4_isChanging yX4_isChanging, Cond.code yX4_isChanging cX4_isChanging 1 (some .boolean), Cond.methodLink RX4 126 yX4_isElder, Cond.instanceMethod yX4_isElder, Cond.selects RX4 yX4_isElder yX4_isElder, Cond.code yX4_isElder cX4_isElder 2 (some .boolean), Cond.methodLink RX4 183 yX0_has, Cond.instanceMethod yX0_has, Cond.selects RX0 yX0_has yX0_has, Cond.code yX0_has cX0_has 2 (some .boolean)]
def wsX5_forge_r4 : List Cond := [Cond.methodLink RX0 35 yX0_seatOf, Cond.instanceMethod yX0_seatOf, Cond.selects RX0 yX0_seatOf yX0_seatOf, Cond.code yX0_seatOf cX0_seatOf 3 (some .int), Cond.methodLink RX4 129 yX2_lastSeat, Cond.instanceMethod yX2_lastSeat, Cond.selects RX2 yX2_lastSeat yX2_lastSeat, Cond.code yX2_lastSeat cX2_lastSeat 1 (some .int), Cond.methodLink RX4 132 yX0_elderOn, Cond.instanceMethod yX0_elderOn, Cond.selects RX0 yX0_elderOn yX0_elderOn, Cond.code yX0_elderOn cX0_elderOn 2 (some .int), Cond.methodLink RX0 31 yX0_hasSeat, Cond.instanceMethod yX0_hasSeat, Cond.selects RX0 yX0_hasSeat yX0_hasSeat, Cond.code yX0_hasSeat cX0_hasSeat 2 (some .boolean), Cond.methodLink RX4 116 yX0_place, Cond.instanceMethod yX0_place, Cond.selects RX0 yX0_place yX0_place, Cond.code yX0_place cX0_place 3 none, Cond.methodLink RX4 135 yX2_forgeLast, Cond.instanceMethod yX2_forgeLast, Cond.selects RX2 yX2_forgeLast yX2_forgeLast, Cond.code yX2_forgeLast cX2_forgeLast 2 none]
def wsX5_forge_r5 : List Cond := [Cond.methodLink RX4 123 yX4_agree, Cond.instanceMethod yX4_agree, Cond.selects RX4 yX4_agree yX4_agree, Cond.code yX4_agree cX4_agree 2 (some .int), Cond.methodLink RX4 179 yX4_isSupported, Cond.instanceMethod yX4_isSupported, Cond.selects RX4 yX4_isSupported yX4_isSupported, Cond.code yX4_isSupported cX4_isSupported 3 (some .boolean), Cond.methodLink RX4 165 yX4_holders, Cond.instanceMethod yX4_holders, Cond.selects RX4 yX4_holders yX4_holders, Cond.code yX4_holders cX4_holders 7 (some .int), Cond.methodLink RX4 147 yX0_size, Cond.instanceMethod yX0_size, Cond.selects RX0 yX0_size yX0_size, Cond.code yX0_size cX0_size 1 (some .int), Cond.methodLink RX4 195 yX4_holds, Cond.instanceMethod yX4_holds, Cond.selects RX4 yX4_holds yX4_holds, Cond.code yX4_holds cX4_holds 3 (some .boolean), Cond.methodLink RX4 192 yX4_isPresent, Cond.instanceMethod yX4_isPresent, Cond.selects RX4 yX4_isPresent yX4_isPresent, Cond.code yX4_isPresent cX4_isPresent 2 (some .boolean)]
def wsX5_forge_r6 : List Cond := [Cond.methodLink RX4 202 yX0_majority, Cond.instanceMethod yX0_majority, Cond.selects RX0 yX0_majority yX0_majority, Cond.code yX0_majority cX0_majority 1 (some .int), Cond.methodLink RX4 172 yX4_oldCounts, Cond.instanceMethod yX4_oldCounts, Cond.selects RX4 yX4_oldCounts yX4_oldCounts, Cond.code yX4_oldCounts cX4_oldCounts 2 (some .boolean), Cond.methodLink RX4 199 yX4_endChange, Cond.instanceMethod yX4_endChange, Cond.selects RX4 yX4_endChange yX4_endChange, Cond.code yX4_endChange cX4_endChange 1 none, Cond.methodLink RX5 38 yX5_kept, Cond.instanceMethod yX5_kept, Cond.selects RX5 yX5_kept yX5_kept, Cond.initialized RX5, Cond.code yX5_kept cX5_kept 2 (some .int), Cond.methodLink RX5 140 yX1_keep, Cond.instanceMethod yX1_keep, Cond.selects RX1 yX1_keep yX1_keep, Cond.code yX1_keep cX1_keep 1 none, Cond.fieldLink RX1 18 "VillageLog$History" "length" "I", Cond.methodLink RX1 29 Lib.Math.min.name, Cond.static Lib.Math.min.name]
def wsX5_forge_r7 : List Cond := [Cond.initialized "java/lang/Math", Cond.code Lib.Math.min.name Lib.Math.min.code 2 (some .int)]
def wsX5_forge : List Cond := .code yX5_forge cX5_forge 2 (some .int) :: ((wsX5_forge_r1 ++ (wsX5_forge_r2 ++ (wsX5_forge_r3 ++ (wsX5_forge_r4 ++ (wsX5_forge_r5 ++ (wsX5_forge_r6 ++ wsX5_forge_r7)))))) ++ wsX50 ++ wsX10 ++ wsX40 ++ wsX00 ++ wsX20)
def wsX5_propose_r1 : List Cond := [Cond.fieldLink RX5 19 "VillageLog" "history" "LVillageLog$History;", Cond.fieldLink RX5 10 "VillageLog" "village" "LVillageLog$Village;", Cond.methodLink RX5 30 yX1_note, Cond.instanceMethod yX1_note, Cond.selects RX1 yX1_note yX1_note, Cond.initialized RX1, Cond.code yX1_note cX1_note 2 none, Cond.fieldLink RX1 13 "VillageLog$History" "rows" "[LVillageLog$Village;", Cond.fieldLink RX1 22 "VillageLog$History" "free" "I", Cond.methodLink RX1 25 yX4_copyFrom, Cond.instanceMethod yX4_copyFrom, Cond.selects RX4 yX4_copyFrom yX4_copyFrom, Cond.initialized RX4, Cond.code yX4_copyFrom cX4_copyFrom 2 none, Cond.fieldLink RX4 48 "VillageLog$Village" "villagers" "I", Cond.fieldLink RX4 9 "VillageLog$Village" "present" "[I", Cond.methodLink RX4 51 arraycopyName, Cond.native arraycopyName, Cond.static arraycopyName, Cond.initialized "java/lang/System", Cond.fieldLink RX4 15 "VillageLog$Village" "copied" "[I", Cond.fieldLink RX4 21 "VillageLog$Village" "oldCouncil" "LVillageLog$Council;", Cond.fieldLink RX4 25 "VillageLog$Village" "newCouncil" "LVillageLog$Council;", Cond.fieldLink RX4 61 "VillageLog$Village" "term" "I"]
def wsX5_propose_r2 : List Cond := [Cond.fieldLink RX4 28 "VillageLog$Village" "changeEntry" "I", Cond.fieldLink RX4 35 "VillageLog$Village" "lot" "LVillageLog$Lot;", Cond.fieldLink RX4 67 "VillageLog$Village" "entries" "I", Cond.fieldLink RX4 70 "VillageLog$Village" "agreed" "I", Cond.fieldLink RX4 39 "VillageLog$Village" "numbers" "[I", Cond.fieldLink RX4 42 "VillageLog$Village" "terms" "[I", Cond.fieldLink RX4 45 "VillageLog$Village" "proposers" "[I", Cond.methodLink RX4 57 yX0_copyFrom, Cond.instanceMethod yX0_copyFrom, Cond.selects RX0 yX0_copyFrom yX0_copyFrom, Cond.initialized RX0, Cond.code yX0_copyFrom cX0_copyFrom 2 none, Cond.fieldLink RX0 15 "VillageLog$Council" "size" "I", Cond.fieldLink RX0 9 "VillageLog$Council" "elders" "[I", Cond.methodLink RX0 19 arraycopyName, Cond.methodLink RX4 64 yX2_copyFrom, Cond.instanceMethod yX2_copyFrom, Cond.selects RX2 yX2_copyFrom yX2_copyFrom, Cond.initialized RX2, Cond.code yX2_copyFrom cX2_copyFrom 2 none, Cond.fieldLink RX2 9 "VillageLog$Lot" "state" "I", Cond.fieldLink RX2 32 "VillageLog$Lot" "draws" "I", Cond.fieldLink RX2 15 "VillageLog$Lot" "states" "[I", Cond.methodLink RX2 35 arraycopyName]
def wsX5_propose_r3 : List Cond := [Cond.fieldLink RX2 19 "VillageLog$Lot" "candidates" "[I", Cond.fieldLink RX2 22 "VillageLog$Lot" "drawn" "[I", Cond.fieldLink RX2 25 "VillageLog$Lot" "standing" "[I", Cond.fieldLink RX2 28 "VillageLog$Lot" "seats" "[I", Cond.methodLink RX5 58 yX4_proposeEntry, Cond.instanceMethod yX4_proposeEntry, Cond.selects RX4 yX4_proposeEntry yX4_proposeEntry, Cond.code yX4_proposeEntry cX4_proposeEntry 3 (some .int), Cond.methodLink RX4 73 yX4_isVillager, Cond.instanceMethod yX4_isVillager, Cond.selects RX4 yX4_isVillager yX4_isVillager, Cond.code yX4_isVillager cX4_isVillager 2 (some .boolean), Cond.methodLink RX4 106 yX4_mayAct, Cond.instanceMethod yX4_mayAct, Cond.selects RX4 yX4_mayAct yX4_mayAct, Cond.code yX4_mayAct cX4_mayAct 2 (some .boolean), Cond.methodLink RX4 126 yX4_isElder, Cond.instanceMethod yX4_isElder, Cond.selects RX4 yX4_isElder yX4_isElder, Cond.code yX4_isElder cX4_isElder 2 (some .boolean), Cond.methodLink RX4 183 yX0_has, Cond.instanceMethod yX0_has, Cond.selects RX0 yX0_has yX0_has, Cond.code yX0_has cX0_has 2 (some .boolean)]
def wsX5_propose_r4 : List Cond := [Cond.methodLink RX0 35 yX0_seatOf, Cond.instanceMethod yX0_seatOf, Cond.selects RX0 yX0_seatOf yX0_seatOf, Cond.code yX0_seatOf cX0_seatOf 3 (some .int), Cond.methodLink RX4 192 yX4_isPresent, Cond.instanceMethod yX4_isPresent, Cond.selects RX4 yX4_isPresent yX4_isPresent, Cond.code yX4_isPresent cX4_isPresent 2 (some .boolean), Cond.methodLink RX4 120 yX4_addEntry, Cond.instanceMethod yX4_addEntry, Cond.selects RX4 yX4_addEntry yX4_addEntry, Cond.code yX4_addEntry cX4_addEntry 3 none, Cond.methodLink RX4 123 yX4_agree, Cond.instanceMethod yX4_agree, Cond.selects RX4 yX4_agree yX4_agree, Cond.code yX4_agree cX4_agree 2 (some .int), Cond.methodLink RX4 179 yX4_isSupported, Cond.instanceMethod yX4_isSupported, Cond.selects RX4 yX4_isSupported yX4_isSupported, Cond.code yX4_isSupported cX4_isSupported 3 (some .boolean), Cond.methodLink RX4 165 yX4_holders, Cond.instanceMethod yX4_holders, Cond.selects RX4 yX4_holders yX4_holders, Cond.code yX4_holders cX4_holders 7 (some .int)]
def wsX5_propose_r5 : List Cond := [Cond.methodLink RX4 147 yX0_size, Cond.instanceMethod yX0_size, Cond.selects RX0 yX0_size yX0_size, Cond.code yX0_size cX0_size 1 (some .int), Cond.methodLink RX4 132 yX0_elderOn, Cond.instanceMethod yX0_elderOn, Cond.selects RX0 yX0_elderOn yX0_elderOn, Cond.code yX0_elderOn cX0_elderOn 2 (some .int), Cond.methodLink RX0 31 yX0_hasSeat, Cond.instanceMethod yX0_hasSeat, Cond.selects RX0 yX0_hasSeat yX0_hasSeat, Cond.code yX0_hasSeat cX0_hasSeat 2 (some .boolean), Cond.methodLink RX4 195 yX4_holds, Cond.instanceMethod yX4_holds, Cond.selects RX4 yX4_holds yX4_holds, Cond.code yX4_holds cX4_holds 3 (some .boolean), Cond.methodLink RX4 202 yX0_majority, Cond.instanceMethod yX0_majority, Cond.selects RX0 yX0_majority yX0_majority, Cond.code yX0_majority cX0_majority 1 (some .int), Cond.methodLink RX4 172 yX4_oldCounts, Cond.instanceMethod yX4_oldCounts, Cond.selects RX4 yX4_oldCounts yX4_oldCounts, Cond.code yX4_oldCounts cX4_oldCounts 2 (some .boolean)]
def wsX5_propose_r6 : List Cond := [Cond.methodLink RX4 103 yX4_isChanging, Cond.instanceMethod yX4_isChanging, Cond.selects RX4 yX4_isChanging yX4_isChanging, Cond.code yX4_isChanging cX4_isChanging 1 (some .boolean), Cond.methodLink RX4 199 yX4_endChange, Cond.instanceMethod yX4_endChange, Cond.selects RX4 yX4_endChange yX4_endChange, Cond.code yX4_endChange cX4_endChange 1 none, Cond.methodLink RX5 38 yX5_kept, Cond.instanceMethod yX5_kept, Cond.selects RX5 yX5_kept yX5_kept, Cond.initialized RX5, Cond.code yX5_kept cX5_kept 2 (some .int), Cond.methodLink RX5 140 yX1_keep, Cond.instanceMethod yX1_keep, Cond.selects RX1 yX1_keep yX1_keep, Cond.code yX1_keep cX1_keep 1 none, Cond.fieldLink RX1 18 "VillageLog$History" "length" "I", Cond.methodLink RX1 29 Lib.Math.min.name, Cond.static Lib.Math.min.name, Cond.initialized "java/lang/Math", Cond.code Lib.Math.min.name Lib.Math.min.code 2 (some .int)]
def wsX5_propose : List Cond := .code yX5_propose cX5_propose 3 (some .int) :: ((wsX5_propose_r1 ++ (wsX5_propose_r2 ++ (wsX5_propose_r3 ++ (wsX5_propose_r4 ++ (wsX5_propose_r5 ++ wsX5_propose_r6))))) ++ wsX50 ++ wsX10 ++ wsX40 ++ wsX00 ++ wsX20)
def wsX5_second_r1 : List Cond := [Cond.fieldLink RX5 19 "VillageLog" "history" "LVillageLog$History;", Cond.fieldLink RX5 10 "VillageLog" "village" "LVillageLog$Village;", Cond.methodLink RX5 30 yX1_note, Cond.instanceMethod yX1_note, Cond.selects RX1 yX1_note yX1_note, Cond.initialized RX1, Cond.code yX1_note cX1_note 2 none, Cond.fieldLink RX1 13 "VillageLog$History" "rows" "[LVillageLog$Village;", Cond.fieldLink RX1 22 "VillageLog$History" "free" "I", Cond.methodLink RX1 25 yX4_copyFrom, Cond.instanceMethod yX4_copyFrom, Cond.selects RX4 yX4_copyFrom yX4_copyFrom, Cond.initialized RX4, Cond.code yX4_copyFrom cX4_copyFrom 2 none, Cond.fieldLink RX4 48 "VillageLog$Village" "villagers" "I", Cond.fieldLink RX4 9 "VillageLog$Village" "present" "[I", Cond.methodLink RX4 51 arraycopyName, Cond.native arraycopyName, Cond.static arraycopyName, Cond.initialized "java/lang/System", Cond.fieldLink RX4 15 "VillageLog$Village" "copied" "[I", Cond.fieldLink RX4 21 "VillageLog$Village" "oldCouncil" "LVillageLog$Council;", Cond.fieldLink RX4 25 "VillageLog$Village" "newCouncil" "LVillageLog$Council;", Cond.fieldLink RX4 61 "VillageLog$Village" "term" "I"]
def wsX5_second_r2 : List Cond := [Cond.fieldLink RX4 28 "VillageLog$Village" "changeEntry" "I", Cond.fieldLink RX4 35 "VillageLog$Village" "lot" "LVillageLog$Lot;", Cond.fieldLink RX4 67 "VillageLog$Village" "entries" "I", Cond.fieldLink RX4 70 "VillageLog$Village" "agreed" "I", Cond.fieldLink RX4 39 "VillageLog$Village" "numbers" "[I", Cond.fieldLink RX4 42 "VillageLog$Village" "terms" "[I", Cond.fieldLink RX4 45 "VillageLog$Village" "proposers" "[I", Cond.methodLink RX4 57 yX0_copyFrom, Cond.instanceMethod yX0_copyFrom, Cond.selects RX0 yX0_copyFrom yX0_copyFrom, Cond.initialized RX0, Cond.code yX0_copyFrom cX0_copyFrom 2 none, Cond.fieldLink RX0 15 "VillageLog$Council" "size" "I", Cond.fieldLink RX0 9 "VillageLog$Council" "elders" "[I", Cond.methodLink RX0 19 arraycopyName, Cond.methodLink RX4 64 yX2_copyFrom, Cond.instanceMethod yX2_copyFrom, Cond.selects RX2 yX2_copyFrom yX2_copyFrom, Cond.initialized RX2, Cond.code yX2_copyFrom cX2_copyFrom 2 none, Cond.fieldLink RX2 9 "VillageLog$Lot" "state" "I", Cond.fieldLink RX2 32 "VillageLog$Lot" "draws" "I", Cond.fieldLink RX2 15 "VillageLog$Lot" "states" "[I", Cond.methodLink RX2 35 arraycopyName]
def wsX5_second_r3 : List Cond := [Cond.fieldLink RX2 19 "VillageLog$Lot" "candidates" "[I", Cond.fieldLink RX2 22 "VillageLog$Lot" "drawn" "[I", Cond.fieldLink RX2 25 "VillageLog$Lot" "standing" "[I", Cond.fieldLink RX2 28 "VillageLog$Lot" "seats" "[I", Cond.methodLink RX5 61 yX4_secondEntry, Cond.instanceMethod yX4_secondEntry, Cond.selects RX4 yX4_secondEntry yX4_secondEntry, Cond.code yX4_secondEntry cX4_secondEntry 3 (some .int), Cond.methodLink RX4 73 yX4_isVillager, Cond.instanceMethod yX4_isVillager, Cond.selects RX4 yX4_isVillager yX4_isVillager, Cond.code yX4_isVillager cX4_isVillager 2 (some .boolean), Cond.methodLink RX4 138 yX4_isEntry, Cond.instanceMethod yX4_isEntry, Cond.selects RX4 yX4_isEntry yX4_isEntry, Cond.code yX4_isEntry cX4_isEntry 2 (some .boolean), Cond.methodLink RX4 106 yX4_mayAct, Cond.instanceMethod yX4_mayAct, Cond.selects RX4 yX4_mayAct yX4_mayAct, Cond.code yX4_mayAct cX4_mayAct 2 (some .boolean), Cond.methodLink RX4 126 yX4_isElder, Cond.instanceMethod yX4_isElder, Cond.selects RX4 yX4_isElder yX4_isElder, Cond.code yX4_isElder cX4_isElder 2 (some .boolean)]
def wsX5_second_r4 : List Cond := [Cond.methodLink RX4 183 yX0_has, Cond.instanceMethod yX0_has, Cond.selects RX0 yX0_has yX0_has, Cond.code yX0_has cX0_has 2 (some .boolean), Cond.methodLink RX0 35 yX0_seatOf, Cond.instanceMethod yX0_seatOf, Cond.selects RX0 yX0_seatOf yX0_seatOf, Cond.code yX0_seatOf cX0_seatOf 3 (some .int), Cond.methodLink RX4 192 yX4_isPresent, Cond.instanceMethod yX4_isPresent, Cond.selects RX4 yX4_isPresent yX4_isPresent, Cond.code yX4_isPresent cX4_isPresent 2 (some .boolean), Cond.methodLink RX4 123 yX4_agree, Cond.instanceMethod yX4_agree, Cond.selects RX4 yX4_agree yX4_agree, Cond.code yX4_agree cX4_agree 2 (some .int), Cond.methodLink RX4 179 yX4_isSupported, Cond.instanceMethod yX4_isSupported, Cond.selects RX4 yX4_isSupported yX4_isSupported, Cond.code yX4_isSupported cX4_isSupported 3 (some .boolean), Cond.methodLink RX4 165 yX4_holders, Cond.instanceMethod yX4_holders, Cond.selects RX4 yX4_holders yX4_holders, Cond.code yX4_holders cX4_holders 7 (some .int)]
def wsX5_second_r5 : List Cond := [Cond.methodLink RX4 147 yX0_size, Cond.instanceMethod yX0_size, Cond.selects RX0 yX0_size yX0_size, Cond.code yX0_size cX0_size 1 (some .int), Cond.methodLink RX4 132 yX0_elderOn, Cond.instanceMethod yX0_elderOn, Cond.selects RX0 yX0_elderOn yX0_elderOn, Cond.code yX0_elderOn cX0_elderOn 2 (some .int), Cond.methodLink RX0 31 yX0_hasSeat, Cond.instanceMethod yX0_hasSeat, Cond.selects RX0 yX0_hasSeat yX0_hasSeat, Cond.code yX0_hasSeat cX0_hasSeat 2 (some .boolean), Cond.methodLink RX4 195 yX4_holds, Cond.instanceMethod yX4_holds, Cond.selects RX4 yX4_holds yX4_holds, Cond.code yX4_holds cX4_holds 3 (some .boolean), Cond.methodLink RX4 202 yX0_majority, Cond.instanceMethod yX0_majority, Cond.selects RX0 yX0_majority yX0_majority, Cond.code yX0_majority cX0_majority 1 (some .int), Cond.methodLink RX4 172 yX4_oldCounts, Cond.instanceMethod yX4_oldCounts, Cond.selects RX4 yX4_oldCounts yX4_oldCounts, Cond.code yX4_oldCounts cX4_oldCounts 2 (some .boolean)]
def wsX5_second_r6 : List Cond := [Cond.methodLink RX4 103 yX4_isChanging, Cond.instanceMethod yX4_isChanging, Cond.selects RX4 yX4_isChanging yX4_isChanging, Cond.code yX4_isChanging cX4_isChanging 1 (some .boolean), Cond.methodLink RX4 199 yX4_endChange, Cond.instanceMethod yX4_endChange, Cond.selects RX4 yX4_endChange yX4_endChange, Cond.code yX4_endChange cX4_endChange 1 none, Cond.methodLink RX5 38 yX5_kept, Cond.instanceMethod yX5_kept, Cond.selects RX5 yX5_kept yX5_kept, Cond.initialized RX5, Cond.code yX5_kept cX5_kept 2 (some .int), Cond.methodLink RX5 140 yX1_keep, Cond.instanceMethod yX1_keep, Cond.selects RX1 yX1_keep yX1_keep, Cond.code yX1_keep cX1_keep 1 none, Cond.fieldLink RX1 18 "VillageLog$History" "length" "I", Cond.methodLink RX1 29 Lib.Math.min.name, Cond.static Lib.Math.min.name, Cond.initialized "java/lang/Math", Cond.code Lib.Math.min.name Lib.Math.min.code 2 (some .int)]
def wsX5_second : List Cond := .code yX5_second cX5_second 3 (some .int) :: ((wsX5_second_r1 ++ (wsX5_second_r2 ++ (wsX5_second_r3 ++ (wsX5_second_r4 ++ (wsX5_second_r5 ++ wsX5_second_r6))))) ++ wsX50 ++ wsX10 ++ wsX40 ++ wsX00 ++ wsX20)
def wsX5_learn_r1 : List Cond := [Cond.fieldLink RX5 19 "VillageLog" "history" "LVillageLog$History;", Cond.fieldLink RX5 10 "VillageLog" "village" "LVillageLog$Village;", Cond.methodLink RX5 30 yX1_note, Cond.instanceMethod yX1_note, Cond.selects RX1 yX1_note yX1_note, Cond.initialized RX1, Cond.code yX1_note cX1_note 2 none, Cond.fieldLink RX1 13 "VillageLog$History" "rows" "[LVillageLog$Village;", Cond.fieldLink RX1 22 "VillageLog$History" "free" "I", Cond.methodLink RX1 25 yX4_copyFrom, Cond.instanceMethod yX4_copyFrom, Cond.selects RX4 yX4_copyFrom yX4_copyFrom, Cond.initialized RX4, Cond.code yX4_copyFrom cX4_copyFrom 2 none, Cond.fieldLink RX4 48 "VillageLog$Village" "villagers" "I", Cond.fieldLink RX4 9 "VillageLog$Village" "present" "[I", Cond.methodLink RX4 51 arraycopyName, Cond.native arraycopyName, Cond.static arraycopyName, Cond.initialized "java/lang/System", Cond.fieldLink RX4 15 "VillageLog$Village" "copied" "[I", Cond.fieldLink RX4 21 "VillageLog$Village" "oldCouncil" "LVillageLog$Council;", Cond.fieldLink RX4 25 "VillageLog$Village" "newCouncil" "LVillageLog$Council;", Cond.fieldLink RX4 61 "VillageLog$Village" "term" "I"]
def wsX5_learn_r2 : List Cond := [Cond.fieldLink RX4 28 "VillageLog$Village" "changeEntry" "I", Cond.fieldLink RX4 35 "VillageLog$Village" "lot" "LVillageLog$Lot;", Cond.fieldLink RX4 67 "VillageLog$Village" "entries" "I", Cond.fieldLink RX4 70 "VillageLog$Village" "agreed" "I", Cond.fieldLink RX4 39 "VillageLog$Village" "numbers" "[I", Cond.fieldLink RX4 42 "VillageLog$Village" "terms" "[I", Cond.fieldLink RX4 45 "VillageLog$Village" "proposers" "[I", Cond.methodLink RX4 57 yX0_copyFrom, Cond.instanceMethod yX0_copyFrom, Cond.selects RX0 yX0_copyFrom yX0_copyFrom, Cond.initialized RX0, Cond.code yX0_copyFrom cX0_copyFrom 2 none, Cond.fieldLink RX0 15 "VillageLog$Council" "size" "I", Cond.fieldLink RX0 9 "VillageLog$Council" "elders" "[I", Cond.methodLink RX0 19 arraycopyName, Cond.methodLink RX4 64 yX2_copyFrom, Cond.instanceMethod yX2_copyFrom, Cond.selects RX2 yX2_copyFrom yX2_copyFrom, Cond.initialized RX2, Cond.code yX2_copyFrom cX2_copyFrom 2 none, Cond.fieldLink RX2 9 "VillageLog$Lot" "state" "I", Cond.fieldLink RX2 32 "VillageLog$Lot" "draws" "I", Cond.fieldLink RX2 15 "VillageLog$Lot" "states" "[I", Cond.methodLink RX2 35 arraycopyName]
def wsX5_learn_r3 : List Cond := [Cond.fieldLink RX2 19 "VillageLog$Lot" "candidates" "[I", Cond.fieldLink RX2 22 "VillageLog$Lot" "drawn" "[I", Cond.fieldLink RX2 25 "VillageLog$Lot" "standing" "[I", Cond.fieldLink RX2 28 "VillageLog$Lot" "seats" "[I", Cond.methodLink RX5 64 yX4_learnEntries, Cond.instanceMethod yX4_learnEntries, Cond.selects RX4 yX4_learnEntries yX4_learnEntries, Cond.code yX4_learnEntries cX4_learnEntries 3 (some .int), Cond.methodLink RX4 141 Lib.Math.max.name, Cond.static Lib.Math.max.name, Cond.initialized "java/lang/Math", Cond.code Lib.Math.max.name Lib.Math.max.code 2 (some .int), Cond.methodLink RX4 73 yX4_isVillager, Cond.instanceMethod yX4_isVillager, Cond.selects RX4 yX4_isVillager yX4_isVillager, Cond.code yX4_isVillager cX4_isVillager 2 (some .boolean), Cond.methodLink RX5 38 yX5_kept, Cond.instanceMethod yX5_kept, Cond.selects RX5 yX5_kept yX5_kept, Cond.initialized RX5, Cond.code yX5_kept cX5_kept 2 (some .int), Cond.methodLink RX5 140 yX1_keep, Cond.instanceMethod yX1_keep, Cond.selects RX1 yX1_keep yX1_keep]
def wsX5_learn_r4 : List Cond := [Cond.code yX1_keep cX1_keep 1 none, Cond.fieldLink RX1 18 "VillageLog$History" "length" "I", Cond.methodLink RX1 29 Lib.Math.min.name, Cond.static Lib.Math.min.name, Cond.code Lib.Math.min.name Lib.Math.min.code 2 (some .int)]
def wsX5_learn : List Cond := .code yX5_learn cX5_learn 2 (some .int) :: ((wsX5_learn_r1 ++ (wsX5_learn_r2 ++ (wsX5_learn_r3 ++ wsX5_learn_r4))) ++ wsX50 ++ wsX10 ++ wsX40 ++ wsX00 ++ wsX20)
def wsX5_undo_r1 : List Cond := [Cond.fieldLink RX5 19 "VillageLog" "history" "LVillageLog$History;", Cond.fieldLink RX5 10 "VillageLog" "village" "LVillageLog$Village;", Cond.methodLink RX5 67 yX1_stepBack, Cond.instanceMethod yX1_stepBack, Cond.selects RX1 yX1_stepBack yX1_stepBack, Cond.initialized RX1, Cond.code yX1_stepBack cX1_stepBack 2 (some .int), Cond.fieldLink RX1 18 "VillageLog$History" "length" "I", Cond.fieldLink RX1 22 "VillageLog$History" "free" "I", Cond.methodLink RX1 35 yX1_restore, Cond.instanceMethod yX1_restore, Cond.selects RX1 yX1_restore yX1_restore, Cond.code yX1_restore cX1_restore 2 none, Cond.fieldLink RX1 13 "VillageLog$History" "rows" "[LVillageLog$Village;", Cond.methodLink RX1 25 yX4_copyFrom, Cond.instanceMethod yX4_copyFrom, Cond.selects RX4 yX4_copyFrom yX4_copyFrom, Cond.initialized RX4, Cond.code yX4_copyFrom cX4_copyFrom 2 none, Cond.fieldLink RX4 48 "VillageLog$Village" "villagers" "I", Cond.fieldLink RX4 9 "VillageLog$Village" "present" "[I", Cond.methodLink RX4 51 arraycopyName, Cond.native arraycopyName, Cond.static arraycopyName]
def wsX5_undo_r2 : List Cond := [Cond.initialized "java/lang/System", Cond.fieldLink RX4 15 "VillageLog$Village" "copied" "[I", Cond.fieldLink RX4 21 "VillageLog$Village" "oldCouncil" "LVillageLog$Council;", Cond.fieldLink RX4 25 "VillageLog$Village" "newCouncil" "LVillageLog$Council;", Cond.fieldLink RX4 61 "VillageLog$Village" "term" "I", Cond.fieldLink RX4 28 "VillageLog$Village" "changeEntry" "I", Cond.fieldLink RX4 35 "VillageLog$Village" "lot" "LVillageLog$Lot;", Cond.fieldLink RX4 67 "VillageLog$Village" "entries" "I", Cond.fieldLink RX4 70 "VillageLog$Village" "agreed" "I", Cond.fieldLink RX4 39 "VillageLog$Village" "numbers" "[I", Cond.fieldLink RX4 42 "VillageLog$Village" "terms" "[I", Cond.fieldLink RX4 45 "VillageLog$Village" "proposers" "[I", Cond.methodLink RX4 57 yX0_copyFrom, Cond.instanceMethod yX0_copyFrom, Cond.selects RX0 yX0_copyFrom yX0_copyFrom, Cond.initialized RX0, Cond.code yX0_copyFrom cX0_copyFrom 2 none, Cond.fieldLink RX0 15 "VillageLog$Council" "size" "I", Cond.fieldLink RX0 9 "VillageLog$Council" "elders" "[I", Cond.methodLink RX0 19 arraycopyName, Cond.methodLink RX4 64 yX2_copyFrom, Cond.instanceMethod yX2_copyFrom, Cond.selects RX2 yX2_copyFrom yX2_copyFrom, Cond.initialized RX2]
def wsX5_undo_r3 : List Cond := [Cond.code yX2_copyFrom cX2_copyFrom 2 none, Cond.fieldLink RX2 9 "VillageLog$Lot" "state" "I", Cond.fieldLink RX2 32 "VillageLog$Lot" "draws" "I", Cond.fieldLink RX2 15 "VillageLog$Lot" "states" "[I", Cond.methodLink RX2 35 arraycopyName, Cond.fieldLink RX2 19 "VillageLog$Lot" "candidates" "[I", Cond.fieldLink RX2 22 "VillageLog$Lot" "drawn" "[I", Cond.fieldLink RX2 25 "VillageLog$Lot" "standing" "[I", Cond.fieldLink RX2 28 "VillageLog$Lot" "seats" "[I"]
def wsX5_undo : List Cond := .code yX5_undo cX5_undo 1 (some .int) :: ((wsX5_undo_r1 ++ (wsX5_undo_r2 ++ wsX5_undo_r3)) ++ wsX50 ++ wsX10 ++ wsX40 ++ wsX00 ++ wsX20)
def wsX5_append : List Cond := .code yX5_append cX5_append 2 (some .int) :: ([.fieldLink RX5 26 "VillageLog" "text" "LVillageLog$Text;", .methodLink RX5 71 yX3_add, .instanceMethod yX3_add, .selects RX3 yX3_add yX3_add, .initialized RX3, .code yX3_add cX3_add 2 (some .int), .fieldLink RX3 15 "VillageLog$Text" "length" "I", .fieldLink RX3 9 "VillageLog$Text" "characters" "[I"] ++ wsX50 ++ wsX30)
def wsX5_clearText : List Cond := .code yX5_clearText cX5_clearText 1 (some .int) :: ([.fieldLink RX5 26 "VillageLog" "text" "LVillageLog$Text;", .methodLink RX5 74 yX3_clear, .instanceMethod yX3_clear, .selects RX3 yX3_clear yX3_clear, .initialized RX3, .code yX3_clear cX3_clear 2 (some .int), .fieldLink RX3 15 "VillageLog$Text" "length" "I"] ++ wsX50 ++ wsX30)
def wsX5_failedRun_r1 : List Cond := [Cond.fieldLink RX5 19 "VillageLog" "history" "LVillageLog$History;", Cond.fieldLink RX5 10 "VillageLog" "village" "LVillageLog$Village;", Cond.methodLink RX5 143 yX1_restore, Cond.instanceMethod yX1_restore, Cond.selects RX1 yX1_restore yX1_restore, Cond.initialized RX1, Cond.code yX1_restore cX1_restore 2 none, Cond.fieldLink RX1 13 "VillageLog$History" "rows" "[LVillageLog$Village;", Cond.fieldLink RX1 22 "VillageLog$History" "free" "I", Cond.methodLink RX1 25 yX4_copyFrom, Cond.instanceMethod yX4_copyFrom, Cond.selects RX4 yX4_copyFrom yX4_copyFrom, Cond.initialized RX4, Cond.code yX4_copyFrom cX4_copyFrom 2 none, Cond.fieldLink RX4 48 "VillageLog$Village" "villagers" "I", Cond.fieldLink RX4 9 "VillageLog$Village" "present" "[I", Cond.methodLink RX4 51 arraycopyName, Cond.native arraycopyName, Cond.static arraycopyName, Cond.initialized "java/lang/System", Cond.fieldLink RX4 15 "VillageLog$Village" "copied" "[I", Cond.fieldLink RX4 21 "VillageLog$Village" "oldCouncil" "LVillageLog$Council;", Cond.fieldLink RX4 25 "VillageLog$Village" "newCouncil" "LVillageLog$Council;", Cond.fieldLink RX4 61 "VillageLog$Village" "term" "I"]
def wsX5_failedRun_r2 : List Cond := [Cond.fieldLink RX4 28 "VillageLog$Village" "changeEntry" "I", Cond.fieldLink RX4 35 "VillageLog$Village" "lot" "LVillageLog$Lot;", Cond.fieldLink RX4 67 "VillageLog$Village" "entries" "I", Cond.fieldLink RX4 70 "VillageLog$Village" "agreed" "I", Cond.fieldLink RX4 39 "VillageLog$Village" "numbers" "[I", Cond.fieldLink RX4 42 "VillageLog$Village" "terms" "[I", Cond.fieldLink RX4 45 "VillageLog$Village" "proposers" "[I", Cond.methodLink RX4 57 yX0_copyFrom, Cond.instanceMethod yX0_copyFrom, Cond.selects RX0 yX0_copyFrom yX0_copyFrom, Cond.initialized RX0, Cond.code yX0_copyFrom cX0_copyFrom 2 none, Cond.fieldLink RX0 15 "VillageLog$Council" "size" "I", Cond.fieldLink RX0 9 "VillageLog$Council" "elders" "[I", Cond.methodLink RX0 19 arraycopyName, Cond.methodLink RX4 64 yX2_copyFrom, Cond.instanceMethod yX2_copyFrom, Cond.selects RX2 yX2_copyFrom yX2_copyFrom, Cond.initialized RX2, Cond.code yX2_copyFrom cX2_copyFrom 2 none, Cond.fieldLink RX2 9 "VillageLog$Lot" "state" "I", Cond.fieldLink RX2 32 "VillageLog$Lot" "draws" "I", Cond.fieldLink RX2 15 "VillageLog$Lot" "states" "[I", Cond.methodLink RX2 35 arraycopyName]
def wsX5_failedRun_r3 : List Cond := [Cond.fieldLink RX2 19 "VillageLog$Lot" "candidates" "[I", Cond.fieldLink RX2 22 "VillageLog$Lot" "drawn" "[I", Cond.fieldLink RX2 25 "VillageLog$Lot" "standing" "[I", Cond.fieldLink RX2 28 "VillageLog$Lot" "seats" "[I"]
def wsX5_failedRun : List Cond := .code yX5_failedRun cX5_failedRun 2 (some .int) :: ((wsX5_failedRun_r1 ++ (wsX5_failedRun_r2 ++ wsX5_failedRun_r3)) ++ wsX50 ++ wsX10 ++ wsX40 ++ wsX00 ++ wsX20)
def wsX5_callCommand_r1 : List Cond := [Cond.fieldLink RX5 10 "VillageLog" "village" "LVillageLog$Village;", Cond.methodLink RX5 58 yX4_proposeEntry, Cond.instanceMethod yX4_proposeEntry, Cond.selects RX4 yX4_proposeEntry yX4_proposeEntry, Cond.initialized RX4, Cond.code yX4_proposeEntry cX4_proposeEntry 3 (some .int), Cond.fieldLink RX4 15 "VillageLog$Village" "copied" "[I", Cond.fieldLink RX4 67 "VillageLog$Village" "entries" "I", Cond.methodLink RX4 73 yX4_isVillager, Cond.instanceMethod yX4_isVillager, Cond.selects RX4 yX4_isVillager yX4_isVillager, Cond.code yX4_isVillager cX4_isVillager 2 (some .boolean), Cond.fieldLink RX4 48 "VillageLog$Village" "villagers" "I", Cond.methodLink RX4 106 yX4_mayAct, Cond.instanceMethod yX4_mayAct, Cond.selects RX4 yX4_mayAct yX4_mayAct, Cond.code yX4_mayAct cX4_mayAct 2 (some .boolean), Cond.methodLink RX4 126 yX4_isElder, Cond.instanceMethod yX4_isElder, Cond.selects RX4 yX4_isElder yX4_isElder, Cond.code yX4_isElder cX4_isElder 2 (some .boolean), Cond.fieldLink RX4 21 "VillageLog$Village" "oldCouncil" "LVillageLog$Council;", Cond.fieldLink RX4 25 "VillageLog$Village" "newCouncil" "LVillageLog$Council;", Cond.methodLink RX4 183 yX0_has]
def wsX5_callCommand_r2 : List Cond := [Cond.instanceMethod yX0_has, Cond.selects RX0 yX0_has yX0_has, Cond.initialized RX0, Cond.code yX0_has cX0_has 2 (some .boolean), Cond.methodLink RX0 35 yX0_seatOf, Cond.instanceMethod yX0_seatOf, Cond.selects RX0 yX0_seatOf yX0_seatOf, Cond.code yX0_seatOf cX0_seatOf 3 (some .int), Cond.fieldLink RX0 15 "VillageLog$Council" "size" "I", Cond.fieldLink RX0 9 "VillageLog$Council" "elders" "[I", Cond.methodLink RX4 192 yX4_isPresent, Cond.instanceMethod yX4_isPresent, Cond.selects RX4 yX4_isPresent yX4_isPresent, Cond.code yX4_isPresent cX4_isPresent 2 (some .boolean), Cond.fieldLink RX4 9 "VillageLog$Village" "present" "[I", Cond.methodLink RX4 120 yX4_addEntry, Cond.instanceMethod yX4_addEntry, Cond.selects RX4 yX4_addEntry yX4_addEntry, Cond.code yX4_addEntry cX4_addEntry 3 none, Cond.fieldLink RX4 39 "VillageLog$Village" "numbers" "[I", Cond.fieldLink RX4 42 "VillageLog$Village" "terms" "[I", Cond.fieldLink RX4 61 "VillageLog$Village" "term" "I", Cond.fieldLink RX4 45 "VillageLog$Village" "proposers" "[I", Cond.methodLink RX4 123 yX4_agree]
def wsX5_callCommand_r3 : List Cond := [Cond.instanceMethod yX4_agree, Cond.selects RX4 yX4_agree yX4_agree, Cond.code yX4_agree cX4_agree 2 (some .int), Cond.fieldLink RX4 70 "VillageLog$Village" "agreed" "I", Cond.fieldLink RX4 28 "VillageLog$Village" "changeEntry" "I", Cond.methodLink RX4 179 yX4_isSupported, Cond.instanceMethod yX4_isSupported, Cond.selects RX4 yX4_isSupported yX4_isSupported, Cond.code yX4_isSupported cX4_isSupported 3 (some .boolean), Cond.methodLink RX4 165 yX4_holders, Cond.instanceMethod yX4_holders, Cond.selects RX4 yX4_holders yX4_holders, Cond.code yX4_holders cX4_holders 7 (some .int), Cond.methodLink RX4 147 yX0_size, Cond.instanceMethod yX0_size, Cond.selects RX0 yX0_size yX0_size, Cond.code yX0_size cX0_size 1 (some .int), Cond.methodLink RX4 132 yX0_elderOn, Cond.instanceMethod yX0_elderOn, Cond.selects RX0 yX0_elderOn yX0_elderOn, Cond.code yX0_elderOn cX0_elderOn 2 (some .int), Cond.methodLink RX0 31 yX0_hasSeat, Cond.instanceMethod yX0_hasSeat, Cond.selects RX0 yX0_hasSeat yX0_hasSeat]
def wsX5_callCommand_r4 : List Cond := [Cond.code yX0_hasSeat cX0_hasSeat 2 (some .boolean), Cond.methodLink RX4 195 yX4_holds, Cond.instanceMethod yX4_holds, Cond.selects RX4 yX4_holds yX4_holds, Cond.code yX4_holds cX4_holds 3 (some .boolean), Cond.methodLink RX4 202 yX0_majority, Cond.instanceMethod yX0_majority, Cond.selects RX0 yX0_majority yX0_majority, Cond.code yX0_majority cX0_majority 1 (some .int), Cond.methodLink RX4 172 yX4_oldCounts, Cond.instanceMethod yX4_oldCounts, Cond.selects RX4 yX4_oldCounts yX4_oldCounts, Cond.code yX4_oldCounts cX4_oldCounts 2 (some .boolean), Cond.methodLink RX4 103 yX4_isChanging, Cond.instanceMethod yX4_isChanging, Cond.selects RX4 yX4_isChanging yX4_isChanging, Cond.code yX4_isChanging cX4_isChanging 1 (some .boolean), Cond.methodLink RX4 199 yX4_endChange, Cond.instanceMethod yX4_endChange, Cond.selects RX4 yX4_endChange yX4_endChange, Cond.code yX4_endChange cX4_endChange 1 none, Cond.methodLink RX4 57 yX0_copyFrom, Cond.instanceMethod yX0_copyFrom, Cond.selects RX0 yX0_copyFrom yX0_copyFrom]
def wsX5_callCommand_r5 : List Cond := [Cond.code yX0_copyFrom cX0_copyFrom 2 none, Cond.methodLink RX0 19 arraycopyName, Cond.native arraycopyName, Cond.static arraycopyName, Cond.initialized "java/lang/System", Cond.methodLink RX5 61 yX4_secondEntry, Cond.instanceMethod yX4_secondEntry, Cond.selects RX4 yX4_secondEntry yX4_secondEntry, Cond.code yX4_secondEntry cX4_secondEntry 3 (some .int), Cond.methodLink RX4 138 yX4_isEntry, Cond.instanceMethod yX4_isEntry, Cond.selects RX4 yX4_isEntry yX4_isEntry, Cond.code yX4_isEntry cX4_isEntry 2 (some .boolean), Cond.methodLink RX5 64 yX4_learnEntries, Cond.instanceMethod yX4_learnEntries, Cond.selects RX4 yX4_learnEntries yX4_learnEntries, Cond.code yX4_learnEntries cX4_learnEntries 3 (some .int), Cond.methodLink RX4 141 Lib.Math.max.name, Cond.static Lib.Math.max.name, Cond.initialized "java/lang/Math", Cond.code Lib.Math.max.name Lib.Math.max.code 2 (some .int), Cond.methodLink RX5 42 yX4_letAttend, Cond.instanceMethod yX4_letAttend, Cond.selects RX4 yX4_letAttend yX4_letAttend]
def wsX5_callCommand_r6 : List Cond := [Cond.code yX4_letAttend cX4_letAttend 3 (some .int), Cond.methodLink RX4 77 yX4_presentVillagers, Cond.instanceMethod yX4_presentVillagers, Cond.selects RX4 yX4_presentVillagers yX4_presentVillagers, Cond.code yX4_presentVillagers cX4_presentVillagers 3 (some .int)]
def wsX5_callCommand : List Cond := .code yX5_callCommand cX5_callCommand 4 (some .int) :: ((wsX5_callCommand_r1 ++ (wsX5_callCommand_r2 ++ (wsX5_callCommand_r3 ++ (wsX5_callCommand_r4 ++ (wsX5_callCommand_r5 ++ wsX5_callCommand_r6))))) ++ wsX50 ++ wsX40 ++ wsX00)
def wsX5_run_r1 : List Cond := [Cond.fieldLink RX5 19 "VillageLog" "history" "LVillageLog$History;", Cond.fieldLink RX5 10 "VillageLog" "village" "LVillageLog$Village;", Cond.fieldLink RX5 26 "VillageLog" "text" "LVillageLog$Text;", Cond.methodLink RX5 30 yX1_note, Cond.instanceMethod yX1_note, Cond.selects RX1 yX1_note yX1_note, Cond.initialized RX1, Cond.code yX1_note cX1_note 2 none, Cond.fieldLink RX1 13 "VillageLog$History" "rows" "[LVillageLog$Village;", Cond.fieldLink RX1 22 "VillageLog$History" "free" "I", Cond.methodLink RX1 25 yX4_copyFrom, Cond.instanceMethod yX4_copyFrom, Cond.selects RX4 yX4_copyFrom yX4_copyFrom, Cond.initialized RX4, Cond.code yX4_copyFrom cX4_copyFrom 2 none, Cond.fieldLink RX4 48 "VillageLog$Village" "villagers" "I", Cond.fieldLink RX4 9 "VillageLog$Village" "present" "[I", Cond.methodLink RX4 51 arraycopyName, Cond.native arraycopyName, Cond.static arraycopyName, Cond.initialized "java/lang/System", Cond.fieldLink RX4 15 "VillageLog$Village" "copied" "[I", Cond.fieldLink RX4 21 "VillageLog$Village" "oldCouncil" "LVillageLog$Council;", Cond.fieldLink RX4 25 "VillageLog$Village" "newCouncil" "LVillageLog$Council;"]
def wsX5_run_r2 : List Cond := [Cond.fieldLink RX4 61 "VillageLog$Village" "term" "I", Cond.fieldLink RX4 28 "VillageLog$Village" "changeEntry" "I", Cond.fieldLink RX4 35 "VillageLog$Village" "lot" "LVillageLog$Lot;", Cond.fieldLink RX4 67 "VillageLog$Village" "entries" "I", Cond.fieldLink RX4 70 "VillageLog$Village" "agreed" "I", Cond.fieldLink RX4 39 "VillageLog$Village" "numbers" "[I", Cond.fieldLink RX4 42 "VillageLog$Village" "terms" "[I", Cond.fieldLink RX4 45 "VillageLog$Village" "proposers" "[I", Cond.methodLink RX4 57 yX0_copyFrom, Cond.instanceMethod yX0_copyFrom, Cond.selects RX0 yX0_copyFrom yX0_copyFrom, Cond.initialized RX0, Cond.code yX0_copyFrom cX0_copyFrom 2 none, Cond.fieldLink RX0 15 "VillageLog$Council" "size" "I", Cond.fieldLink RX0 9 "VillageLog$Council" "elders" "[I", Cond.methodLink RX0 19 arraycopyName, Cond.methodLink RX4 64 yX2_copyFrom, Cond.instanceMethod yX2_copyFrom, Cond.selects RX2 yX2_copyFrom yX2_copyFrom, Cond.initialized RX2, Cond.code yX2_copyFrom cX2_copyFrom 2 none, Cond.fieldLink RX2 9 "VillageLog$Lot" "state" "I", Cond.fieldLink RX2 32 "VillageLog$Lot" "draws" "I", Cond.fieldLink RX2 15 "VillageLog$Lot" "states" "[I"]
def wsX5_run_r3 : List Cond := [Cond.methodLink RX2 35 arraycopyName, Cond.fieldLink RX2 19 "VillageLog$Lot" "candidates" "[I", Cond.fieldLink RX2 22 "VillageLog$Lot" "drawn" "[I", Cond.fieldLink RX2 25 "VillageLog$Lot" "standing" "[I", Cond.fieldLink RX2 28 "VillageLog$Lot" "seats" "[I", Cond.methodLink RX5 77 yX3_rewind, Cond.instanceMethod yX3_rewind, Cond.selects RX3 yX3_rewind yX3_rewind, Cond.initialized RX3, Cond.code yX3_rewind cX3_rewind 1 none, Cond.fieldLink RX3 19 "VillageLog$Text" "place" "I", Cond.methodLink RX5 80 yX3_isRead, Cond.instanceMethod yX3_isRead, Cond.selects RX3 yX3_isRead yX3_isRead, Cond.code yX3_isRead cX3_isRead 1 (some .boolean), Cond.fieldLink RX3 15 "VillageLog$Text" "length" "I", Cond.methodLink RX5 84 yX3_place, Cond.instanceMethod yX3_place, Cond.selects RX3 yX3_place yX3_place, Cond.code yX3_place cX3_place 1 (some .int), Cond.methodLink RX5 87 yX3_readCommand, Cond.instanceMethod yX3_readCommand, Cond.selects RX3 yX3_readCommand yX3_readCommand, Cond.code yX3_readCommand cX3_readCommand 2 (some .boolean)]
def wsX5_run_r4 : List Cond := [Cond.fieldLink RX3 22 "VillageLog$Text" "letter" "I", Cond.fieldLink RX3 25 "VillageLog$Text" "villagerRead" "I", Cond.fieldLink RX3 28 "VillageLog$Text" "numberRead" "I", Cond.methodLink RX3 31 yX3_next, Cond.instanceMethod yX3_next, Cond.selects RX3 yX3_next yX3_next, Cond.code yX3_next cX3_next 1 (some .int), Cond.fieldLink RX3 9 "VillageLog$Text" "characters" "[I", Cond.methodLink RX3 35 yX3_readNumber, Cond.instanceMethod yX3_readNumber, Cond.selects RX3 yX3_readNumber yX3_readNumber, Cond.code yX3_readNumber cX3_readNumber 3 (some .int), Cond.methodLink RX3 42 yX3_isDigit, Cond.static yX3_isDigit, Cond.code yX3_isDigit cX3_isDigit 1 (some .boolean), Cond.methodLink RX3 38 yX3_readSign, Cond.instanceMethod yX3_readSign, Cond.selects RX3 yX3_readSign yX3_readSign, Cond.code yX3_readSign cX3_readSign 2 (some .boolean), Cond.methodLink RX5 90 yX5_failedRun, Cond.instanceMethod yX5_failedRun, Cond.selects RX5 yX5_failedRun yX5_failedRun, Cond.initialized RX5, Cond.code yX5_failedRun cX5_failedRun 2 (some .int)]
def wsX5_run_r5 : List Cond := [Cond.methodLink RX5 143 yX1_restore, Cond.instanceMethod yX1_restore, Cond.selects RX1 yX1_restore yX1_restore, Cond.code yX1_restore cX1_restore 2 none, Cond.methodLink RX5 93 yX3_letter, Cond.instanceMethod yX3_letter, Cond.selects RX3 yX3_letter yX3_letter, Cond.code yX3_letter cX3_letter 1 (some .int), Cond.methodLink RX5 96 yX3_villagerRead, Cond.instanceMethod yX3_villagerRead, Cond.selects RX3 yX3_villagerRead yX3_villagerRead, Cond.code yX3_villagerRead cX3_villagerRead 1 (some .int), Cond.methodLink RX5 99 yX3_numberRead, Cond.instanceMethod yX3_numberRead, Cond.selects RX3 yX3_numberRead yX3_numberRead, Cond.code yX3_numberRead cX3_numberRead 1 (some .int), Cond.methodLink RX5 102 yX5_callCommand, Cond.instanceMethod yX5_callCommand, Cond.selects RX5 yX5_callCommand yX5_callCommand, Cond.code yX5_callCommand cX5_callCommand 4 (some .int), Cond.methodLink RX5 58 yX4_proposeEntry, Cond.instanceMethod yX4_proposeEntry, Cond.selects RX4 yX4_proposeEntry yX4_proposeEntry, Cond.code yX4_proposeEntry cX4_proposeEntry 3 (some .int)]
def wsX5_run_r6 : List Cond := [Cond.methodLink RX4 73 yX4_isVillager, Cond.instanceMethod yX4_isVillager, Cond.selects RX4 yX4_isVillager yX4_isVillager, Cond.code yX4_isVillager cX4_isVillager 2 (some .boolean), Cond.methodLink RX4 106 yX4_mayAct, Cond.instanceMethod yX4_mayAct, Cond.selects RX4 yX4_mayAct yX4_mayAct, Cond.code yX4_mayAct cX4_mayAct 2 (some .boolean), Cond.methodLink RX4 126 yX4_isElder, Cond.instanceMethod yX4_isElder, Cond.selects RX4 yX4_isElder yX4_isElder, Cond.code yX4_isElder cX4_isElder 2 (some .boolean), Cond.methodLink RX4 183 yX0_has, Cond.instanceMethod yX0_has, Cond.selects RX0 yX0_has yX0_has, Cond.code yX0_has cX0_has 2 (some .boolean), Cond.methodLink RX0 35 yX0_seatOf, Cond.instanceMethod yX0_seatOf, Cond.selects RX0 yX0_seatOf yX0_seatOf, Cond.code yX0_seatOf cX0_seatOf 3 (some .int), Cond.methodLink RX4 192 yX4_isPresent, Cond.instanceMethod yX4_isPresent, Cond.selects RX4 yX4_isPresent yX4_isPresent, Cond.code yX4_isPresent cX4_isPresent 2 (some .boolean)]
def wsX5_run_r7 : List Cond := [Cond.methodLink RX4 120 yX4_addEntry, Cond.instanceMethod yX4_addEntry, Cond.selects RX4 yX4_addEntry yX4_addEntry, Cond.code yX4_addEntry cX4_addEntry 3 none, Cond.methodLink RX4 123 yX4_agree, Cond.instanceMethod yX4_agree, Cond.selects RX4 yX4_agree yX4_agree, Cond.code yX4_agree cX4_agree 2 (some .int), Cond.methodLink RX4 179 yX4_isSupported, Cond.instanceMethod yX4_isSupported, Cond.selects RX4 yX4_isSupported yX4_isSupported, Cond.code yX4_isSupported cX4_isSupported 3 (some .boolean), Cond.methodLink RX4 165 yX4_holders, Cond.instanceMethod yX4_holders, Cond.selects RX4 yX4_holders yX4_holders, Cond.code yX4_holders cX4_holders 7 (some .int), Cond.methodLink RX4 147 yX0_size, Cond.instanceMethod yX0_size, Cond.selects RX0 yX0_size yX0_size, Cond.code yX0_size cX0_size 1 (some .int), Cond.methodLink RX4 132 yX0_elderOn, Cond.instanceMethod yX0_elderOn, Cond.selects RX0 yX0_elderOn yX0_elderOn, Cond.code yX0_elderOn cX0_elderOn 2 (some .int)]
def wsX5_run_r8 : List Cond := [Cond.methodLink RX0 31 yX0_hasSeat, Cond.instanceMethod yX0_hasSeat, Cond.selects RX0 yX0_hasSeat yX0_hasSeat, Cond.code yX0_hasSeat cX0_hasSeat 2 (some .boolean), Cond.methodLink RX4 195 yX4_holds, Cond.instanceMethod yX4_holds, Cond.selects RX4 yX4_holds yX4_holds, Cond.code yX4_holds cX4_holds 3 (some .boolean), Cond.methodLink RX4 202 yX0_majority, Cond.instanceMethod yX0_majority, Cond.selects RX0 yX0_majority yX0_majority, Cond.code yX0_majority cX0_majority 1 (some .int), Cond.methodLink RX4 172 yX4_oldCounts, Cond.instanceMethod yX4_oldCounts, Cond.selects RX4 yX4_oldCounts yX4_oldCounts, Cond.code yX4_oldCounts cX4_oldCounts 2 (some .boolean), Cond.methodLink RX4 103 yX4_isChanging, Cond.instanceMethod yX4_isChanging, Cond.selects RX4 yX4_isChanging yX4_isChanging, Cond.code yX4_isChanging cX4_isChanging 1 (some .boolean), Cond.methodLink RX4 199 yX4_endChange, Cond.instanceMethod yX4_endChange, Cond.selects RX4 yX4_endChange yX4_endChange, Cond.code yX4_endChange cX4_endChange 1 none]
def wsX5_run_r9 : List Cond := [Cond.methodLink RX5 61 yX4_secondEntry, Cond.instanceMethod yX4_secondEntry, Cond.selects RX4 yX4_secondEntry yX4_secondEntry, Cond.code yX4_secondEntry cX4_secondEntry 3 (some .int), Cond.methodLink RX4 138 yX4_isEntry, Cond.instanceMethod yX4_isEntry, Cond.selects RX4 yX4_isEntry yX4_isEntry, Cond.code yX4_isEntry cX4_isEntry 2 (some .boolean), Cond.methodLink RX5 64 yX4_learnEntries, Cond.instanceMethod yX4_learnEntries, Cond.selects RX4 yX4_learnEntries yX4_learnEntries, Cond.code yX4_learnEntries cX4_learnEntries 3 (some .int), Cond.methodLink RX4 141 Lib.Math.max.name, Cond.static Lib.Math.max.name, Cond.initialized "java/lang/Math", Cond.code Lib.Math.max.name Lib.Math.max.code 2 (some .int), Cond.methodLink RX5 42 yX4_letAttend, Cond.instanceMethod yX4_letAttend, Cond.selects RX4 yX4_letAttend yX4_letAttend, Cond.code yX4_letAttend cX4_letAttend 3 (some .int), Cond.methodLink RX4 77 yX4_presentVillagers, Cond.instanceMethod yX4_presentVillagers, Cond.selects RX4 yX4_presentVillagers yX4_presentVillagers, Cond.code yX4_presentVillagers cX4_presentVillagers 3 (some .int)]
def wsX5_run_r10 : List Cond := [Cond.methodLink RX5 74 yX3_clear, Cond.instanceMethod yX3_clear, Cond.selects RX3 yX3_clear yX3_clear, Cond.code yX3_clear cX3_clear 2 (some .int), Cond.methodLink RX5 38 yX5_kept, Cond.instanceMethod yX5_kept, Cond.selects RX5 yX5_kept yX5_kept, Cond.code yX5_kept cX5_kept 2 (some .int), Cond.methodLink RX5 140 yX1_keep, Cond.instanceMethod yX1_keep, Cond.selects RX1 yX1_keep yX1_keep, Cond.code yX1_keep cX1_keep 1 none, Cond.fieldLink RX1 18 "VillageLog$History" "length" "I", Cond.methodLink RX1 29 Lib.Math.min.name, Cond.static Lib.Math.min.name, Cond.code Lib.Math.min.name Lib.Math.min.code 2 (some .int)]
def wsX5_run : List Cond := .code yX5_run cX5_run 3 (some .int) :: ((wsX5_run_r1 ++ (wsX5_run_r2 ++ (wsX5_run_r3 ++ (wsX5_run_r4 ++ (wsX5_run_r5 ++ (wsX5_run_r6 ++ (wsX5_run_r7 ++ (wsX5_run_r8 ++ (wsX5_run_r9 ++ wsX5_run_r10))))))))) ++ wsX50 ++ wsX10 ++ wsX40 ++ wsX00 ++ wsX20 ++ wsX30)
def wsX5_count_r1 : List Cond := [Cond.fieldLink RX5 19 "VillageLog" "history" "LVillageLog$History;", Cond.fieldLink RX5 26 "VillageLog" "text" "LVillageLog$Text;", Cond.fieldLink RX5 10 "VillageLog" "village" "LVillageLog$Village;", Cond.methodLink RX5 106 yX1_length, Cond.instanceMethod yX1_length, Cond.selects RX1 yX1_length yX1_length, Cond.initialized RX1, Cond.code yX1_length cX1_length 1 (some .int), Cond.fieldLink RX1 18 "VillageLog$History" "length" "I", Cond.methodLink RX5 109 yX3_length, Cond.instanceMethod yX3_length, Cond.selects RX3 yX3_length yX3_length, Cond.initialized RX3, Cond.code yX3_length cX3_length 1 (some .int), Cond.fieldLink RX3 15 "VillageLog$Text" "length" "I", Cond.methodLink RX5 110 yX4_tally, Cond.instanceMethod yX4_tally, Cond.selects RX4 yX4_tally yX4_tally, Cond.initialized RX4, Cond.code yX4_tally cX4_tally 2 (some .int), Cond.fieldLink RX4 48 "VillageLog$Village" "villagers" "I", Cond.fieldLink RX4 21 "VillageLog$Village" "oldCouncil" "LVillageLog$Council;", Cond.fieldLink RX4 61 "VillageLog$Village" "term" "I", Cond.fieldLink RX4 67 "VillageLog$Village" "entries" "I"]
def wsX5_count_r2 : List Cond := [Cond.fieldLink RX4 70 "VillageLog$Village" "agreed" "I", Cond.fieldLink RX4 35 "VillageLog$Village" "lot" "LVillageLog$Lot;", Cond.methodLink RX4 77 yX4_presentVillagers, Cond.instanceMethod yX4_presentVillagers, Cond.selects RX4 yX4_presentVillagers yX4_presentVillagers, Cond.code yX4_presentVillagers cX4_presentVillagers 3 (some .int), Cond.fieldLink RX4 9 "VillageLog$Village" "present" "[I", Cond.methodLink RX4 147 yX0_size, Cond.instanceMethod yX0_size, Cond.selects RX0 yX0_size yX0_size, Cond.initialized RX0, Cond.code yX0_size cX0_size 1 (some .int), Cond.fieldLink RX0 15 "VillageLog$Council" "size" "I", Cond.methodLink RX4 103 yX4_isChanging, Cond.instanceMethod yX4_isChanging, Cond.selects RX4 yX4_isChanging yX4_isChanging, Cond.code yX4_isChanging cX4_isChanging 1 (some .boolean), Cond.fieldLink RX4 28 "VillageLog$Village" "changeEntry" "I", Cond.methodLink RX4 97 yX2_state, Cond.instanceMethod yX2_state, Cond.selects RX2 yX2_state yX2_state, Cond.initialized RX2, Cond.code yX2_state cX2_state 1 (some .int), Cond.fieldLink RX2 9 "VillageLog$Lot" "state" "I"]
def wsX5_count_r3 : List Cond := [Cond.methodLink RX4 150 yX2_draws, Cond.instanceMethod yX2_draws, Cond.selects RX2 yX2_draws yX2_draws, Cond.code yX2_draws cX2_draws 1 (some .int), Cond.fieldLink RX2 32 "VillageLog$Lot" "draws" "I", Cond.methodLink RX4 153 yX2_forgedDraws, Cond.instanceMethod yX2_forgedDraws, Cond.selects RX2 yX2_forgedDraws yX2_forgedDraws, Cond.code yX2_forgedDraws cX2_forgedDraws 3 (some .int), Cond.methodLink RX2 45 yX2_isForged, Cond.instanceMethod yX2_isForged, Cond.selects RX2 yX2_isForged yX2_isForged, Cond.code yX2_isForged cX2_isForged 2 (some .boolean), Cond.fieldLink RX2 25 "VillageLog$Lot" "standing" "[I", Cond.fieldLink RX2 22 "VillageLog$Lot" "drawn" "[I"]
def wsX5_count : List Cond := .code yX5_count cX5_count 2 (some .int) :: ((wsX5_count_r1 ++ (wsX5_count_r2 ++ wsX5_count_r3)) ++ wsX50 ++ wsX10 ++ wsX30 ++ wsX40 ++ wsX00 ++ wsX20)
def wsX5_elder_r1 : List Cond := [Cond.fieldLink RX5 10 "VillageLog" "village" "LVillageLog$Village;", Cond.methodLink RX5 113 yX4_elderOf, Cond.instanceMethod yX4_elderOf, Cond.selects RX4 yX4_elderOf yX4_elderOf, Cond.initialized RX4, Cond.code yX4_elderOf cX4_elderOf 3 (some .int), Cond.fieldLink RX4 21 "VillageLog$Village" "oldCouncil" "LVillageLog$Council;", Cond.fieldLink RX4 25 "VillageLog$Village" "newCouncil" "LVillageLog$Council;", Cond.methodLink RX4 94 yX0_hasSeat, Cond.instanceMethod yX0_hasSeat, Cond.selects RX0 yX0_hasSeat yX0_hasSeat, Cond.initialized RX0, Cond.code yX0_hasSeat cX0_hasSeat 2 (some .boolean), Cond.fieldLink RX0 15 "VillageLog$Council" "size" "I", Cond.methodLink RX4 132 yX0_elderOn, Cond.instanceMethod yX0_elderOn, Cond.selects RX0 yX0_elderOn yX0_elderOn, Cond.code yX0_elderOn cX0_elderOn 2 (some .int), Cond.fieldLink RX0 9 "VillageLog$Council" "elders" "[I", Cond.methodLink RX0 31 yX0_hasSeat, Cond.methodLink RX4 103 yX4_isChanging, Cond.instanceMethod yX4_isChanging, Cond.selects RX4 yX4_isChanging yX4_isChanging, Cond.code yX4_isChanging cX4_isChanging 1 (some .boolean)]
def wsX5_elder_r2 : List Cond := [Cond.fieldLink RX4 28 "VillageLog$Village" "changeEntry" "I"]
def wsX5_elder : List Cond := .code yX5_elder cX5_elder 3 (some .int) :: ((wsX5_elder_r1 ++ wsX5_elder_r2) ++ wsX50 ++ wsX40 ++ wsX00)
def wsX5_villager_r1 : List Cond := [Cond.fieldLink RX5 10 "VillageLog" "village" "LVillageLog$Village;", Cond.methodLink RX5 116 yX4_aboutVillager, Cond.instanceMethod yX4_aboutVillager, Cond.selects RX4 yX4_aboutVillager yX4_aboutVillager, Cond.initialized RX4, Cond.code yX4_aboutVillager cX4_aboutVillager 3 (some .int), Cond.fieldLink RX4 9 "VillageLog$Village" "present" "[I", Cond.fieldLink RX4 15 "VillageLog$Village" "copied" "[I", Cond.fieldLink RX4 21 "VillageLog$Village" "oldCouncil" "LVillageLog$Council;", Cond.fieldLink RX4 25 "VillageLog$Village" "newCouncil" "LVillageLog$Council;", Cond.fieldLink RX4 35 "VillageLog$Village" "lot" "LVillageLog$Lot;", Cond.methodLink RX4 73 yX4_isVillager, Cond.instanceMethod yX4_isVillager, Cond.selects RX4 yX4_isVillager yX4_isVillager, Cond.code yX4_isVillager cX4_isVillager 2 (some .boolean), Cond.fieldLink RX4 48 "VillageLog$Village" "villagers" "I", Cond.methodLink RX4 156 yX0_seatOf, Cond.instanceMethod yX0_seatOf, Cond.selects RX0 yX0_seatOf yX0_seatOf, Cond.initialized RX0, Cond.code yX0_seatOf cX0_seatOf 3 (some .int), Cond.fieldLink RX0 15 "VillageLog$Council" "size" "I", Cond.fieldLink RX0 9 "VillageLog$Council" "elders" "[I", Cond.methodLink RX4 159 yX2_drawsOf]
def wsX5_villager_r2 : List Cond := [Cond.instanceMethod yX2_drawsOf, Cond.selects RX2 yX2_drawsOf yX2_drawsOf, Cond.initialized RX2, Cond.code yX2_drawsOf cX2_drawsOf 4 (some .int), Cond.fieldLink RX2 32 "VillageLog$Lot" "draws" "I", Cond.fieldLink RX2 25 "VillageLog$Lot" "standing" "[I"]
def wsX5_villager : List Cond := .code yX5_villager cX5_villager 3 (some .int) :: ((wsX5_villager_r1 ++ wsX5_villager_r2) ++ wsX50 ++ wsX40 ++ wsX00 ++ wsX20)
def wsX5_entry_r1 : List Cond := [Cond.fieldLink RX5 10 "VillageLog" "village" "LVillageLog$Village;", Cond.methodLink RX5 119 yX4_aboutEntry, Cond.instanceMethod yX4_aboutEntry, Cond.selects RX4 yX4_aboutEntry yX4_aboutEntry, Cond.initialized RX4, Cond.code yX4_aboutEntry cX4_aboutEntry 3 (some .int), Cond.fieldLink RX4 39 "VillageLog$Village" "numbers" "[I", Cond.fieldLink RX4 42 "VillageLog$Village" "terms" "[I", Cond.fieldLink RX4 70 "VillageLog$Village" "agreed" "I", Cond.fieldLink RX4 45 "VillageLog$Village" "proposers" "[I", Cond.fieldLink RX4 21 "VillageLog$Village" "oldCouncil" "LVillageLog$Council;", Cond.fieldLink RX4 25 "VillageLog$Village" "newCouncil" "LVillageLog$Council;", Cond.methodLink RX4 138 yX4_isEntry, Cond.instanceMethod yX4_isEntry, Cond.selects RX4 yX4_isEntry yX4_isEntry, Cond.code yX4_isEntry cX4_isEntry 2 (some .boolean), Cond.fieldLink RX4 67 "VillageLog$Village" "entries" "I", Cond.methodLink RX4 162 yX4_copies, Cond.instanceMethod yX4_copies, Cond.selects RX4 yX4_copies yX4_copies, Cond.code yX4_copies cX4_copies 4 (some .int), Cond.fieldLink RX4 48 "VillageLog$Village" "villagers" "I", Cond.methodLink RX4 195 yX4_holds, Cond.instanceMethod yX4_holds]
def wsX5_entry_r2 : List Cond := [Cond.selects RX4 yX4_holds yX4_holds, Cond.code yX4_holds cX4_holds 3 (some .boolean), Cond.fieldLink RX4 15 "VillageLog$Village" "copied" "[I", Cond.methodLink RX4 73 yX4_isVillager, Cond.instanceMethod yX4_isVillager, Cond.selects RX4 yX4_isVillager yX4_isVillager, Cond.code yX4_isVillager cX4_isVillager 2 (some .boolean), Cond.methodLink RX4 165 yX4_holders, Cond.instanceMethod yX4_holders, Cond.selects RX4 yX4_holders yX4_holders, Cond.code yX4_holders cX4_holders 7 (some .int), Cond.methodLink RX4 147 yX0_size, Cond.instanceMethod yX0_size, Cond.selects RX0 yX0_size yX0_size, Cond.initialized RX0, Cond.code yX0_size cX0_size 1 (some .int), Cond.fieldLink RX0 15 "VillageLog$Council" "size" "I", Cond.methodLink RX4 132 yX0_elderOn, Cond.instanceMethod yX0_elderOn, Cond.selects RX0 yX0_elderOn yX0_elderOn, Cond.code yX0_elderOn cX0_elderOn 2 (some .int), Cond.fieldLink RX0 9 "VillageLog$Council" "elders" "[I", Cond.methodLink RX0 31 yX0_hasSeat, Cond.instanceMethod yX0_hasSeat]
def wsX5_entry_r3 : List Cond := [Cond.selects RX0 yX0_hasSeat yX0_hasSeat, Cond.code yX0_hasSeat cX0_hasSeat 2 (some .boolean), Cond.methodLink RX4 192 yX4_isPresent, Cond.instanceMethod yX4_isPresent, Cond.selects RX4 yX4_isPresent yX4_isPresent, Cond.code yX4_isPresent cX4_isPresent 2 (some .boolean), Cond.fieldLink RX4 9 "VillageLog$Village" "present" "[I"]
def wsX5_entry : List Cond := .code yX5_entry cX5_entry 3 (some .int) :: ((wsX5_entry_r1 ++ (wsX5_entry_r2 ++ wsX5_entry_r3)) ++ wsX50 ++ wsX40 ++ wsX00)
def wsX5_draw : List Cond := .code yX5_draw cX5_draw 3 (some .int) :: ([.fieldLink RX5 10 "VillageLog" "village" "LVillageLog$Village;", .methodLink RX5 122 yX4_aboutDraw, .instanceMethod yX4_aboutDraw, .selects RX4 yX4_aboutDraw yX4_aboutDraw, .initialized RX4, .code yX4_aboutDraw cX4_aboutDraw 3 (some .int), .fieldLink RX4 35 "VillageLog$Village" "lot" "LVillageLog$Lot;", .methodLink RX4 169 yX2_about, .instanceMethod yX2_about, .selects RX2 yX2_about yX2_about, .initialized RX2, .code yX2_about cX2_about 3 (some .int), .fieldLink RX2 32 "VillageLog$Lot" "draws" "I", .fieldLink RX2 15 "VillageLog$Lot" "states" "[I", .fieldLink RX2 19 "VillageLog$Lot" "candidates" "[I", .fieldLink RX2 25 "VillageLog$Lot" "standing" "[I", .fieldLink RX2 28 "VillageLog$Lot" "seats" "[I", .methodLink RX2 45 yX2_isForged, .instanceMethod yX2_isForged, .selects RX2 yX2_isForged yX2_isForged, .code yX2_isForged cX2_isForged 2 (some .boolean), .fieldLink RX2 22 "VillageLog$Lot" "drawn" "[I"] ++ wsX50 ++ wsX40 ++ wsX20)
def wsX5_missing_r1 : List Cond := [Cond.fieldLink RX5 10 "VillageLog" "village" "LVillageLog$Village;", Cond.methodLink RX5 125 yX4_missingElders, Cond.instanceMethod yX4_missingElders, Cond.selects RX4 yX4_missingElders yX4_missingElders, Cond.initialized RX4, Cond.code yX4_missingElders cX4_missingElders 2 (some .int), Cond.fieldLink RX4 70 "VillageLog$Village" "agreed" "I", Cond.methodLink RX4 138 yX4_isEntry, Cond.instanceMethod yX4_isEntry, Cond.selects RX4 yX4_isEntry yX4_isEntry, Cond.code yX4_isEntry cX4_isEntry 2 (some .boolean), Cond.fieldLink RX4 67 "VillageLog$Village" "entries" "I", Cond.methodLink RX4 172 yX4_oldCounts, Cond.instanceMethod yX4_oldCounts, Cond.selects RX4 yX4_oldCounts yX4_oldCounts, Cond.code yX4_oldCounts cX4_oldCounts 2 (some .boolean), Cond.fieldLink RX4 28 "VillageLog$Village" "changeEntry" "I", Cond.methodLink RX4 103 yX4_isChanging, Cond.instanceMethod yX4_isChanging, Cond.selects RX4 yX4_isChanging yX4_isChanging, Cond.code yX4_isChanging cX4_isChanging 1 (some .boolean), Cond.methodLink RX4 175 yX4_fewestToSecond, Cond.instanceMethod yX4_fewestToSecond, Cond.selects RX4 yX4_fewestToSecond yX4_fewestToSecond]
def wsX5_missing_r2 : List Cond := [Cond.code yX4_fewestToSecond cX4_fewestToSecond 6 (some .int), Cond.fieldLink RX4 25 "VillageLog$Village" "newCouncil" "LVillageLog$Council;", Cond.fieldLink RX4 21 "VillageLog$Village" "oldCouncil" "LVillageLog$Council;", Cond.methodLink RX4 209 Lib.Math.min.name, Cond.static Lib.Math.min.name, Cond.initialized "java/lang/Math", Cond.code Lib.Math.min.name Lib.Math.min.code 2 (some .int), Cond.methodLink RX4 205 yX4_lacking, Cond.instanceMethod yX4_lacking, Cond.selects RX4 yX4_lacking yX4_lacking, Cond.code yX4_lacking cX4_lacking 3 (some .int), Cond.methodLink RX4 141 Lib.Math.max.name, Cond.static Lib.Math.max.name, Cond.code Lib.Math.max.name Lib.Math.max.code 2 (some .int), Cond.methodLink RX4 202 yX0_majority, Cond.instanceMethod yX0_majority, Cond.selects RX0 yX0_majority yX0_majority, Cond.initialized RX0, Cond.code yX0_majority cX0_majority 1 (some .int), Cond.fieldLink RX0 15 "VillageLog$Council" "size" "I", Cond.methodLink RX4 165 yX4_holders, Cond.instanceMethod yX4_holders, Cond.selects RX4 yX4_holders yX4_holders, Cond.code yX4_holders cX4_holders 7 (some .int)]
def wsX5_missing_r3 : List Cond := [Cond.methodLink RX4 147 yX0_size, Cond.instanceMethod yX0_size, Cond.selects RX0 yX0_size yX0_size, Cond.code yX0_size cX0_size 1 (some .int), Cond.methodLink RX4 132 yX0_elderOn, Cond.instanceMethod yX0_elderOn, Cond.selects RX0 yX0_elderOn yX0_elderOn, Cond.code yX0_elderOn cX0_elderOn 2 (some .int), Cond.fieldLink RX0 9 "VillageLog$Council" "elders" "[I", Cond.methodLink RX0 31 yX0_hasSeat, Cond.instanceMethod yX0_hasSeat, Cond.selects RX0 yX0_hasSeat yX0_hasSeat, Cond.code yX0_hasSeat cX0_hasSeat 2 (some .boolean), Cond.methodLink RX4 195 yX4_holds, Cond.instanceMethod yX4_holds, Cond.selects RX4 yX4_holds yX4_holds, Cond.code yX4_holds cX4_holds 3 (some .boolean), Cond.fieldLink RX4 15 "VillageLog$Village" "copied" "[I", Cond.methodLink RX4 73 yX4_isVillager, Cond.instanceMethod yX4_isVillager, Cond.selects RX4 yX4_isVillager yX4_isVillager, Cond.code yX4_isVillager cX4_isVillager 2 (some .boolean), Cond.fieldLink RX4 48 "VillageLog$Village" "villagers" "I", Cond.methodLink RX4 192 yX4_isPresent]
def wsX5_missing_r4 : List Cond := [Cond.instanceMethod yX4_isPresent, Cond.selects RX4 yX4_isPresent yX4_isPresent, Cond.code yX4_isPresent cX4_isPresent 2 (some .boolean), Cond.fieldLink RX4 9 "VillageLog$Village" "present" "[I", Cond.methodLink RX4 212 yX4_commonWithout, Cond.instanceMethod yX4_commonWithout, Cond.selects RX4 yX4_commonWithout yX4_commonWithout, Cond.code yX4_commonWithout cX4_commonWithout 5 (some .int), Cond.methodLink RX4 183 yX0_has, Cond.instanceMethod yX0_has, Cond.selects RX0 yX0_has yX0_has, Cond.code yX0_has cX0_has 2 (some .boolean), Cond.methodLink RX0 35 yX0_seatOf, Cond.instanceMethod yX0_seatOf, Cond.selects RX0 yX0_seatOf yX0_seatOf, Cond.code yX0_seatOf cX0_seatOf 3 (some .int)]
def wsX5_missing : List Cond := .code yX5_missing cX5_missing 2 (some .int) :: ((wsX5_missing_r1 ++ (wsX5_missing_r2 ++ (wsX5_missing_r3 ++ wsX5_missing_r4))) ++ wsX50 ++ wsX40 ++ wsX00)
def wsX5_reachable_r1 : List Cond := [Cond.fieldLink RX5 10 "VillageLog" "village" "LVillageLog$Village;", Cond.methodLink RX5 128 yX4_reachableEntries, Cond.instanceMethod yX4_reachableEntries, Cond.selects RX4 yX4_reachableEntries yX4_reachableEntries, Cond.initialized RX4, Cond.code yX4_reachableEntries cX4_reachableEntries 2 (some .int), Cond.fieldLink RX4 70 "VillageLog$Village" "agreed" "I", Cond.fieldLink RX4 67 "VillageLog$Village" "entries" "I", Cond.methodLink RX4 179 yX4_isSupported, Cond.instanceMethod yX4_isSupported, Cond.selects RX4 yX4_isSupported yX4_isSupported, Cond.code yX4_isSupported cX4_isSupported 3 (some .boolean), Cond.fieldLink RX4 25 "VillageLog$Village" "newCouncil" "LVillageLog$Council;", Cond.fieldLink RX4 21 "VillageLog$Village" "oldCouncil" "LVillageLog$Council;", Cond.methodLink RX4 165 yX4_holders, Cond.instanceMethod yX4_holders, Cond.selects RX4 yX4_holders yX4_holders, Cond.code yX4_holders cX4_holders 7 (some .int), Cond.methodLink RX4 147 yX0_size, Cond.instanceMethod yX0_size, Cond.selects RX0 yX0_size yX0_size, Cond.initialized RX0, Cond.code yX0_size cX0_size 1 (some .int), Cond.fieldLink RX0 15 "VillageLog$Council" "size" "I"]
def wsX5_reachable_r2 : List Cond := [Cond.methodLink RX4 132 yX0_elderOn, Cond.instanceMethod yX0_elderOn, Cond.selects RX0 yX0_elderOn yX0_elderOn, Cond.code yX0_elderOn cX0_elderOn 2 (some .int), Cond.fieldLink RX0 9 "VillageLog$Council" "elders" "[I", Cond.methodLink RX0 31 yX0_hasSeat, Cond.instanceMethod yX0_hasSeat, Cond.selects RX0 yX0_hasSeat yX0_hasSeat, Cond.code yX0_hasSeat cX0_hasSeat 2 (some .boolean), Cond.methodLink RX4 195 yX4_holds, Cond.instanceMethod yX4_holds, Cond.selects RX4 yX4_holds yX4_holds, Cond.code yX4_holds cX4_holds 3 (some .boolean), Cond.fieldLink RX4 15 "VillageLog$Village" "copied" "[I", Cond.methodLink RX4 73 yX4_isVillager, Cond.instanceMethod yX4_isVillager, Cond.selects RX4 yX4_isVillager yX4_isVillager, Cond.code yX4_isVillager cX4_isVillager 2 (some .boolean), Cond.fieldLink RX4 48 "VillageLog$Village" "villagers" "I", Cond.methodLink RX4 192 yX4_isPresent, Cond.instanceMethod yX4_isPresent, Cond.selects RX4 yX4_isPresent yX4_isPresent, Cond.code yX4_isPresent cX4_isPresent 2 (some .boolean), Cond.fieldLink RX4 9 "VillageLog$Village" "present" "[I"]
def wsX5_reachable_r3 : List Cond := [Cond.methodLink RX4 202 yX0_majority, Cond.instanceMethod yX0_majority, Cond.selects RX0 yX0_majority yX0_majority, Cond.code yX0_majority cX0_majority 1 (some .int), Cond.methodLink RX4 172 yX4_oldCounts, Cond.instanceMethod yX4_oldCounts, Cond.selects RX4 yX4_oldCounts yX4_oldCounts, Cond.code yX4_oldCounts cX4_oldCounts 2 (some .boolean), Cond.fieldLink RX4 28 "VillageLog$Village" "changeEntry" "I", Cond.methodLink RX4 103 yX4_isChanging, Cond.instanceMethod yX4_isChanging, Cond.selects RX4 yX4_isChanging yX4_isChanging, Cond.code yX4_isChanging cX4_isChanging 1 (some .boolean)]
def wsX5_reachable : List Cond := .code yX5_reachable cX5_reachable 1 (some .int) :: ((wsX5_reachable_r1 ++ (wsX5_reachable_r2 ++ wsX5_reachable_r3)) ++ wsX50 ++ wsX40 ++ wsX00)
def wsX5_nextDrawn_r1 : List Cond := [Cond.fieldLink RX5 10 "VillageLog" "village" "LVillageLog$Village;", Cond.methodLink RX5 131 yX4_drawnNext, Cond.instanceMethod yX4_drawnNext, Cond.selects RX4 yX4_drawnNext yX4_drawnNext, Cond.initialized RX4, Cond.code yX4_drawnNext cX4_drawnNext 2 (some .int), Cond.fieldLink RX4 21 "VillageLog$Village" "oldCouncil" "LVillageLog$Council;", Cond.fieldLink RX4 35 "VillageLog$Village" "lot" "LVillageLog$Lot;", Cond.methodLink RX4 94 yX0_hasSeat, Cond.instanceMethod yX0_hasSeat, Cond.selects RX0 yX0_hasSeat yX0_hasSeat, Cond.initialized RX0, Cond.code yX0_hasSeat cX0_hasSeat 2 (some .boolean), Cond.fieldLink RX0 15 "VillageLog$Council" "size" "I", Cond.methodLink RX4 103 yX4_isChanging, Cond.instanceMethod yX4_isChanging, Cond.selects RX4 yX4_isChanging yX4_isChanging, Cond.code yX4_isChanging cX4_isChanging 1 (some .boolean), Cond.fieldLink RX4 28 "VillageLog$Village" "changeEntry" "I", Cond.methodLink RX4 97 yX2_state, Cond.instanceMethod yX2_state, Cond.selects RX2 yX2_state yX2_state, Cond.initialized RX2, Cond.code yX2_state cX2_state 1 (some .int)]
def wsX5_nextDrawn_r2 : List Cond := [Cond.fieldLink RX2 9 "VillageLog$Lot" "state" "I", Cond.methodLink RX4 100 yX4_drawnWith, Cond.instanceMethod yX4_drawnWith, Cond.selects RX4 yX4_drawnWith yX4_drawnWith, Cond.code yX4_drawnWith cX4_drawnWith 5 (some .int), Cond.fieldLink RX4 48 "VillageLog$Village" "villagers" "I", Cond.methodLink RX4 109 yX4_candidates, Cond.instanceMethod yX4_candidates, Cond.selects RX4 yX4_candidates yX4_candidates, Cond.code yX4_candidates cX4_candidates 1 (some .int), Cond.methodLink RX4 186 yX4_candidatesBefore, Cond.instanceMethod yX4_candidatesBefore, Cond.selects RX4 yX4_candidatesBefore yX4_candidatesBefore, Cond.code yX4_candidatesBefore cX4_candidatesBefore 4 (some .int), Cond.methodLink RX4 183 yX0_has, Cond.instanceMethod yX0_has, Cond.selects RX0 yX0_has yX0_has, Cond.code yX0_has cX0_has 2 (some .boolean), Cond.methodLink RX0 35 yX0_seatOf, Cond.instanceMethod yX0_seatOf, Cond.selects RX0 yX0_seatOf yX0_seatOf, Cond.code yX0_seatOf cX0_seatOf 3 (some .int), Cond.fieldLink RX0 9 "VillageLog$Council" "elders" "[I", Cond.methodLink RX4 189 yX2_after]
def wsX5_nextDrawn_r3 : List Cond := [Cond.static yX2_after, Cond.code yX2_after cX2_after 1 (some .int), Cond.constant RX2 31 (65536)]
def wsX5_nextDrawn : List Cond := .code yX5_nextDrawn cX5_nextDrawn 2 (some .int) :: ((wsX5_nextDrawn_r1 ++ (wsX5_nextDrawn_r2 ++ wsX5_nextDrawn_r3)) ++ wsX50 ++ wsX40 ++ wsX00 ++ wsX20)
def wsX5_spare_r1 : List Cond := [Cond.fieldLink RX5 10 "VillageLog" "village" "LVillageLog$Village;", Cond.methodLink RX5 134 yX4_spareVillagers, Cond.instanceMethod yX4_spareVillagers, Cond.selects RX4 yX4_spareVillagers yX4_spareVillagers, Cond.initialized RX4, Cond.code yX4_spareVillagers cX4_spareVillagers 1 (some .int), Cond.fieldLink RX4 21 "VillageLog$Village" "oldCouncil" "LVillageLog$Council;", Cond.fieldLink RX4 48 "VillageLog$Village" "villagers" "I", Cond.fieldLink RX4 67 "VillageLog$Village" "entries" "I", Cond.methodLink RX4 81 yX0_isEmpty, Cond.instanceMethod yX0_isEmpty, Cond.selects RX0 yX0_isEmpty yX0_isEmpty, Cond.initialized RX0, Cond.code yX0_isEmpty cX0_isEmpty 1 (some .boolean), Cond.fieldLink RX0 15 "VillageLog$Council" "size" "I", Cond.methodLink RX4 103 yX4_isChanging, Cond.instanceMethod yX4_isChanging, Cond.selects RX4 yX4_isChanging yX4_isChanging, Cond.code yX4_isChanging cX4_isChanging 1 (some .boolean), Cond.fieldLink RX4 28 "VillageLog$Village" "changeEntry" "I", Cond.methodLink RX4 175 yX4_fewestToSecond, Cond.instanceMethod yX4_fewestToSecond, Cond.selects RX4 yX4_fewestToSecond yX4_fewestToSecond, Cond.code yX4_fewestToSecond cX4_fewestToSecond 6 (some .int)]
def wsX5_spare_r2 : List Cond := [Cond.fieldLink RX4 25 "VillageLog$Village" "newCouncil" "LVillageLog$Council;", Cond.methodLink RX4 209 Lib.Math.min.name, Cond.static Lib.Math.min.name, Cond.initialized "java/lang/Math", Cond.code Lib.Math.min.name Lib.Math.min.code 2 (some .int), Cond.methodLink RX4 205 yX4_lacking, Cond.instanceMethod yX4_lacking, Cond.selects RX4 yX4_lacking yX4_lacking, Cond.code yX4_lacking cX4_lacking 3 (some .int), Cond.methodLink RX4 141 Lib.Math.max.name, Cond.static Lib.Math.max.name, Cond.code Lib.Math.max.name Lib.Math.max.code 2 (some .int), Cond.methodLink RX4 202 yX0_majority, Cond.instanceMethod yX0_majority, Cond.selects RX0 yX0_majority yX0_majority, Cond.code yX0_majority cX0_majority 1 (some .int), Cond.methodLink RX4 165 yX4_holders, Cond.instanceMethod yX4_holders, Cond.selects RX4 yX4_holders yX4_holders, Cond.code yX4_holders cX4_holders 7 (some .int), Cond.methodLink RX4 147 yX0_size, Cond.instanceMethod yX0_size, Cond.selects RX0 yX0_size yX0_size, Cond.code yX0_size cX0_size 1 (some .int)]
def wsX5_spare_r3 : List Cond := [Cond.methodLink RX4 132 yX0_elderOn, Cond.instanceMethod yX0_elderOn, Cond.selects RX0 yX0_elderOn yX0_elderOn, Cond.code yX0_elderOn cX0_elderOn 2 (some .int), Cond.fieldLink RX0 9 "VillageLog$Council" "elders" "[I", Cond.methodLink RX0 31 yX0_hasSeat, Cond.instanceMethod yX0_hasSeat, Cond.selects RX0 yX0_hasSeat yX0_hasSeat, Cond.code yX0_hasSeat cX0_hasSeat 2 (some .boolean), Cond.methodLink RX4 195 yX4_holds, Cond.instanceMethod yX4_holds, Cond.selects RX4 yX4_holds yX4_holds, Cond.code yX4_holds cX4_holds 3 (some .boolean), Cond.fieldLink RX4 15 "VillageLog$Village" "copied" "[I", Cond.methodLink RX4 73 yX4_isVillager, Cond.instanceMethod yX4_isVillager, Cond.selects RX4 yX4_isVillager yX4_isVillager, Cond.code yX4_isVillager cX4_isVillager 2 (some .boolean), Cond.methodLink RX4 192 yX4_isPresent, Cond.instanceMethod yX4_isPresent, Cond.selects RX4 yX4_isPresent yX4_isPresent, Cond.code yX4_isPresent cX4_isPresent 2 (some .boolean), Cond.fieldLink RX4 9 "VillageLog$Village" "present" "[I", Cond.methodLink RX4 212 yX4_commonWithout]
def wsX5_spare_r4 : List Cond := [Cond.instanceMethod yX4_commonWithout, Cond.selects RX4 yX4_commonWithout yX4_commonWithout, Cond.code yX4_commonWithout cX4_commonWithout 5 (some .int), Cond.methodLink RX4 183 yX0_has, Cond.instanceMethod yX0_has, Cond.selects RX0 yX0_has yX0_has, Cond.code yX0_has cX0_has 2 (some .boolean), Cond.methodLink RX0 35 yX0_seatOf, Cond.instanceMethod yX0_seatOf, Cond.selects RX0 yX0_seatOf yX0_seatOf, Cond.code yX0_seatOf cX0_seatOf 3 (some .int)]
def wsX5_spare : List Cond := .code yX5_spare cX5_spare 1 (some .int) :: ((wsX5_spare_r1 ++ (wsX5_spare_r2 ++ (wsX5_spare_r3 ++ wsX5_spare_r4))) ++ wsX50 ++ wsX40 ++ wsX00)
def wsX5_lotFor_r1 : List Cond := [Cond.fieldLink RX5 10 "VillageLog" "village" "LVillageLog$Village;", Cond.methodLink RX5 137 yX4_lotToDraw, Cond.instanceMethod yX4_lotToDraw, Cond.selects RX4 yX4_lotToDraw yX4_lotToDraw, Cond.initialized RX4, Cond.code yX4_lotToDraw cX4_lotToDraw 6 (some .int), Cond.fieldLink RX4 21 "VillageLog$Village" "oldCouncil" "LVillageLog$Council;", Cond.constant RX4 89 (65536), Cond.methodLink RX4 73 yX4_isVillager, Cond.instanceMethod yX4_isVillager, Cond.selects RX4 yX4_isVillager yX4_isVillager, Cond.code yX4_isVillager cX4_isVillager 2 (some .boolean), Cond.fieldLink RX4 48 "VillageLog$Village" "villagers" "I", Cond.methodLink RX4 94 yX0_hasSeat, Cond.instanceMethod yX0_hasSeat, Cond.selects RX0 yX0_hasSeat yX0_hasSeat, Cond.initialized RX0, Cond.code yX0_hasSeat cX0_hasSeat 2 (some .boolean), Cond.fieldLink RX0 15 "VillageLog$Council" "size" "I", Cond.methodLink RX4 103 yX4_isChanging, Cond.instanceMethod yX4_isChanging, Cond.selects RX4 yX4_isChanging yX4_isChanging, Cond.code yX4_isChanging cX4_isChanging 1 (some .boolean), Cond.fieldLink RX4 28 "VillageLog$Village" "changeEntry" "I"]
def wsX5_lotFor_r2 : List Cond := [Cond.methodLink RX4 109 yX4_candidates, Cond.instanceMethod yX4_candidates, Cond.selects RX4 yX4_candidates yX4_candidates, Cond.code yX4_candidates cX4_candidates 1 (some .int), Cond.methodLink RX4 186 yX4_candidatesBefore, Cond.instanceMethod yX4_candidatesBefore, Cond.selects RX4 yX4_candidatesBefore yX4_candidatesBefore, Cond.code yX4_candidatesBefore cX4_candidatesBefore 4 (some .int), Cond.methodLink RX4 183 yX0_has, Cond.instanceMethod yX0_has, Cond.selects RX0 yX0_has yX0_has, Cond.code yX0_has cX0_has 2 (some .boolean), Cond.methodLink RX0 35 yX0_seatOf, Cond.instanceMethod yX0_seatOf, Cond.selects RX0 yX0_seatOf yX0_seatOf, Cond.code yX0_seatOf cX0_seatOf 3 (some .int), Cond.fieldLink RX0 9 "VillageLog$Council" "elders" "[I", Cond.methodLink RX4 189 yX2_after, Cond.static yX2_after, Cond.initialized RX2, Cond.code yX2_after cX2_after 1 (some .int), Cond.constant RX2 31 (65536)]
def wsX5_lotFor : List Cond := .code yX5_lotFor cX5_lotFor 3 (some .int) :: ((wsX5_lotFor_r1 ++ wsX5_lotFor_r2) ++ wsX50 ++ wsX40 ++ wsX00)
def wsX6_init : List Cond := .code yX6_init cX6_init 1 none :: ([.methodLink RX6 1 objectInit, .instanceMethod objectInit, .code objectInit ⟨#[0xb1]⟩ 1 none, .arrayClass .int, .fieldLink RX6 7 "VillageLogModel" "s" "[I", .fieldLink RX6 13 "VillageLogModel" "past" "[I", .fieldLink RX6 16 "VillageLogModel" "held" "[I", .fieldLink RX6 19 "VillageLogModel" "text" "[I"] ++ wsX60)
def wsX6_in : List Cond := .code yX6_in cX6_in 3 (some .boolean) :: ([])
def wsX6_acts : List Cond := .code yX6_acts cX6_acts 2 none :: ([.fieldLink RX6 22 "VillageLogModel" "runs" "Z", .fieldLink RX6 26 "VillageLogModel" "pasts" "I", .fieldLink RX6 13 "VillageLogModel" "past" "[I", .fieldLink RX6 7 "VillageLogModel" "s" "[I"] ++ wsX60)
def wsX6_isVillager : List Cond := .code yX6_isVillager cX6_isVillager 2 (some .boolean) :: ([.fieldLink RX6 7 "VillageLogModel" "s" "[I"] ++ wsX60)
def wsX6_isSeat : List Cond := .code yX6_isSeat cX6_isSeat 2 (some .boolean) :: ([.fieldLink RX6 7 "VillageLogModel" "s" "[I"] ++ wsX60)
def wsX6_isEntry : List Cond := .code yX6_isEntry cX6_isEntry 2 (some .boolean) :: ([.fieldLink RX6 7 "VillageLogModel" "s" "[I"] ++ wsX60)
def wsX6_goesOn : List Cond := .code yX6_goesOn cX6_goesOn 1 (some .boolean) :: ([.fieldLink RX6 7 "VillageLogModel" "s" "[I"] ++ wsX60)
def wsX6_isPresent : List Cond := .code yX6_isPresent cX6_isPresent 2 (some .boolean) :: ([.fieldLink RX6 7 "VillageLogModel" "s" "[I"] ++ wsX60)
def wsX6_seatOf : List Cond := .code yX6_seatOf cX6_seatOf 5 (some .int) :: ([.fieldLink RX6 7 "VillageLogModel" "s" "[I"] ++ wsX60)
def wsX6_newer : List Cond := .code yX6_newer cX6_newer 1 (some .int) :: ([.methodLink RX6 30 yX6_goesOn, .instanceMethod yX6_goesOn, .selects RX6 yX6_goesOn yX6_goesOn, .initialized RX6, .code yX6_goesOn cX6_goesOn 1 (some .boolean), .fieldLink RX6 7 "VillageLogModel" "s" "[I"] ++ wsX60)
def wsX6_isElder : List Cond := .code yX6_isElder cX6_isElder 2 (some .boolean) :: ([.methodLink RX6 34 yX6_seatOf, .instanceMethod yX6_seatOf, .selects RX6 yX6_seatOf yX6_seatOf, .initialized RX6, .code yX6_seatOf cX6_seatOf 5 (some .int), .fieldLink RX6 7 "VillageLogModel" "s" "[I", .methodLink RX6 38 yX6_newer, .instanceMethod yX6_newer, .selects RX6 yX6_newer yX6_newer, .code yX6_newer cX6_newer 1 (some .int), .methodLink RX6 30 yX6_goesOn, .instanceMethod yX6_goesOn, .selects RX6 yX6_goesOn yX6_goesOn, .code yX6_goesOn cX6_goesOn 1 (some .boolean)] ++ wsX60)
def wsX6_having : List Cond := .code yX6_having cX6_having 5 (some .int) :: ([.fieldLink RX6 7 "VillageLogModel" "s" "[I"] ++ wsX60)
def wsX6_isMajor : List Cond := .code yX6_isMajor cX6_isMajor 2 (some .boolean) :: ([.fieldLink RX6 7 "VillageLogModel" "s" "[I"] ++ wsX60)
def wsX6_ends : List Cond := .code yX6_ends cX6_ends 2 none :: ([.fieldLink RX6 7 "VillageLogModel" "s" "[I"] ++ wsX60)
def wsX6_agrees : List Cond := .code yX6_agrees cX6_agrees 2 (some .int) :: ([.fieldLink RX6 7 "VillageLogModel" "s" "[I", .methodLink RX6 42 yX6_having, .instanceMethod yX6_having, .selects RX6 yX6_having yX6_having, .initialized RX6, .code yX6_having cX6_having 5 (some .int), .methodLink RX6 45 yX6_isMajor, .instanceMethod yX6_isMajor, .selects RX6 yX6_isMajor yX6_isMajor, .code yX6_isMajor cX6_isMajor 2 (some .boolean), .methodLink RX6 38 yX6_newer, .instanceMethod yX6_newer, .selects RX6 yX6_newer yX6_newer, .code yX6_newer cX6_newer 1 (some .int), .methodLink RX6 30 yX6_goesOn, .instanceMethod yX6_goesOn, .selects RX6 yX6_goesOn yX6_goesOn, .code yX6_goesOn cX6_goesOn 1 (some .boolean), .methodLink RX6 49 yX6_ends, .instanceMethod yX6_ends, .selects RX6 yX6_ends yX6_ends, .code yX6_ends cX6_ends 2 none] ++ wsX60)
def wsX6_come : List Cond := .code yX6_come cX6_come 2 (some .int) :: ([.fieldLink RX6 7 "VillageLogModel" "s" "[I", .methodLink RX6 52 yX6_acts, .instanceMethod yX6_acts, .selects RX6 yX6_acts yX6_acts, .initialized RX6, .code yX6_acts cX6_acts 2 none, .fieldLink RX6 22 "VillageLogModel" "runs" "Z", .fieldLink RX6 26 "VillageLogModel" "pasts" "I", .fieldLink RX6 13 "VillageLogModel" "past" "[I"] ++ wsX60)
def wsX6_present : List Cond := .code yX6_present cX6_present 3 (some .int) :: ([.fieldLink RX6 7 "VillageLogModel" "s" "[I"] ++ wsX60)
def wsX6_attend : List Cond := .code yX6_attend cX6_attend 3 (some .int) :: ([.fieldLink RX6 7 "VillageLogModel" "s" "[I", .methodLink RX6 55 yX6_isVillager, .instanceMethod yX6_isVillager, .selects RX6 yX6_isVillager yX6_isVillager, .initialized RX6, .code yX6_isVillager cX6_isVillager 2 (some .boolean), .methodLink RX6 58 yX6_in, .static yX6_in, .code yX6_in cX6_in 3 (some .boolean), .methodLink RX6 52 yX6_acts, .instanceMethod yX6_acts, .selects RX6 yX6_acts yX6_acts, .code yX6_acts cX6_acts 2 none, .fieldLink RX6 22 "VillageLogModel" "runs" "Z", .fieldLink RX6 26 "VillageLogModel" "pasts" "I", .fieldLink RX6 13 "VillageLogModel" "past" "[I", .methodLink RX6 62 yX6_present, .instanceMethod yX6_present, .selects RX6 yX6_present yX6_present, .code yX6_present cX6_present 3 (some .int)] ++ wsX60)
def wsX6_found : List Cond := .code yX6_found cX6_found 3 (some .int) :: ([.fieldLink RX6 7 "VillageLogModel" "s" "[I", .methodLink RX6 58 yX6_in, .static yX6_in, .initialized RX6, .code yX6_in cX6_in 3 (some .boolean), .methodLink RX6 52 yX6_acts, .instanceMethod yX6_acts, .selects RX6 yX6_acts yX6_acts, .code yX6_acts cX6_acts 2 none, .fieldLink RX6 22 "VillageLogModel" "runs" "Z", .fieldLink RX6 26 "VillageLogModel" "pasts" "I", .fieldLink RX6 13 "VillageLogModel" "past" "[I"] ++ wsX60)
def wsX6_setLot : List Cond := .code yX6_setLot cX6_setLot 3 (some .int) :: ([.constant RX6 65 (65535), .fieldLink RX6 7 "VillageLogModel" "s" "[I", .methodLink RX6 58 yX6_in, .static yX6_in, .initialized RX6, .code yX6_in cX6_in 3 (some .boolean), .methodLink RX6 52 yX6_acts, .instanceMethod yX6_acts, .selects RX6 yX6_acts yX6_acts, .code yX6_acts cX6_acts 2 none, .fieldLink RX6 22 "VillageLogModel" "runs" "Z", .fieldLink RX6 26 "VillageLogModel" "pasts" "I", .fieldLink RX6 13 "VillageLogModel" "past" "[I"] ++ wsX60)
def wsX6_candidates : List Cond := .code yX6_candidates cX6_candidates 3 (some .int) :: ([.fieldLink RX6 7 "VillageLogModel" "s" "[I", .methodLink RX6 34 yX6_seatOf, .instanceMethod yX6_seatOf, .selects RX6 yX6_seatOf yX6_seatOf, .initialized RX6, .code yX6_seatOf cX6_seatOf 5 (some .int)] ++ wsX60)
def wsX6_drawn : List Cond := .code yX6_drawn cX6_drawn 1 (some .int) :: ([.constantLong RX6 66 (25173), .constantLong RX6 68 (13849), .constantLong RX6 70 (65536)])
def wsX6_candidate : List Cond := .code yX6_candidate cX6_candidate 6 (some .int) :: ([.fieldLink RX6 7 "VillageLogModel" "s" "[I", .methodLink RX6 34 yX6_seatOf, .instanceMethod yX6_seatOf, .selects RX6 yX6_seatOf yX6_seatOf, .initialized RX6, .code yX6_seatOf cX6_seatOf 5 (some .int)] ++ wsX60)
def wsX6_canWrite : List Cond := .code yX6_canWrite cX6_canWrite 2 (some .boolean) :: ([.fieldLink RX6 7 "VillageLogModel" "s" "[I", .methodLink RX6 72 yX6_isElder, .instanceMethod yX6_isElder, .selects RX6 yX6_isElder yX6_isElder, .initialized RX6, .code yX6_isElder cX6_isElder 2 (some .boolean), .methodLink RX6 34 yX6_seatOf, .instanceMethod yX6_seatOf, .selects RX6 yX6_seatOf yX6_seatOf, .code yX6_seatOf cX6_seatOf 5 (some .int), .methodLink RX6 38 yX6_newer, .instanceMethod yX6_newer, .selects RX6 yX6_newer yX6_newer, .code yX6_newer cX6_newer 1 (some .int), .methodLink RX6 30 yX6_goesOn, .instanceMethod yX6_goesOn, .selects RX6 yX6_goesOn yX6_goesOn, .code yX6_goesOn cX6_goesOn 1 (some .boolean), .methodLink RX6 75 yX6_isPresent, .instanceMethod yX6_isPresent, .selects RX6 yX6_isPresent yX6_isPresent, .code yX6_isPresent cX6_isPresent 2 (some .boolean)] ++ wsX60)
def wsX6_writes : List Cond := .code yX6_writes cX6_writes 4 (some .int) :: ([.fieldLink RX6 7 "VillageLogModel" "s" "[I"] ++ wsX60)
def wsX6_change_r1 : List Cond := [Cond.fieldLink RX6 7 "VillageLogModel" "s" "[I", Cond.methodLink RX6 55 yX6_isVillager, Cond.instanceMethod yX6_isVillager, Cond.selects RX6 yX6_isVillager yX6_isVillager, Cond.initialized RX6, Cond.code yX6_isVillager cX6_isVillager 2 (some .boolean), Cond.methodLink RX6 78 yX6_isSeat, Cond.instanceMethod yX6_isSeat, Cond.selects RX6 yX6_isSeat yX6_isSeat, Cond.code yX6_isSeat cX6_isSeat 2 (some .boolean), Cond.methodLink RX6 81 yX6_candidates, Cond.instanceMethod yX6_candidates, Cond.selects RX6 yX6_candidates yX6_candidates, Cond.code yX6_candidates cX6_candidates 3 (some .int), Cond.methodLink RX6 34 yX6_seatOf, Cond.instanceMethod yX6_seatOf, Cond.selects RX6 yX6_seatOf yX6_seatOf, Cond.code yX6_seatOf cX6_seatOf 5 (some .int), Cond.methodLink RX6 30 yX6_goesOn, Cond.instanceMethod yX6_goesOn, Cond.selects RX6 yX6_goesOn yX6_goesOn, Cond.code yX6_goesOn cX6_goesOn 1 (some .boolean), Cond.methodLink RX6 84 yX6_canWrite, Cond.instanceMethod yX6_canWrite]
def wsX6_change_r2 : List Cond := [Cond.selects RX6 yX6_canWrite yX6_canWrite, Cond.code yX6_canWrite cX6_canWrite 2 (some .boolean), Cond.methodLink RX6 72 yX6_isElder, Cond.instanceMethod yX6_isElder, Cond.selects RX6 yX6_isElder yX6_isElder, Cond.code yX6_isElder cX6_isElder 2 (some .boolean), Cond.methodLink RX6 38 yX6_newer, Cond.instanceMethod yX6_newer, Cond.selects RX6 yX6_newer yX6_newer, Cond.code yX6_newer cX6_newer 1 (some .int), Cond.methodLink RX6 75 yX6_isPresent, Cond.instanceMethod yX6_isPresent, Cond.selects RX6 yX6_isPresent yX6_isPresent, Cond.code yX6_isPresent cX6_isPresent 2 (some .boolean), Cond.methodLink RX6 52 yX6_acts, Cond.instanceMethod yX6_acts, Cond.selects RX6 yX6_acts yX6_acts, Cond.code yX6_acts cX6_acts 2 none, Cond.fieldLink RX6 22 "VillageLogModel" "runs" "Z", Cond.fieldLink RX6 26 "VillageLogModel" "pasts" "I", Cond.fieldLink RX6 13 "VillageLogModel" "past" "[I", Cond.methodLink RX6 87 yX6_drawn, Cond.static yX6_drawn, Cond.code yX6_drawn cX6_drawn 1 (some .int)]
def wsX6_change_r3 : List Cond := [Cond.constantLong RX6 66 (25173), Cond.constantLong RX6 68 (13849), Cond.constantLong RX6 70 (65536), Cond.methodLink RX6 91 yX6_candidate, Cond.instanceMethod yX6_candidate, Cond.selects RX6 yX6_candidate yX6_candidate, Cond.code yX6_candidate cX6_candidate 6 (some .int), Cond.methodLink RX6 94 yX6_writes, Cond.instanceMethod yX6_writes, Cond.selects RX6 yX6_writes yX6_writes, Cond.code yX6_writes cX6_writes 4 (some .int), Cond.methodLink RX6 97 yX6_agrees, Cond.instanceMethod yX6_agrees, Cond.selects RX6 yX6_agrees yX6_agrees, Cond.code yX6_agrees cX6_agrees 2 (some .int), Cond.methodLink RX6 42 yX6_having, Cond.instanceMethod yX6_having, Cond.selects RX6 yX6_having yX6_having, Cond.code yX6_having cX6_having 5 (some .int), Cond.methodLink RX6 45 yX6_isMajor, Cond.instanceMethod yX6_isMajor, Cond.selects RX6 yX6_isMajor yX6_isMajor, Cond.code yX6_isMajor cX6_isMajor 2 (some .boolean), Cond.methodLink RX6 49 yX6_ends]
def wsX6_change_r4 : List Cond := [Cond.instanceMethod yX6_ends, Cond.selects RX6 yX6_ends yX6_ends, Cond.code yX6_ends cX6_ends 2 none]
def wsX6_change : List Cond := .code yX6_change cX6_change 7 (some .int) :: ((wsX6_change_r1 ++ (wsX6_change_r2 ++ (wsX6_change_r3 ++ wsX6_change_r4))) ++ wsX60)
def wsX6_forge_r1 : List Cond := [Cond.fieldLink RX6 7 "VillageLogModel" "s" "[I", Cond.methodLink RX6 55 yX6_isVillager, Cond.instanceMethod yX6_isVillager, Cond.selects RX6 yX6_isVillager yX6_isVillager, Cond.initialized RX6, Cond.code yX6_isVillager cX6_isVillager 2 (some .boolean), Cond.methodLink RX6 30 yX6_goesOn, Cond.instanceMethod yX6_goesOn, Cond.selects RX6 yX6_goesOn yX6_goesOn, Cond.code yX6_goesOn cX6_goesOn 1 (some .boolean), Cond.methodLink RX6 72 yX6_isElder, Cond.instanceMethod yX6_isElder, Cond.selects RX6 yX6_isElder yX6_isElder, Cond.code yX6_isElder cX6_isElder 2 (some .boolean), Cond.methodLink RX6 34 yX6_seatOf, Cond.instanceMethod yX6_seatOf, Cond.selects RX6 yX6_seatOf yX6_seatOf, Cond.code yX6_seatOf cX6_seatOf 5 (some .int), Cond.methodLink RX6 38 yX6_newer, Cond.instanceMethod yX6_newer, Cond.selects RX6 yX6_newer yX6_newer, Cond.code yX6_newer cX6_newer 1 (some .int), Cond.methodLink RX6 52 yX6_acts, Cond.instanceMethod yX6_acts]
def wsX6_forge_r2 : List Cond := [Cond.selects RX6 yX6_acts yX6_acts, Cond.code yX6_acts cX6_acts 2 none, Cond.fieldLink RX6 22 "VillageLogModel" "runs" "Z", Cond.fieldLink RX6 26 "VillageLogModel" "pasts" "I", Cond.fieldLink RX6 13 "VillageLogModel" "past" "[I", Cond.methodLink RX6 97 yX6_agrees, Cond.instanceMethod yX6_agrees, Cond.selects RX6 yX6_agrees yX6_agrees, Cond.code yX6_agrees cX6_agrees 2 (some .int), Cond.methodLink RX6 42 yX6_having, Cond.instanceMethod yX6_having, Cond.selects RX6 yX6_having yX6_having, Cond.code yX6_having cX6_having 5 (some .int), Cond.methodLink RX6 45 yX6_isMajor, Cond.instanceMethod yX6_isMajor, Cond.selects RX6 yX6_isMajor yX6_isMajor, Cond.code yX6_isMajor cX6_isMajor 2 (some .boolean), Cond.methodLink RX6 49 yX6_ends, Cond.instanceMethod yX6_ends, Cond.selects RX6 yX6_ends yX6_ends, Cond.code yX6_ends cX6_ends 2 none]
def wsX6_forge : List Cond := .code yX6_forge cX6_forge 4 (some .int) :: ((wsX6_forge_r1 ++ wsX6_forge_r2) ++ wsX60)
def wsX6_propose_r1 : List Cond := [Cond.fieldLink RX6 7 "VillageLogModel" "s" "[I", Cond.methodLink RX6 55 yX6_isVillager, Cond.instanceMethod yX6_isVillager, Cond.selects RX6 yX6_isVillager yX6_isVillager, Cond.initialized RX6, Cond.code yX6_isVillager cX6_isVillager 2 (some .boolean), Cond.methodLink RX6 58 yX6_in, Cond.static yX6_in, Cond.code yX6_in cX6_in 3 (some .boolean), Cond.methodLink RX6 84 yX6_canWrite, Cond.instanceMethod yX6_canWrite, Cond.selects RX6 yX6_canWrite yX6_canWrite, Cond.code yX6_canWrite cX6_canWrite 2 (some .boolean), Cond.methodLink RX6 72 yX6_isElder, Cond.instanceMethod yX6_isElder, Cond.selects RX6 yX6_isElder yX6_isElder, Cond.code yX6_isElder cX6_isElder 2 (some .boolean), Cond.methodLink RX6 34 yX6_seatOf, Cond.instanceMethod yX6_seatOf, Cond.selects RX6 yX6_seatOf yX6_seatOf, Cond.code yX6_seatOf cX6_seatOf 5 (some .int), Cond.methodLink RX6 38 yX6_newer, Cond.instanceMethod yX6_newer, Cond.selects RX6 yX6_newer yX6_newer]
def wsX6_propose_r2 : List Cond := [Cond.code yX6_newer cX6_newer 1 (some .int), Cond.methodLink RX6 30 yX6_goesOn, Cond.instanceMethod yX6_goesOn, Cond.selects RX6 yX6_goesOn yX6_goesOn, Cond.code yX6_goesOn cX6_goesOn 1 (some .boolean), Cond.methodLink RX6 75 yX6_isPresent, Cond.instanceMethod yX6_isPresent, Cond.selects RX6 yX6_isPresent yX6_isPresent, Cond.code yX6_isPresent cX6_isPresent 2 (some .boolean), Cond.methodLink RX6 52 yX6_acts, Cond.instanceMethod yX6_acts, Cond.selects RX6 yX6_acts yX6_acts, Cond.code yX6_acts cX6_acts 2 none, Cond.fieldLink RX6 22 "VillageLogModel" "runs" "Z", Cond.fieldLink RX6 26 "VillageLogModel" "pasts" "I", Cond.fieldLink RX6 13 "VillageLogModel" "past" "[I", Cond.methodLink RX6 94 yX6_writes, Cond.instanceMethod yX6_writes, Cond.selects RX6 yX6_writes yX6_writes, Cond.code yX6_writes cX6_writes 4 (some .int), Cond.methodLink RX6 97 yX6_agrees, Cond.instanceMethod yX6_agrees, Cond.selects RX6 yX6_agrees yX6_agrees, Cond.code yX6_agrees cX6_agrees 2 (some .int)]
def wsX6_propose_r3 : List Cond := [Cond.methodLink RX6 42 yX6_having, Cond.instanceMethod yX6_having, Cond.selects RX6 yX6_having yX6_having, Cond.code yX6_having cX6_having 5 (some .int), Cond.methodLink RX6 45 yX6_isMajor, Cond.instanceMethod yX6_isMajor, Cond.selects RX6 yX6_isMajor yX6_isMajor, Cond.code yX6_isMajor cX6_isMajor 2 (some .boolean), Cond.methodLink RX6 49 yX6_ends, Cond.instanceMethod yX6_ends, Cond.selects RX6 yX6_ends yX6_ends, Cond.code yX6_ends cX6_ends 2 none]
def wsX6_propose : List Cond := .code yX6_propose cX6_propose 4 (some .int) :: ((wsX6_propose_r1 ++ (wsX6_propose_r2 ++ wsX6_propose_r3)) ++ wsX60)
def wsX6_second_r1 : List Cond := [Cond.fieldLink RX6 7 "VillageLogModel" "s" "[I", Cond.methodLink RX6 55 yX6_isVillager, Cond.instanceMethod yX6_isVillager, Cond.selects RX6 yX6_isVillager yX6_isVillager, Cond.initialized RX6, Cond.code yX6_isVillager cX6_isVillager 2 (some .boolean), Cond.methodLink RX6 100 yX6_isEntry, Cond.instanceMethod yX6_isEntry, Cond.selects RX6 yX6_isEntry yX6_isEntry, Cond.code yX6_isEntry cX6_isEntry 2 (some .boolean), Cond.methodLink RX6 72 yX6_isElder, Cond.instanceMethod yX6_isElder, Cond.selects RX6 yX6_isElder yX6_isElder, Cond.code yX6_isElder cX6_isElder 2 (some .boolean), Cond.methodLink RX6 34 yX6_seatOf, Cond.instanceMethod yX6_seatOf, Cond.selects RX6 yX6_seatOf yX6_seatOf, Cond.code yX6_seatOf cX6_seatOf 5 (some .int), Cond.methodLink RX6 38 yX6_newer, Cond.instanceMethod yX6_newer, Cond.selects RX6 yX6_newer yX6_newer, Cond.code yX6_newer cX6_newer 1 (some .int), Cond.methodLink RX6 30 yX6_goesOn, Cond.instanceMethod yX6_goesOn]
def wsX6_second_r2 : List Cond := [Cond.selects RX6 yX6_goesOn yX6_goesOn, Cond.code yX6_goesOn cX6_goesOn 1 (some .boolean), Cond.methodLink RX6 75 yX6_isPresent, Cond.instanceMethod yX6_isPresent, Cond.selects RX6 yX6_isPresent yX6_isPresent, Cond.code yX6_isPresent cX6_isPresent 2 (some .boolean), Cond.methodLink RX6 52 yX6_acts, Cond.instanceMethod yX6_acts, Cond.selects RX6 yX6_acts yX6_acts, Cond.code yX6_acts cX6_acts 2 none, Cond.fieldLink RX6 22 "VillageLogModel" "runs" "Z", Cond.fieldLink RX6 26 "VillageLogModel" "pasts" "I", Cond.fieldLink RX6 13 "VillageLogModel" "past" "[I", Cond.methodLink RX6 97 yX6_agrees, Cond.instanceMethod yX6_agrees, Cond.selects RX6 yX6_agrees yX6_agrees, Cond.code yX6_agrees cX6_agrees 2 (some .int), Cond.methodLink RX6 42 yX6_having, Cond.instanceMethod yX6_having, Cond.selects RX6 yX6_having yX6_having, Cond.code yX6_having cX6_having 5 (some .int), Cond.methodLink RX6 45 yX6_isMajor, Cond.instanceMethod yX6_isMajor, Cond.selects RX6 yX6_isMajor yX6_isMajor]
def wsX6_second_r3 : List Cond := [Cond.code yX6_isMajor cX6_isMajor 2 (some .boolean), Cond.methodLink RX6 49 yX6_ends, Cond.instanceMethod yX6_ends, Cond.selects RX6 yX6_ends yX6_ends, Cond.code yX6_ends cX6_ends 2 none]
def wsX6_second : List Cond := .code yX6_second cX6_second 3 (some .int) :: ((wsX6_second_r1 ++ (wsX6_second_r2 ++ wsX6_second_r3)) ++ wsX60)
def wsX6_learn : List Cond := .code yX6_learn cX6_learn 3 (some .int) :: ([.fieldLink RX6 7 "VillageLogModel" "s" "[I", .methodLink RX6 55 yX6_isVillager, .instanceMethod yX6_isVillager, .selects RX6 yX6_isVillager yX6_isVillager, .initialized RX6, .code yX6_isVillager cX6_isVillager 2 (some .boolean), .methodLink RX6 75 yX6_isPresent, .instanceMethod yX6_isPresent, .selects RX6 yX6_isPresent yX6_isPresent, .code yX6_isPresent cX6_isPresent 2 (some .boolean), .methodLink RX6 52 yX6_acts, .instanceMethod yX6_acts, .selects RX6 yX6_acts yX6_acts, .code yX6_acts cX6_acts 2 none, .fieldLink RX6 22 "VillageLogModel" "runs" "Z", .fieldLink RX6 26 "VillageLogModel" "pasts" "I", .fieldLink RX6 13 "VillageLogModel" "past" "[I"] ++ wsX60)
def wsX6_undo : List Cond := .code yX6_undo cX6_undo 2 (some .int) :: ([.fieldLink RX6 26 "VillageLogModel" "pasts" "I", .fieldLink RX6 7 "VillageLogModel" "s" "[I", .fieldLink RX6 13 "VillageLogModel" "past" "[I"] ++ wsX60)
def wsX6_append : List Cond := .code yX6_append cX6_append 2 (some .int) :: ([.fieldLink RX6 103 "VillageLogModel" "typed" "I", .fieldLink RX6 19 "VillageLogModel" "text" "[I", .methodLink RX6 58 yX6_in, .static yX6_in, .initialized RX6, .code yX6_in cX6_in 3 (some .boolean)] ++ wsX60)
def wsX6_clearText : List Cond := .code yX6_clearText cX6_clearText 2 (some .int) :: ([.fieldLink RX6 103 "VillageLogModel" "typed" "I"] ++ wsX60)
def wsX6_isAt : List Cond := .code yX6_isAt cX6_isAt 3 (some .boolean) :: ([.fieldLink RX6 106 "VillageLogModel" "at" "I", .fieldLink RX6 103 "VillageLogModel" "typed" "I", .fieldLink RX6 19 "VillageLogModel" "text" "[I", .methodLink RX6 58 yX6_in, .static yX6_in, .initialized RX6, .code yX6_in cX6_in 3 (some .boolean)] ++ wsX60)
def wsX6_number : List Cond := .code yX6_number cX6_number 3 (some .boolean) :: ([.fieldLink RX6 106 "VillageLogModel" "at" "I", .fieldLink RX6 109 "VillageLogModel" "read" "I", .fieldLink RX6 19 "VillageLogModel" "text" "[I", .methodLink RX6 112 yX6_isAt, .instanceMethod yX6_isAt, .selects RX6 yX6_isAt yX6_isAt, .initialized RX6, .code yX6_isAt cX6_isAt 3 (some .boolean), .fieldLink RX6 103 "VillageLogModel" "typed" "I", .methodLink RX6 58 yX6_in, .static yX6_in, .code yX6_in cX6_in 3 (some .boolean)] ++ wsX60)
def wsX6_doesOne_r1 : List Cond := [Cond.fieldLink RX6 106 "VillageLogModel" "at" "I", Cond.fieldLink RX6 19 "VillageLogModel" "text" "[I", Cond.fieldLink RX6 109 "VillageLogModel" "read" "I", Cond.methodLink RX6 116 yX6_number, Cond.instanceMethod yX6_number, Cond.selects RX6 yX6_number yX6_number, Cond.initialized RX6, Cond.code yX6_number cX6_number 3 (some .boolean), Cond.methodLink RX6 112 yX6_isAt, Cond.instanceMethod yX6_isAt, Cond.selects RX6 yX6_isAt yX6_isAt, Cond.code yX6_isAt cX6_isAt 3 (some .boolean), Cond.fieldLink RX6 103 "VillageLogModel" "typed" "I", Cond.methodLink RX6 58 yX6_in, Cond.static yX6_in, Cond.code yX6_in cX6_in 3 (some .boolean), Cond.methodLink RX6 119 yX6_propose, Cond.instanceMethod yX6_propose, Cond.selects RX6 yX6_propose yX6_propose, Cond.code yX6_propose cX6_propose 4 (some .int), Cond.fieldLink RX6 7 "VillageLogModel" "s" "[I", Cond.methodLink RX6 55 yX6_isVillager, Cond.instanceMethod yX6_isVillager, Cond.selects RX6 yX6_isVillager yX6_isVillager]
def wsX6_doesOne_r2 : List Cond := [Cond.code yX6_isVillager cX6_isVillager 2 (some .boolean), Cond.methodLink RX6 84 yX6_canWrite, Cond.instanceMethod yX6_canWrite, Cond.selects RX6 yX6_canWrite yX6_canWrite, Cond.code yX6_canWrite cX6_canWrite 2 (some .boolean), Cond.methodLink RX6 72 yX6_isElder, Cond.instanceMethod yX6_isElder, Cond.selects RX6 yX6_isElder yX6_isElder, Cond.code yX6_isElder cX6_isElder 2 (some .boolean), Cond.methodLink RX6 34 yX6_seatOf, Cond.instanceMethod yX6_seatOf, Cond.selects RX6 yX6_seatOf yX6_seatOf, Cond.code yX6_seatOf cX6_seatOf 5 (some .int), Cond.methodLink RX6 38 yX6_newer, Cond.instanceMethod yX6_newer, Cond.selects RX6 yX6_newer yX6_newer, Cond.code yX6_newer cX6_newer 1 (some .int), Cond.methodLink RX6 30 yX6_goesOn, Cond.instanceMethod yX6_goesOn, Cond.selects RX6 yX6_goesOn yX6_goesOn, Cond.code yX6_goesOn cX6_goesOn 1 (some .boolean), Cond.methodLink RX6 75 yX6_isPresent, Cond.instanceMethod yX6_isPresent, Cond.selects RX6 yX6_isPresent yX6_isPresent]
def wsX6_doesOne_r3 : List Cond := [Cond.code yX6_isPresent cX6_isPresent 2 (some .boolean), Cond.methodLink RX6 52 yX6_acts, Cond.instanceMethod yX6_acts, Cond.selects RX6 yX6_acts yX6_acts, Cond.code yX6_acts cX6_acts 2 none, Cond.fieldLink RX6 22 "VillageLogModel" "runs" "Z", Cond.fieldLink RX6 26 "VillageLogModel" "pasts" "I", Cond.fieldLink RX6 13 "VillageLogModel" "past" "[I", Cond.methodLink RX6 94 yX6_writes, Cond.instanceMethod yX6_writes, Cond.selects RX6 yX6_writes yX6_writes, Cond.code yX6_writes cX6_writes 4 (some .int), Cond.methodLink RX6 97 yX6_agrees, Cond.instanceMethod yX6_agrees, Cond.selects RX6 yX6_agrees yX6_agrees, Cond.code yX6_agrees cX6_agrees 2 (some .int), Cond.methodLink RX6 42 yX6_having, Cond.instanceMethod yX6_having, Cond.selects RX6 yX6_having yX6_having, Cond.code yX6_having cX6_having 5 (some .int), Cond.methodLink RX6 45 yX6_isMajor, Cond.instanceMethod yX6_isMajor, Cond.selects RX6 yX6_isMajor yX6_isMajor, Cond.code yX6_isMajor cX6_isMajor 2 (some .boolean)]
def wsX6_doesOne_r4 : List Cond := [Cond.methodLink RX6 49 yX6_ends, Cond.instanceMethod yX6_ends, Cond.selects RX6 yX6_ends yX6_ends, Cond.code yX6_ends cX6_ends 2 none, Cond.methodLink RX6 122 yX6_second, Cond.instanceMethod yX6_second, Cond.selects RX6 yX6_second yX6_second, Cond.code yX6_second cX6_second 3 (some .int), Cond.methodLink RX6 100 yX6_isEntry, Cond.instanceMethod yX6_isEntry, Cond.selects RX6 yX6_isEntry yX6_isEntry, Cond.code yX6_isEntry cX6_isEntry 2 (some .boolean), Cond.methodLink RX6 125 yX6_learn, Cond.instanceMethod yX6_learn, Cond.selects RX6 yX6_learn yX6_learn, Cond.code yX6_learn cX6_learn 3 (some .int), Cond.methodLink RX6 128 yX6_attend, Cond.instanceMethod yX6_attend, Cond.selects RX6 yX6_attend yX6_attend, Cond.code yX6_attend cX6_attend 3 (some .int), Cond.methodLink RX6 62 yX6_present, Cond.instanceMethod yX6_present, Cond.selects RX6 yX6_present yX6_present, Cond.code yX6_present cX6_present 3 (some .int)]
def wsX6_doesOne : List Cond := .code yX6_doesOne cX6_doesOne 6 (some .int) :: ((wsX6_doesOne_r1 ++ (wsX6_doesOne_r2 ++ (wsX6_doesOne_r3 ++ wsX6_doesOne_r4))) ++ wsX60)
def wsX6_exchanges : List Cond := .code yX6_exchanges cX6_exchanges 3 none :: ([.fieldLink RX6 7 "VillageLogModel" "s" "[I", .fieldLink RX6 16 "VillageLogModel" "held" "[I"] ++ wsX60)
def wsX6_holds : List Cond := .code yX6_holds cX6_holds 2 none :: ([.fieldLink RX6 16 "VillageLogModel" "held" "[I", .fieldLink RX6 7 "VillageLogModel" "s" "[I"] ++ wsX60)
def wsX6_run_r1 : List Cond := [Cond.fieldLink RX6 22 "VillageLogModel" "runs" "Z", Cond.fieldLink RX6 106 "VillageLogModel" "at" "I", Cond.fieldLink RX6 103 "VillageLogModel" "typed" "I", Cond.methodLink RX6 131 yX6_holds, Cond.instanceMethod yX6_holds, Cond.selects RX6 yX6_holds yX6_holds, Cond.initialized RX6, Cond.code yX6_holds cX6_holds 2 none, Cond.fieldLink RX6 16 "VillageLogModel" "held" "[I", Cond.fieldLink RX6 7 "VillageLogModel" "s" "[I", Cond.methodLink RX6 134 yX6_doesOne, Cond.instanceMethod yX6_doesOne, Cond.selects RX6 yX6_doesOne yX6_doesOne, Cond.code yX6_doesOne cX6_doesOne 6 (some .int), Cond.fieldLink RX6 19 "VillageLogModel" "text" "[I", Cond.fieldLink RX6 109 "VillageLogModel" "read" "I", Cond.methodLink RX6 116 yX6_number, Cond.instanceMethod yX6_number, Cond.selects RX6 yX6_number yX6_number, Cond.code yX6_number cX6_number 3 (some .boolean), Cond.methodLink RX6 112 yX6_isAt, Cond.instanceMethod yX6_isAt, Cond.selects RX6 yX6_isAt yX6_isAt, Cond.code yX6_isAt cX6_isAt 3 (some .boolean)]
def wsX6_run_r2 : List Cond := [Cond.methodLink RX6 58 yX6_in, Cond.static yX6_in, Cond.code yX6_in cX6_in 3 (some .boolean), Cond.methodLink RX6 119 yX6_propose, Cond.instanceMethod yX6_propose, Cond.selects RX6 yX6_propose yX6_propose, Cond.code yX6_propose cX6_propose 4 (some .int), Cond.methodLink RX6 55 yX6_isVillager, Cond.instanceMethod yX6_isVillager, Cond.selects RX6 yX6_isVillager yX6_isVillager, Cond.code yX6_isVillager cX6_isVillager 2 (some .boolean), Cond.methodLink RX6 84 yX6_canWrite, Cond.instanceMethod yX6_canWrite, Cond.selects RX6 yX6_canWrite yX6_canWrite, Cond.code yX6_canWrite cX6_canWrite 2 (some .boolean), Cond.methodLink RX6 72 yX6_isElder, Cond.instanceMethod yX6_isElder, Cond.selects RX6 yX6_isElder yX6_isElder, Cond.code yX6_isElder cX6_isElder 2 (some .boolean), Cond.methodLink RX6 34 yX6_seatOf, Cond.instanceMethod yX6_seatOf, Cond.selects RX6 yX6_seatOf yX6_seatOf, Cond.code yX6_seatOf cX6_seatOf 5 (some .int), Cond.methodLink RX6 38 yX6_newer]
def wsX6_run_r3 : List Cond := [Cond.instanceMethod yX6_newer, Cond.selects RX6 yX6_newer yX6_newer, Cond.code yX6_newer cX6_newer 1 (some .int), Cond.methodLink RX6 30 yX6_goesOn, Cond.instanceMethod yX6_goesOn, Cond.selects RX6 yX6_goesOn yX6_goesOn, Cond.code yX6_goesOn cX6_goesOn 1 (some .boolean), Cond.methodLink RX6 75 yX6_isPresent, Cond.instanceMethod yX6_isPresent, Cond.selects RX6 yX6_isPresent yX6_isPresent, Cond.code yX6_isPresent cX6_isPresent 2 (some .boolean), Cond.methodLink RX6 52 yX6_acts, Cond.instanceMethod yX6_acts, Cond.selects RX6 yX6_acts yX6_acts, Cond.code yX6_acts cX6_acts 2 none, Cond.fieldLink RX6 26 "VillageLogModel" "pasts" "I", Cond.fieldLink RX6 13 "VillageLogModel" "past" "[I", Cond.methodLink RX6 94 yX6_writes, Cond.instanceMethod yX6_writes, Cond.selects RX6 yX6_writes yX6_writes, Cond.code yX6_writes cX6_writes 4 (some .int), Cond.methodLink RX6 97 yX6_agrees, Cond.instanceMethod yX6_agrees, Cond.selects RX6 yX6_agrees yX6_agrees]
def wsX6_run_r4 : List Cond := [Cond.code yX6_agrees cX6_agrees 2 (some .int), Cond.methodLink RX6 42 yX6_having, Cond.instanceMethod yX6_having, Cond.selects RX6 yX6_having yX6_having, Cond.code yX6_having cX6_having 5 (some .int), Cond.methodLink RX6 45 yX6_isMajor, Cond.instanceMethod yX6_isMajor, Cond.selects RX6 yX6_isMajor yX6_isMajor, Cond.code yX6_isMajor cX6_isMajor 2 (some .boolean), Cond.methodLink RX6 49 yX6_ends, Cond.instanceMethod yX6_ends, Cond.selects RX6 yX6_ends yX6_ends, Cond.code yX6_ends cX6_ends 2 none, Cond.methodLink RX6 122 yX6_second, Cond.instanceMethod yX6_second, Cond.selects RX6 yX6_second yX6_second, Cond.code yX6_second cX6_second 3 (some .int), Cond.methodLink RX6 100 yX6_isEntry, Cond.instanceMethod yX6_isEntry, Cond.selects RX6 yX6_isEntry yX6_isEntry, Cond.code yX6_isEntry cX6_isEntry 2 (some .boolean), Cond.methodLink RX6 125 yX6_learn, Cond.instanceMethod yX6_learn, Cond.selects RX6 yX6_learn yX6_learn]
def wsX6_run_r5 : List Cond := [Cond.code yX6_learn cX6_learn 3 (some .int), Cond.methodLink RX6 128 yX6_attend, Cond.instanceMethod yX6_attend, Cond.selects RX6 yX6_attend yX6_attend, Cond.code yX6_attend cX6_attend 3 (some .int), Cond.methodLink RX6 62 yX6_present, Cond.instanceMethod yX6_present, Cond.selects RX6 yX6_present yX6_present, Cond.code yX6_present cX6_present 3 (some .int), Cond.methodLink RX6 137 yX6_exchanges, Cond.instanceMethod yX6_exchanges, Cond.selects RX6 yX6_exchanges yX6_exchanges, Cond.code yX6_exchanges cX6_exchanges 3 none]
def wsX6_run : List Cond := .code yX6_run cX6_run 3 (some .int) :: ((wsX6_run_r1 ++ (wsX6_run_r2 ++ (wsX6_run_r3 ++ (wsX6_run_r4 ++ wsX6_run_r5)))) ++ wsX60)
def wsX6_isForged : List Cond := .code yX6_isForged cX6_isForged 2 (some .boolean) :: ([.fieldLink RX6 7 "VillageLogModel" "s" "[I"] ++ wsX60)
def wsX6_forged : List Cond := .code yX6_forged cX6_forged 3 (some .int) :: ([.fieldLink RX6 7 "VillageLogModel" "s" "[I", .methodLink RX6 140 yX6_isForged, .instanceMethod yX6_isForged, .selects RX6 yX6_isForged yX6_isForged, .initialized RX6, .code yX6_isForged cX6_isForged 2 (some .boolean)] ++ wsX60)
def wsX6_count : List Cond := .code yX6_count cX6_count 2 (some .int) :: ([.fieldLink RX6 7 "VillageLogModel" "s" "[I", .fieldLink RX6 26 "VillageLogModel" "pasts" "I", .fieldLink RX6 103 "VillageLogModel" "typed" "I", .methodLink RX6 62 yX6_present, .instanceMethod yX6_present, .selects RX6 yX6_present yX6_present, .initialized RX6, .code yX6_present cX6_present 3 (some .int), .methodLink RX6 30 yX6_goesOn, .instanceMethod yX6_goesOn, .selects RX6 yX6_goesOn yX6_goesOn, .code yX6_goesOn cX6_goesOn 1 (some .boolean), .methodLink RX6 143 yX6_forged, .instanceMethod yX6_forged, .selects RX6 yX6_forged yX6_forged, .code yX6_forged cX6_forged 3 (some .int), .methodLink RX6 140 yX6_isForged, .instanceMethod yX6_isForged, .selects RX6 yX6_isForged yX6_isForged, .code yX6_isForged cX6_isForged 2 (some .boolean)] ++ wsX60)
def wsX6_elder : List Cond := .code yX6_elder cX6_elder 3 (some .int) :: ([.fieldLink RX6 7 "VillageLogModel" "s" "[I", .methodLink RX6 58 yX6_in, .static yX6_in, .initialized RX6, .code yX6_in cX6_in 3 (some .boolean), .methodLink RX6 78 yX6_isSeat, .instanceMethod yX6_isSeat, .selects RX6 yX6_isSeat yX6_isSeat, .code yX6_isSeat cX6_isSeat 2 (some .boolean), .methodLink RX6 30 yX6_goesOn, .instanceMethod yX6_goesOn, .selects RX6 yX6_goesOn yX6_goesOn, .code yX6_goesOn cX6_goesOn 1 (some .boolean)] ++ wsX60)
def wsX6_timesDrawn : List Cond := .code yX6_timesDrawn cX6_timesDrawn 4 (some .int) :: ([.fieldLink RX6 7 "VillageLogModel" "s" "[I"] ++ wsX60)
def wsX6_villager_r1 : List Cond := [Cond.fieldLink RX6 7 "VillageLogModel" "s" "[I", Cond.methodLink RX6 55 yX6_isVillager, Cond.instanceMethod yX6_isVillager, Cond.selects RX6 yX6_isVillager yX6_isVillager, Cond.initialized RX6, Cond.code yX6_isVillager cX6_isVillager 2 (some .boolean), Cond.methodLink RX6 58 yX6_in, Cond.static yX6_in, Cond.code yX6_in cX6_in 3 (some .boolean), Cond.methodLink RX6 34 yX6_seatOf, Cond.instanceMethod yX6_seatOf, Cond.selects RX6 yX6_seatOf yX6_seatOf, Cond.code yX6_seatOf cX6_seatOf 5 (some .int), Cond.methodLink RX6 38 yX6_newer, Cond.instanceMethod yX6_newer, Cond.selects RX6 yX6_newer yX6_newer, Cond.code yX6_newer cX6_newer 1 (some .int), Cond.methodLink RX6 30 yX6_goesOn, Cond.instanceMethod yX6_goesOn, Cond.selects RX6 yX6_goesOn yX6_goesOn, Cond.code yX6_goesOn cX6_goesOn 1 (some .boolean), Cond.methodLink RX6 146 yX6_timesDrawn, Cond.instanceMethod yX6_timesDrawn, Cond.selects RX6 yX6_timesDrawn yX6_timesDrawn]
def wsX6_villager_r2 : List Cond := [Cond.code yX6_timesDrawn cX6_timesDrawn 4 (some .int)]
def wsX6_villager : List Cond := .code yX6_villager cX6_villager 3 (some .int) :: ((wsX6_villager_r1 ++ wsX6_villager_r2) ++ wsX60)
def wsX6_copies : List Cond := .code yX6_copies cX6_copies 4 (some .int) :: ([.fieldLink RX6 7 "VillageLogModel" "s" "[I"] ++ wsX60)
def wsX6_entry_r1 : List Cond := [Cond.fieldLink RX6 7 "VillageLogModel" "s" "[I", Cond.methodLink RX6 100 yX6_isEntry, Cond.instanceMethod yX6_isEntry, Cond.selects RX6 yX6_isEntry yX6_isEntry, Cond.initialized RX6, Cond.code yX6_isEntry cX6_isEntry 2 (some .boolean), Cond.methodLink RX6 58 yX6_in, Cond.static yX6_in, Cond.code yX6_in cX6_in 3 (some .boolean), Cond.methodLink RX6 149 yX6_copies, Cond.instanceMethod yX6_copies, Cond.selects RX6 yX6_copies yX6_copies, Cond.code yX6_copies cX6_copies 4 (some .int), Cond.methodLink RX6 42 yX6_having, Cond.instanceMethod yX6_having, Cond.selects RX6 yX6_having yX6_having, Cond.code yX6_having cX6_having 5 (some .int), Cond.methodLink RX6 38 yX6_newer, Cond.instanceMethod yX6_newer, Cond.selects RX6 yX6_newer yX6_newer, Cond.code yX6_newer cX6_newer 1 (some .int), Cond.methodLink RX6 30 yX6_goesOn, Cond.instanceMethod yX6_goesOn, Cond.selects RX6 yX6_goesOn yX6_goesOn]
def wsX6_entry_r2 : List Cond := [Cond.code yX6_goesOn cX6_goesOn 1 (some .boolean)]
def wsX6_entry : List Cond := .code yX6_entry cX6_entry 3 (some .int) :: ((wsX6_entry_r1 ++ wsX6_entry_r2) ++ wsX60)
def wsX6_draw : List Cond := .code yX6_draw cX6_draw 3 (some .int) :: ([.fieldLink RX6 7 "VillageLogModel" "s" "[I", .methodLink RX6 58 yX6_in, .static yX6_in, .initialized RX6, .code yX6_in cX6_in 3 (some .boolean), .methodLink RX6 140 yX6_isForged, .instanceMethod yX6_isForged, .selects RX6 yX6_isForged yX6_isForged, .code yX6_isForged cX6_isForged 2 (some .boolean)] ++ wsX60)
def wsX6_fewest : List Cond := .code yX6_fewest cX6_fewest 5 (some .int) :: ([])
def wsX6_missing : List Cond := .code yX6_missing cX6_missing 6 (some .int) :: ([.fieldLink RX6 7 "VillageLogModel" "s" "[I", .methodLink RX6 100 yX6_isEntry, .instanceMethod yX6_isEntry, .selects RX6 yX6_isEntry yX6_isEntry, .initialized RX6, .code yX6_isEntry cX6_isEntry 2 (some .boolean), .methodLink RX6 38 yX6_newer, .instanceMethod yX6_newer, .selects RX6 yX6_newer yX6_newer, .code yX6_newer cX6_newer 1 (some .int), .methodLink RX6 30 yX6_goesOn, .instanceMethod yX6_goesOn, .selects RX6 yX6_goesOn yX6_goesOn, .code yX6_goesOn cX6_goesOn 1 (some .boolean), .methodLink RX6 42 yX6_having, .instanceMethod yX6_having, .selects RX6 yX6_having yX6_having, .code yX6_having cX6_having 5 (some .int), .methodLink RX6 152 yX6_fewest, .static yX6_fewest, .code yX6_fewest cX6_fewest 5 (some .int)] ++ wsX60)
def wsX6_reachable_r1 : List Cond := [Cond.fieldLink RX6 7 "VillageLogModel" "s" "[I", Cond.methodLink RX6 131 yX6_holds, Cond.instanceMethod yX6_holds, Cond.selects RX6 yX6_holds yX6_holds, Cond.initialized RX6, Cond.code yX6_holds cX6_holds 2 none, Cond.fieldLink RX6 16 "VillageLogModel" "held" "[I", Cond.methodLink RX6 72 yX6_isElder, Cond.instanceMethod yX6_isElder, Cond.selects RX6 yX6_isElder yX6_isElder, Cond.code yX6_isElder cX6_isElder 2 (some .boolean), Cond.methodLink RX6 34 yX6_seatOf, Cond.instanceMethod yX6_seatOf, Cond.selects RX6 yX6_seatOf yX6_seatOf, Cond.code yX6_seatOf cX6_seatOf 5 (some .int), Cond.methodLink RX6 38 yX6_newer, Cond.instanceMethod yX6_newer, Cond.selects RX6 yX6_newer yX6_newer, Cond.code yX6_newer cX6_newer 1 (some .int), Cond.methodLink RX6 30 yX6_goesOn, Cond.instanceMethod yX6_goesOn, Cond.selects RX6 yX6_goesOn yX6_goesOn, Cond.code yX6_goesOn cX6_goesOn 1 (some .boolean), Cond.methodLink RX6 75 yX6_isPresent]
def wsX6_reachable_r2 : List Cond := [Cond.instanceMethod yX6_isPresent, Cond.selects RX6 yX6_isPresent yX6_isPresent, Cond.code yX6_isPresent cX6_isPresent 2 (some .boolean), Cond.methodLink RX6 97 yX6_agrees, Cond.instanceMethod yX6_agrees, Cond.selects RX6 yX6_agrees yX6_agrees, Cond.code yX6_agrees cX6_agrees 2 (some .int), Cond.methodLink RX6 42 yX6_having, Cond.instanceMethod yX6_having, Cond.selects RX6 yX6_having yX6_having, Cond.code yX6_having cX6_having 5 (some .int), Cond.methodLink RX6 45 yX6_isMajor, Cond.instanceMethod yX6_isMajor, Cond.selects RX6 yX6_isMajor yX6_isMajor, Cond.code yX6_isMajor cX6_isMajor 2 (some .boolean), Cond.methodLink RX6 49 yX6_ends, Cond.instanceMethod yX6_ends, Cond.selects RX6 yX6_ends yX6_ends, Cond.code yX6_ends cX6_ends 2 none, Cond.methodLink RX6 137 yX6_exchanges, Cond.instanceMethod yX6_exchanges, Cond.selects RX6 yX6_exchanges yX6_exchanges, Cond.code yX6_exchanges cX6_exchanges 3 none]
def wsX6_reachable : List Cond := .code yX6_reachable cX6_reachable 2 (some .int) :: ((wsX6_reachable_r1 ++ wsX6_reachable_r2) ++ wsX60)
def wsX6_nextDrawn_r1 : List Cond := [Cond.fieldLink RX6 7 "VillageLogModel" "s" "[I", Cond.methodLink RX6 78 yX6_isSeat, Cond.instanceMethod yX6_isSeat, Cond.selects RX6 yX6_isSeat yX6_isSeat, Cond.initialized RX6, Cond.code yX6_isSeat cX6_isSeat 2 (some .boolean), Cond.methodLink RX6 30 yX6_goesOn, Cond.instanceMethod yX6_goesOn, Cond.selects RX6 yX6_goesOn yX6_goesOn, Cond.code yX6_goesOn cX6_goesOn 1 (some .boolean), Cond.methodLink RX6 81 yX6_candidates, Cond.instanceMethod yX6_candidates, Cond.selects RX6 yX6_candidates yX6_candidates, Cond.code yX6_candidates cX6_candidates 3 (some .int), Cond.methodLink RX6 34 yX6_seatOf, Cond.instanceMethod yX6_seatOf, Cond.selects RX6 yX6_seatOf yX6_seatOf, Cond.code yX6_seatOf cX6_seatOf 5 (some .int), Cond.methodLink RX6 87 yX6_drawn, Cond.static yX6_drawn, Cond.code yX6_drawn cX6_drawn 1 (some .int), Cond.constantLong RX6 66 (25173), Cond.constantLong RX6 68 (13849), Cond.constantLong RX6 70 (65536)]
def wsX6_nextDrawn_r2 : List Cond := [Cond.methodLink RX6 91 yX6_candidate, Cond.instanceMethod yX6_candidate, Cond.selects RX6 yX6_candidate yX6_candidate, Cond.code yX6_candidate cX6_candidate 6 (some .int)]
def wsX6_nextDrawn : List Cond := .code yX6_nextDrawn cX6_nextDrawn 3 (some .int) :: ((wsX6_nextDrawn_r1 ++ wsX6_nextDrawn_r2) ++ wsX60)
def wsX6_spare : List Cond := .code yX6_spare cX6_spare 2 (some .int) :: ([.fieldLink RX6 7 "VillageLogModel" "s" "[I", .methodLink RX6 30 yX6_goesOn, .instanceMethod yX6_goesOn, .selects RX6 yX6_goesOn yX6_goesOn, .initialized RX6, .code yX6_goesOn cX6_goesOn 1 (some .boolean), .methodLink RX6 152 yX6_fewest, .static yX6_fewest, .code yX6_fewest cX6_fewest 5 (some .int)] ++ wsX60)
def wsX6_lotFor_r1 : List Cond := [Cond.constant RX6 156 (65536), Cond.methodLink RX6 55 yX6_isVillager, Cond.instanceMethod yX6_isVillager, Cond.selects RX6 yX6_isVillager yX6_isVillager, Cond.initialized RX6, Cond.code yX6_isVillager cX6_isVillager 2 (some .boolean), Cond.fieldLink RX6 7 "VillageLogModel" "s" "[I", Cond.methodLink RX6 78 yX6_isSeat, Cond.instanceMethod yX6_isSeat, Cond.selects RX6 yX6_isSeat yX6_isSeat, Cond.code yX6_isSeat cX6_isSeat 2 (some .boolean), Cond.methodLink RX6 30 yX6_goesOn, Cond.instanceMethod yX6_goesOn, Cond.selects RX6 yX6_goesOn yX6_goesOn, Cond.code yX6_goesOn cX6_goesOn 1 (some .boolean), Cond.methodLink RX6 81 yX6_candidates, Cond.instanceMethod yX6_candidates, Cond.selects RX6 yX6_candidates yX6_candidates, Cond.code yX6_candidates cX6_candidates 3 (some .int), Cond.methodLink RX6 34 yX6_seatOf, Cond.instanceMethod yX6_seatOf, Cond.selects RX6 yX6_seatOf yX6_seatOf, Cond.code yX6_seatOf cX6_seatOf 5 (some .int), Cond.methodLink RX6 87 yX6_drawn]
def wsX6_lotFor_r2 : List Cond := [Cond.static yX6_drawn, Cond.code yX6_drawn cX6_drawn 1 (some .int), Cond.constantLong RX6 66 (25173), Cond.constantLong RX6 68 (13849), Cond.constantLong RX6 70 (65536), Cond.methodLink RX6 91 yX6_candidate, Cond.instanceMethod yX6_candidate, Cond.selects RX6 yX6_candidate yX6_candidate, Cond.code yX6_candidate cX6_candidate 6 (some .int)]
def wsX6_lotFor : List Cond := .code yX6_lotFor cX6_lotFor 5 (some .int) :: ((wsX6_lotFor_r1 ++ wsX6_lotFor_r2) ++ wsX60)
def wsJ9_max_7cf53 : List Cond := .code yJ9_max_7cf53 cJ9_max_7cf53 2 (some .int) :: ([])
def wsJ9_min_7cf53 : List Cond := .code yJ9_min_7cf53 cJ9_min_7cf53 2 (some .int) :: ([])
abbrev vwCl : List vw_C := [(RX0, TX0, 2), (RX1, TX1, 3), (RX2, TX2, 7), (RX3, TX3, 6), (RX4, TX4, 13), (RX5, TX5, 3), (RX6, TX6, 9)]
end
section
theorem dX0_init_0 : decode cX0_init 0 = .ok (.aload_n 0, 1) := by decide +kernel
theorem dX0_init_1 : decode cX0_init 1 = .ok (.invokespecial 3, 3) := by decide +kernel
theorem dX0_init_4 : decode cX0_init 4 = .ok (.aload_n 0, 1) := by decide +kernel
theorem dX0_init_5 : decode cX0_init 5 = .ok (.iconst 5, 1) := by decide +kernel
theorem dX0_init_6 : decode cX0_init 6 = .ok (.newarray .int, 2) := by decide +kernel
theorem dX0_init_8 : decode cX0_init 8 = .ok (.putfield 9, 3) := by decide +kernel
theorem dX0_init_11 : decode cX0_init 11 = .ok (.return_, 1) := by decide +kernel
theorem dX0_copyFrom_0 : decode cX0_copyFrom 0 = .ok (.aload_n 0, 1) := by decide +kernel
theorem dX0_copyFrom_1 : decode cX0_copyFrom 1 = .ok (.aload_n 1, 1) := by decide +kernel
theorem dX0_copyFrom_2 : decode cX0_copyFrom 2 = .ok (.getfield 15, 3) := by decide +kernel
theorem dX0_copyFrom_5 : decode cX0_copyFrom 5 = .ok (.putfield 15, 3) := by decide +kernel
theorem dX0_copyFrom_8 : decode cX0_copyFrom 8 = .ok (.aload_n 1, 1) := by decide +kernel
theorem dX0_copyFrom_9 : decode cX0_copyFrom 9 = .ok (.getfield 9, 3) := by decide +kernel
theorem dX0_copyFrom_12 : decode cX0_copyFrom 12 = .ok (.iconst 0, 1) := by decide +kernel
theorem dX0_copyFrom_13 : decode cX0_copyFrom 13 = .ok (.aload_n 0, 1) := by decide +kernel
theorem dX0_copyFrom_14 : decode cX0_copyFrom 14 = .ok (.getfield 9, 3) := by decide +kernel
theorem dX0_copyFrom_17 : decode cX0_copyFrom 17 = .ok (.iconst 0, 1) := by decide +kernel
theorem dX0_copyFrom_18 : decode cX0_copyFrom 18 = .ok (.iconst 5, 1) := by decide +kernel
theorem dX0_copyFrom_19 : decode cX0_copyFrom 19 = .ok (.invokestatic 19, 3) := by decide +kernel
theorem dX0_copyFrom_22 : decode cX0_copyFrom 22 = .ok (.return_, 1) := by decide +kernel
theorem dX0_seatFirst_0 : decode cX0_seatFirst 0 = .ok (.aload_n 0, 1) := by decide +kernel
theorem dX0_seatFirst_1 : decode cX0_seatFirst 1 = .ok (.iload_n 1, 1) := by decide +kernel
theorem dX0_seatFirst_2 : decode cX0_seatFirst 2 = .ok (.iconst 5, 1) := by decide +kernel
theorem dX0_seatFirst_3 : decode cX0_seatFirst 3 = .ok (.invokestatic 25, 3) := by decide +kernel
theorem dX0_seatFirst_6 : decode cX0_seatFirst 6 = .ok (.putfield 15, 3) := by decide +kernel
theorem dX0_seatFirst_9 : decode cX0_seatFirst 9 = .ok (.iconst 0, 1) := by decide +kernel
theorem dX0_seatFirst_10 : decode cX0_seatFirst 10 = .ok (.istore_n 2, 1) := by decide +kernel
theorem dX0_seatFirst_11 : decode cX0_seatFirst 11 = .ok (.iload_n 2, 1) := by decide +kernel
theorem dX0_seatFirst_12 : decode cX0_seatFirst 12 = .ok (.aload_n 0, 1) := by decide +kernel
theorem dX0_seatFirst_13 : decode cX0_seatFirst 13 = .ok (.getfield 15, 3) := by decide +kernel
theorem dX0_seatFirst_16 : decode cX0_seatFirst 16 = .ok (.if_icmp .ge 16, 3) := by decide +kernel
theorem dX0_seatFirst_19 : decode cX0_seatFirst 19 = .ok (.aload_n 0, 1) := by decide +kernel
theorem dX0_seatFirst_20 : decode cX0_seatFirst 20 = .ok (.getfield 9, 3) := by decide +kernel
theorem dX0_seatFirst_23 : decode cX0_seatFirst 23 = .ok (.iload_n 2, 1) := by decide +kernel
theorem dX0_seatFirst_24 : decode cX0_seatFirst 24 = .ok (.iload_n 2, 1) := by decide +kernel
theorem dX0_seatFirst_25 : decode cX0_seatFirst 25 = .ok (.iastore, 1) := by decide +kernel
theorem dX0_seatFirst_26 : decode cX0_seatFirst 26 = .ok (.iinc 2 1, 3) := by decide +kernel
theorem dX0_seatFirst_29 : decode cX0_seatFirst 29 = .ok (.goto (-18), 3) := by decide +kernel
theorem dX0_seatFirst_32 : decode cX0_seatFirst 32 = .ok (.return_, 1) := by decide +kernel
set_option maxRecDepth 20000 in
theorem ggX0_place_X0_hasSeat : GoodIn wsX0_place wsX0_hasSeat := goodIn_r _ [6, 7, 8, 9] (by decide +kernel) (by decide +kernel)
set_option maxRecDepth 20000 in
theorem gX0_place_X0_hasSeat : GoodIn wsX0_place (wsV RX0 31 RX0 yX0_hasSeat wsX0_hasSeat) := goodIn_app (goodIn_of _ (by decide +kernel)) ggX0_place_X0_hasSeat
theorem dX0_place_0 : decode cX0_place 0 = .ok (.aload_n 0, 1) := by decide +kernel
theorem dX0_place_1 : decode cX0_place 1 = .ok (.iload_n 1, 1) := by decide +kernel
theorem dX0_place_2 : decode cX0_place 2 = .ok (.invokevirtual 31, 3) := by decide +kernel
theorem dX0_place_5 : decode cX0_place 5 = .ok (.ifCond .eq 10, 3) := by decide +kernel
theorem dX0_place_8 : decode cX0_place 8 = .ok (.aload_n 0, 1) := by decide +kernel
theorem dX0_place_9 : decode cX0_place 9 = .ok (.getfield 9, 3) := by decide +kernel
theorem dX0_place_12 : decode cX0_place 12 = .ok (.iload_n 1, 1) := by decide +kernel
theorem dX0_place_13 : decode cX0_place 13 = .ok (.iload_n 2, 1) := by decide +kernel
theorem dX0_place_14 : decode cX0_place 14 = .ok (.iastore, 1) := by decide +kernel
theorem dX0_place_15 : decode cX0_place 15 = .ok (.return_, 1) := by decide +kernel
theorem dX0_size_0 : decode cX0_size 0 = .ok (.aload_n 0, 1) := by decide +kernel
theorem dX0_size_1 : decode cX0_size 1 = .ok (.getfield 15, 3) := by decide +kernel
theorem dX0_size_4 : decode cX0_size 4 = .ok (.ireturn, 1) := by decide +kernel
theorem dX0_isEmpty_0 : decode cX0_isEmpty 0 = .ok (.aload_n 0, 1) := by decide +kernel
theorem dX0_isEmpty_1 : decode cX0_isEmpty 1 = .ok (.getfield 15, 3) := by decide +kernel
theorem dX0_isEmpty_4 : decode cX0_isEmpty 4 = .ok (.ifCond .ne 7, 3) := by decide +kernel
theorem dX0_isEmpty_7 : decode cX0_isEmpty 7 = .ok (.iconst 1, 1) := by decide +kernel
theorem dX0_isEmpty_8 : decode cX0_isEmpty 8 = .ok (.goto 4, 3) := by decide +kernel
theorem dX0_isEmpty_11 : decode cX0_isEmpty 11 = .ok (.iconst 0, 1) := by decide +kernel
theorem dX0_isEmpty_12 : decode cX0_isEmpty 12 = .ok (.ireturn, 1) := by decide +kernel
theorem dX0_hasSeat_0 : decode cX0_hasSeat 0 = .ok (.iload_n 1, 1) := by decide +kernel
theorem dX0_hasSeat_1 : decode cX0_hasSeat 1 = .ok (.ifCond .lt 15, 3) := by decide +kernel
theorem dX0_hasSeat_4 : decode cX0_hasSeat 4 = .ok (.iload_n 1, 1) := by decide +kernel
theorem dX0_hasSeat_5 : decode cX0_hasSeat 5 = .ok (.aload_n 0, 1) := by decide +kernel
theorem dX0_hasSeat_6 : decode cX0_hasSeat 6 = .ok (.getfield 15, 3) := by decide +kernel
theorem dX0_hasSeat_9 : decode cX0_hasSeat 9 = .ok (.if_icmp .ge 7, 3) := by decide +kernel
theorem dX0_hasSeat_12 : decode cX0_hasSeat 12 = .ok (.iconst 1, 1) := by decide +kernel
theorem dX0_hasSeat_13 : decode cX0_hasSeat 13 = .ok (.goto 4, 3) := by decide +kernel
theorem dX0_hasSeat_16 : decode cX0_hasSeat 16 = .ok (.iconst 0, 1) := by decide +kernel
theorem dX0_hasSeat_17 : decode cX0_hasSeat 17 = .ok (.ireturn, 1) := by decide +kernel
set_option maxRecDepth 20000 in
theorem ggX0_elderOn_X0_hasSeat : GoodIn wsX0_elderOn wsX0_hasSeat := goodIn_r _ [6, 7, 8, 9] (by decide +kernel) (by decide +kernel)
set_option maxRecDepth 20000 in
theorem gX0_elderOn_X0_hasSeat : GoodIn wsX0_elderOn (wsV RX0 31 RX0 yX0_hasSeat wsX0_hasSeat) := goodIn_app (goodIn_of _ (by decide +kernel)) ggX0_elderOn_X0_hasSeat
theorem dX0_elderOn_0 : decode cX0_elderOn 0 = .ok (.aload_n 0, 1) := by decide +kernel
theorem dX0_elderOn_1 : decode cX0_elderOn 1 = .ok (.iload_n 1, 1) := by decide +kernel
theorem dX0_elderOn_2 : decode cX0_elderOn 2 = .ok (.invokevirtual 31, 3) := by decide +kernel
theorem dX0_elderOn_5 : decode cX0_elderOn 5 = .ok (.ifCond .eq 12, 3) := by decide +kernel
theorem dX0_elderOn_8 : decode cX0_elderOn 8 = .ok (.aload_n 0, 1) := by decide +kernel
theorem dX0_elderOn_9 : decode cX0_elderOn 9 = .ok (.getfield 9, 3) := by decide +kernel
theorem dX0_elderOn_12 : decode cX0_elderOn 12 = .ok (.iload_n 1, 1) := by decide +kernel
theorem dX0_elderOn_13 : decode cX0_elderOn 13 = .ok (.iaload, 1) := by decide +kernel
theorem dX0_elderOn_14 : decode cX0_elderOn 14 = .ok (.goto 5, 3) := by decide +kernel
theorem dX0_elderOn_17 : decode cX0_elderOn 17 = .ok (.bipush (-9), 2) := by decide +kernel
theorem dX0_elderOn_19 : decode cX0_elderOn 19 = .ok (.ireturn, 1) := by decide +kernel
theorem dX0_seatOf_0 : decode cX0_seatOf 0 = .ok (.iconst 0, 1) := by decide +kernel
theorem dX0_seatOf_1 : decode cX0_seatOf 1 = .ok (.istore_n 2, 1) := by decide +kernel
theorem dX0_seatOf_2 : decode cX0_seatOf 2 = .ok (.iload_n 2, 1) := by decide +kernel
theorem dX0_seatOf_3 : decode cX0_seatOf 3 = .ok (.aload_n 0, 1) := by decide +kernel
theorem dX0_seatOf_4 : decode cX0_seatOf 4 = .ok (.getfield 15, 3) := by decide +kernel
theorem dX0_seatOf_7 : decode cX0_seatOf 7 = .ok (.if_icmp .ge 21, 3) := by decide +kernel
theorem dX0_seatOf_10 : decode cX0_seatOf 10 = .ok (.aload_n 0, 1) := by decide +kernel
theorem dX0_seatOf_11 : decode cX0_seatOf 11 = .ok (.getfield 9, 3) := by decide +kernel
theorem dX0_seatOf_14 : decode cX0_seatOf 14 = .ok (.iload_n 2, 1) := by decide +kernel
theorem dX0_seatOf_15 : decode cX0_seatOf 15 = .ok (.iaload, 1) := by decide +kernel
theorem dX0_seatOf_16 : decode cX0_seatOf 16 = .ok (.iload_n 1, 1) := by decide +kernel
theorem dX0_seatOf_17 : decode cX0_seatOf 17 = .ok (.if_icmp .ne 5, 3) := by decide +kernel
theorem dX0_seatOf_20 : decode cX0_seatOf 20 = .ok (.iload_n 2, 1) := by decide +kernel
theorem dX0_seatOf_21 : decode cX0_seatOf 21 = .ok (.ireturn, 1) := by decide +kernel
theorem dX0_seatOf_22 : decode cX0_seatOf 22 = .ok (.iinc 2 1, 3) := by decide +kernel
theorem dX0_seatOf_25 : decode cX0_seatOf 25 = .ok (.goto (-23), 3) := by decide +kernel
theorem dX0_seatOf_28 : decode cX0_seatOf 28 = .ok (.bipush (-9), 2) := by decide +kernel
theorem dX0_seatOf_30 : decode cX0_seatOf 30 = .ok (.ireturn, 1) := by decide +kernel
set_option maxRecDepth 20000 in
theorem ggX0_has_X0_seatOf : GoodIn wsX0_has wsX0_seatOf := goodIn_r _ [5, 6, 7, 8, 9] (by decide +kernel) (by decide +kernel)
set_option maxRecDepth 20000 in
theorem gX0_has_X0_seatOf : GoodIn wsX0_has (wsV RX0 35 RX0 yX0_seatOf wsX0_seatOf) := goodIn_app (goodIn_of _ (by decide +kernel)) ggX0_has_X0_seatOf
theorem dX0_has_0 : decode cX0_has 0 = .ok (.aload_n 0, 1) := by decide +kernel
theorem dX0_has_1 : decode cX0_has 1 = .ok (.iload_n 1, 1) := by decide +kernel
theorem dX0_has_2 : decode cX0_has 2 = .ok (.invokevirtual 35, 3) := by decide +kernel
theorem dX0_has_5 : decode cX0_has 5 = .ok (.bipush (-9), 2) := by decide +kernel
theorem dX0_has_7 : decode cX0_has 7 = .ok (.if_icmp .eq 7, 3) := by decide +kernel
theorem dX0_has_10 : decode cX0_has 10 = .ok (.iconst 1, 1) := by decide +kernel
theorem dX0_has_11 : decode cX0_has 11 = .ok (.goto 4, 3) := by decide +kernel
theorem dX0_has_14 : decode cX0_has 14 = .ok (.iconst 0, 1) := by decide +kernel
theorem dX0_has_15 : decode cX0_has 15 = .ok (.ireturn, 1) := by decide +kernel
theorem dX0_majority_0 : decode cX0_majority 0 = .ok (.aload_n 0, 1) := by decide +kernel
theorem dX0_majority_1 : decode cX0_majority 1 = .ok (.getfield 15, 3) := by decide +kernel
theorem dX0_majority_4 : decode cX0_majority 4 = .ok (.iconst 2, 1) := by decide +kernel
theorem dX0_majority_5 : decode cX0_majority 5 = .ok (.idiv, 1) := by decide +kernel
theorem dX0_majority_6 : decode cX0_majority 6 = .ok (.iconst 1, 1) := by decide +kernel
theorem dX0_majority_7 : decode cX0_majority 7 = .ok (.iadd, 1) := by decide +kernel
theorem dX0_majority_8 : decode cX0_majority 8 = .ok (.ireturn, 1) := by decide +kernel
set_option maxRecDepth 20000 in
theorem ggX1_init_X4_init : GoodIn wsX1_init wsX4_init := goodIn_r _ [9, 10, 2, 3, 11, 12, 13, 14, 15, 16, 17, 18, 19, 20, 21, 22, 23, 24, 25, 26, 27, 28, 29, 30, 31, 32, 33, 34, 35, 36, 37, 38, 39, 43, 44, 45, 46, 47, 48, 49, 50, 51, 52, 53, 54, 55, 56, 57, 58, 59, 60, 61, 62, 63, 64] (by decide +kernel) (by decide +kernel)
set_option maxRecDepth 20000 in
theorem gX1_init_X4_init_n17 : GoodIn wsX1_init (wsX4_init) := ggX1_init_X4_init
theorem dX1_init_0 : decode cX1_init 0 = .ok (.aload_n 0, 1) := by decide +kernel
theorem dX1_init_1 : decode cX1_init 1 = .ok (.invokespecial 3, 3) := by decide +kernel
theorem dX1_init_4 : decode cX1_init 4 = .ok (.aload_n 0, 1) := by decide +kernel
theorem dX1_init_5 : decode cX1_init 5 = .ok (.bipush 6, 2) := by decide +kernel
theorem dX1_init_7 : decode cX1_init 7 = .ok (.anewarray 11, 3) := by decide +kernel
theorem dX1_init_10 : decode cX1_init 10 = .ok (.putfield 13, 3) := by decide +kernel
theorem dX1_init_13 : decode cX1_init 13 = .ok (.iconst 0, 1) := by decide +kernel
theorem dX1_init_14 : decode cX1_init 14 = .ok (.istore_n 1, 1) := by decide +kernel
theorem dX1_init_15 : decode cX1_init 15 = .ok (.iload_n 1, 1) := by decide +kernel
theorem dX1_init_16 : decode cX1_init 16 = .ok (.bipush 6, 2) := by decide +kernel
theorem dX1_init_18 : decode cX1_init 18 = .ok (.if_icmp .ge 22, 3) := by decide +kernel
theorem dX1_init_21 : decode cX1_init 21 = .ok (.aload_n 0, 1) := by decide +kernel
theorem dX1_init_22 : decode cX1_init 22 = .ok (.getfield 13, 3) := by decide +kernel
theorem dX1_init_25 : decode cX1_init 25 = .ok (.iload_n 1, 1) := by decide +kernel
theorem dX1_init_26 : decode cX1_init 26 = .ok (.new 11, 3) := by decide +kernel
theorem dX1_init_29 : decode cX1_init 29 = .ok (.dup, 1) := by decide +kernel
theorem dX1_init_30 : decode cX1_init 30 = .ok (.invokespecial 17, 3) := by decide +kernel
theorem dX1_init_33 : decode cX1_init 33 = .ok (.aastore, 1) := by decide +kernel
theorem dX1_init_34 : decode cX1_init 34 = .ok (.iinc 1 1, 3) := by decide +kernel
theorem dX1_init_37 : decode cX1_init 37 = .ok (.goto (-22), 3) := by decide +kernel
theorem dX1_init_40 : decode cX1_init 40 = .ok (.return_, 1) := by decide +kernel
theorem dX1_length_0 : decode cX1_length 0 = .ok (.aload_n 0, 1) := by decide +kernel
theorem dX1_length_1 : decode cX1_length 1 = .ok (.getfield 18, 3) := by decide +kernel
theorem dX1_length_4 : decode cX1_length 4 = .ok (.ireturn, 1) := by decide +kernel
set_option maxRecDepth 20000 in
theorem ggX1_note_X4_copyFrom : GoodIn wsX1_note wsX4_copyFrom := goodIn_r _ [7, 8, 9, 10, 11, 12, 13, 14, 15, 16, 17, 18, 19, 20, 21, 22, 23, 24, 25, 26, 27, 28, 29, 30, 31, 32, 33, 34, 35, 36, 37, 38, 39, 40, 41, 42, 43, 44, 45, 49, 50, 51, 52, 53, 54, 55, 56, 57, 58, 59, 60, 61, 62, 63, 64, 65, 66, 67, 68, 69, 70] (by decide +kernel) (by decide +kernel)
set_option maxRecDepth 20000 in
theorem gX1_note_X4_copyFrom : GoodIn wsX1_note (wsV RX1 25 RX4 yX4_copyFrom wsX4_copyFrom) := goodIn_app (goodIn_of _ (by decide +kernel)) ggX1_note_X4_copyFrom
theorem dX1_note_0 : decode cX1_note 0 = .ok (.aload_n 0, 1) := by decide +kernel
theorem dX1_note_1 : decode cX1_note 1 = .ok (.getfield 13, 3) := by decide +kernel
theorem dX1_note_4 : decode cX1_note 4 = .ok (.aload_n 0, 1) := by decide +kernel
theorem dX1_note_5 : decode cX1_note 5 = .ok (.getfield 22, 3) := by decide +kernel
theorem dX1_note_8 : decode cX1_note 8 = .ok (.aaload, 1) := by decide +kernel
theorem dX1_note_9 : decode cX1_note 9 = .ok (.aload_n 1, 1) := by decide +kernel
theorem dX1_note_10 : decode cX1_note 10 = .ok (.invokevirtual 25, 3) := by decide +kernel
theorem dX1_note_13 : decode cX1_note 13 = .ok (.return_, 1) := by decide +kernel
theorem dX1_keep_0 : decode cX1_keep 0 = .ok (.aload_n 0, 1) := by decide +kernel
theorem dX1_keep_1 : decode cX1_keep 1 = .ok (.aload_n 0, 1) := by decide +kernel
theorem dX1_keep_2 : decode cX1_keep 2 = .ok (.getfield 22, 3) := by decide +kernel
theorem dX1_keep_5 : decode cX1_keep 5 = .ok (.iconst 1, 1) := by decide +kernel
theorem dX1_keep_6 : decode cX1_keep 6 = .ok (.iadd, 1) := by decide +kernel
theorem dX1_keep_7 : decode cX1_keep 7 = .ok (.bipush 6, 2) := by decide +kernel
theorem dX1_keep_9 : decode cX1_keep 9 = .ok (.irem, 1) := by decide +kernel
theorem dX1_keep_10 : decode cX1_keep 10 = .ok (.putfield 22, 3) := by decide +kernel
theorem dX1_keep_13 : decode cX1_keep 13 = .ok (.aload_n 0, 1) := by decide +kernel
theorem dX1_keep_14 : decode cX1_keep 14 = .ok (.aload_n 0, 1) := by decide +kernel
theorem dX1_keep_15 : decode cX1_keep 15 = .ok (.getfield 18, 3) := by decide +kernel
theorem dX1_keep_18 : decode cX1_keep 18 = .ok (.iconst 1, 1) := by decide +kernel
theorem dX1_keep_19 : decode cX1_keep 19 = .ok (.iadd, 1) := by decide +kernel
theorem dX1_keep_20 : decode cX1_keep 20 = .ok (.iconst 5, 1) := by decide +kernel
theorem dX1_keep_21 : decode cX1_keep 21 = .ok (.invokestatic 29, 3) := by decide +kernel
theorem dX1_keep_24 : decode cX1_keep 24 = .ok (.putfield 18, 3) := by decide +kernel
theorem dX1_keep_27 : decode cX1_keep 27 = .ok (.return_, 1) := by decide +kernel
set_option maxRecDepth 20000 in
theorem ggX1_restore_X4_copyFrom : GoodIn wsX1_restore wsX4_copyFrom := goodIn_r _ [7, 8, 9, 10, 11, 12, 13, 14, 15, 16, 17, 18, 19, 20, 21, 22, 23, 24, 25, 26, 27, 28, 29, 30, 31, 32, 33, 34, 35, 36, 37, 38, 39, 40, 41, 42, 43, 44, 45, 49, 50, 51, 52, 53, 54, 55, 56, 57, 58, 59, 60, 61, 62, 63, 64, 65, 66, 67, 68, 69, 70] (by decide +kernel) (by decide +kernel)
set_option maxRecDepth 20000 in
theorem gX1_restore_X4_copyFrom : GoodIn wsX1_restore (wsV RX1 25 RX4 yX4_copyFrom wsX4_copyFrom) := goodIn_app (goodIn_of _ (by decide +kernel)) ggX1_restore_X4_copyFrom
theorem dX1_restore_0 : decode cX1_restore 0 = .ok (.aload_n 1, 1) := by decide +kernel
theorem dX1_restore_1 : decode cX1_restore 1 = .ok (.aload_n 0, 1) := by decide +kernel
theorem dX1_restore_2 : decode cX1_restore 2 = .ok (.getfield 13, 3) := by decide +kernel
theorem dX1_restore_5 : decode cX1_restore 5 = .ok (.aload_n 0, 1) := by decide +kernel
theorem dX1_restore_6 : decode cX1_restore 6 = .ok (.getfield 22, 3) := by decide +kernel
theorem dX1_restore_9 : decode cX1_restore 9 = .ok (.aaload, 1) := by decide +kernel
theorem dX1_restore_10 : decode cX1_restore 10 = .ok (.invokevirtual 25, 3) := by decide +kernel
theorem dX1_restore_13 : decode cX1_restore 13 = .ok (.return_, 1) := by decide +kernel
set_option maxRecDepth 20000 in
theorem ggX1_stepBack_X1_restore : GoodIn wsX1_stepBack wsX1_restore := goodIn_r _ [7, 8, 2, 9, 10, 11, 12, 13, 14, 15, 16, 17, 18, 19, 20, 21, 22, 23, 24, 25, 26, 27, 28, 29, 30, 31, 32, 33, 34, 35, 36, 37, 38, 39, 40, 41, 42, 43, 44, 45, 46, 47, 48, 49, 50, 51, 52, 53, 54, 55, 56, 57, 58, 59, 60, 61, 62, 63, 64, 65, 66, 67, 68, 69, 70, 71, 72, 73, 74, 75, 76] (by decide +kernel) (by decide +kernel)
set_option maxRecDepth 20000 in
theorem gX1_stepBack_X1_restore : GoodIn wsX1_stepBack (wsV RX1 35 RX1 yX1_restore wsX1_restore) := goodIn_app (goodIn_of _ (by decide +kernel)) ggX1_stepBack_X1_restore
theorem dX1_stepBack_0 : decode cX1_stepBack 0 = .ok (.aload_n 0, 1) := by decide +kernel
theorem dX1_stepBack_1 : decode cX1_stepBack 1 = .ok (.getfield 18, 3) := by decide +kernel
theorem dX1_stepBack_4 : decode cX1_stepBack 4 = .ok (.ifCond .ne 6, 3) := by decide +kernel
theorem dX1_stepBack_7 : decode cX1_stepBack 7 = .ok (.bipush (-2), 2) := by decide +kernel
theorem dX1_stepBack_9 : decode cX1_stepBack 9 = .ok (.ireturn, 1) := by decide +kernel
theorem dX1_stepBack_10 : decode cX1_stepBack 10 = .ok (.aload_n 0, 1) := by decide +kernel
theorem dX1_stepBack_11 : decode cX1_stepBack 11 = .ok (.aload_n 0, 1) := by decide +kernel
theorem dX1_stepBack_12 : decode cX1_stepBack 12 = .ok (.getfield 22, 3) := by decide +kernel
theorem dX1_stepBack_15 : decode cX1_stepBack 15 = .ok (.bipush 6, 2) := by decide +kernel
theorem dX1_stepBack_17 : decode cX1_stepBack 17 = .ok (.iadd, 1) := by decide +kernel
theorem dX1_stepBack_18 : decode cX1_stepBack 18 = .ok (.iconst 1, 1) := by decide +kernel
theorem dX1_stepBack_19 : decode cX1_stepBack 19 = .ok (.isub, 1) := by decide +kernel
theorem dX1_stepBack_20 : decode cX1_stepBack 20 = .ok (.bipush 6, 2) := by decide +kernel
theorem dX1_stepBack_22 : decode cX1_stepBack 22 = .ok (.irem, 1) := by decide +kernel
theorem dX1_stepBack_23 : decode cX1_stepBack 23 = .ok (.putfield 22, 3) := by decide +kernel
theorem dX1_stepBack_26 : decode cX1_stepBack 26 = .ok (.aload_n 0, 1) := by decide +kernel
theorem dX1_stepBack_27 : decode cX1_stepBack 27 = .ok (.dup, 1) := by decide +kernel
theorem dX1_stepBack_28 : decode cX1_stepBack 28 = .ok (.getfield 18, 3) := by decide +kernel
theorem dX1_stepBack_31 : decode cX1_stepBack 31 = .ok (.iconst 1, 1) := by decide +kernel
theorem dX1_stepBack_32 : decode cX1_stepBack 32 = .ok (.isub, 1) := by decide +kernel
theorem dX1_stepBack_33 : decode cX1_stepBack 33 = .ok (.putfield 18, 3) := by decide +kernel
theorem dX1_stepBack_36 : decode cX1_stepBack 36 = .ok (.aload_n 0, 1) := by decide +kernel
theorem dX1_stepBack_37 : decode cX1_stepBack 37 = .ok (.aload_n 1, 1) := by decide +kernel
theorem dX1_stepBack_38 : decode cX1_stepBack 38 = .ok (.invokevirtual 35, 3) := by decide +kernel
theorem dX1_stepBack_41 : decode cX1_stepBack 41 = .ok (.aload_n 0, 1) := by decide +kernel
theorem dX1_stepBack_42 : decode cX1_stepBack 42 = .ok (.getfield 18, 3) := by decide +kernel
theorem dX1_stepBack_45 : decode cX1_stepBack 45 = .ok (.ireturn, 1) := by decide +kernel
theorem dX2_init_0 : decode cX2_init 0 = .ok (.aload_n 0, 1) := by decide +kernel
theorem dX2_init_1 : decode cX2_init 1 = .ok (.invokespecial 3, 3) := by decide +kernel
theorem dX2_init_4 : decode cX2_init 4 = .ok (.aload_n 0, 1) := by decide +kernel
theorem dX2_init_5 : decode cX2_init 5 = .ok (.iconst 1, 1) := by decide +kernel
theorem dX2_init_6 : decode cX2_init 6 = .ok (.putfield 9, 3) := by decide +kernel
theorem dX2_init_9 : decode cX2_init 9 = .ok (.aload_n 0, 1) := by decide +kernel
theorem dX2_init_10 : decode cX2_init 10 = .ok (.bipush 60, 2) := by decide +kernel
theorem dX2_init_12 : decode cX2_init 12 = .ok (.newarray .int, 2) := by decide +kernel
theorem dX2_init_14 : decode cX2_init 14 = .ok (.putfield 15, 3) := by decide +kernel
theorem dX2_init_17 : decode cX2_init 17 = .ok (.aload_n 0, 1) := by decide +kernel
theorem dX2_init_18 : decode cX2_init 18 = .ok (.bipush 60, 2) := by decide +kernel
theorem dX2_init_20 : decode cX2_init 20 = .ok (.newarray .int, 2) := by decide +kernel
theorem dX2_init_22 : decode cX2_init 22 = .ok (.putfield 19, 3) := by decide +kernel
theorem dX2_init_25 : decode cX2_init 25 = .ok (.aload_n 0, 1) := by decide +kernel
theorem dX2_init_26 : decode cX2_init 26 = .ok (.bipush 60, 2) := by decide +kernel
theorem dX2_init_28 : decode cX2_init 28 = .ok (.newarray .int, 2) := by decide +kernel
theorem dX2_init_30 : decode cX2_init 30 = .ok (.putfield 22, 3) := by decide +kernel
theorem dX2_init_33 : decode cX2_init 33 = .ok (.aload_n 0, 1) := by decide +kernel
theorem dX2_init_34 : decode cX2_init 34 = .ok (.bipush 60, 2) := by decide +kernel
theorem dX2_init_36 : decode cX2_init 36 = .ok (.newarray .int, 2) := by decide +kernel
theorem dX2_init_38 : decode cX2_init 38 = .ok (.putfield 25, 3) := by decide +kernel
theorem dX2_init_41 : decode cX2_init 41 = .ok (.aload_n 0, 1) := by decide +kernel
theorem dX2_init_42 : decode cX2_init 42 = .ok (.bipush 60, 2) := by decide +kernel
theorem dX2_init_44 : decode cX2_init 44 = .ok (.newarray .int, 2) := by decide +kernel
theorem dX2_init_46 : decode cX2_init 46 = .ok (.putfield 28, 3) := by decide +kernel
theorem dX2_init_49 : decode cX2_init 49 = .ok (.return_, 1) := by decide +kernel
theorem dX2_after_0 : decode cX2_after 0 = .ok (.iload_n 0, 1) := by decide +kernel
theorem dX2_after_1 : decode cX2_after 1 = .ok (.sipush 25173, 3) := by decide +kernel
theorem dX2_after_4 : decode cX2_after 4 = .ok (.imul, 1) := by decide +kernel
theorem dX2_after_5 : decode cX2_after 5 = .ok (.sipush 13849, 3) := by decide +kernel
theorem dX2_after_8 : decode cX2_after 8 = .ok (.iadd, 1) := by decide +kernel
theorem dX2_after_9 : decode cX2_after 9 = .ok (.ldc 31, 2) := by decide +kernel
theorem dX2_after_11 : decode cX2_after 11 = .ok (.irem, 1) := by decide +kernel
theorem dX2_after_12 : decode cX2_after 12 = .ok (.ireturn, 1) := by decide +kernel
theorem dX2_copyFrom_0 : decode cX2_copyFrom 0 = .ok (.aload_n 0, 1) := by decide +kernel
theorem dX2_copyFrom_1 : decode cX2_copyFrom 1 = .ok (.aload_n 1, 1) := by decide +kernel
theorem dX2_copyFrom_2 : decode cX2_copyFrom 2 = .ok (.getfield 9, 3) := by decide +kernel
theorem dX2_copyFrom_5 : decode cX2_copyFrom 5 = .ok (.putfield 9, 3) := by decide +kernel
theorem dX2_copyFrom_8 : decode cX2_copyFrom 8 = .ok (.aload_n 0, 1) := by decide +kernel
theorem dX2_copyFrom_9 : decode cX2_copyFrom 9 = .ok (.aload_n 1, 1) := by decide +kernel
theorem dX2_copyFrom_10 : decode cX2_copyFrom 10 = .ok (.getfield 32, 3) := by decide +kernel
theorem dX2_copyFrom_13 : decode cX2_copyFrom 13 = .ok (.putfield 32, 3) := by decide +kernel
theorem dX2_copyFrom_16 : decode cX2_copyFrom 16 = .ok (.aload_n 1, 1) := by decide +kernel
theorem dX2_copyFrom_17 : decode cX2_copyFrom 17 = .ok (.getfield 15, 3) := by decide +kernel
theorem dX2_copyFrom_20 : decode cX2_copyFrom 20 = .ok (.iconst 0, 1) := by decide +kernel
theorem dX2_copyFrom_21 : decode cX2_copyFrom 21 = .ok (.aload_n 0, 1) := by decide +kernel
theorem dX2_copyFrom_22 : decode cX2_copyFrom 22 = .ok (.getfield 15, 3) := by decide +kernel
theorem dX2_copyFrom_25 : decode cX2_copyFrom 25 = .ok (.iconst 0, 1) := by decide +kernel
theorem dX2_copyFrom_26 : decode cX2_copyFrom 26 = .ok (.bipush 60, 2) := by decide +kernel
theorem dX2_copyFrom_28 : decode cX2_copyFrom 28 = .ok (.invokestatic 35, 3) := by decide +kernel
theorem dX2_copyFrom_31 : decode cX2_copyFrom 31 = .ok (.aload_n 1, 1) := by decide +kernel
theorem dX2_copyFrom_32 : decode cX2_copyFrom 32 = .ok (.getfield 19, 3) := by decide +kernel
theorem dX2_copyFrom_35 : decode cX2_copyFrom 35 = .ok (.iconst 0, 1) := by decide +kernel
theorem dX2_copyFrom_36 : decode cX2_copyFrom 36 = .ok (.aload_n 0, 1) := by decide +kernel
theorem dX2_copyFrom_37 : decode cX2_copyFrom 37 = .ok (.getfield 19, 3) := by decide +kernel
theorem dX2_copyFrom_40 : decode cX2_copyFrom 40 = .ok (.iconst 0, 1) := by decide +kernel
theorem dX2_copyFrom_41 : decode cX2_copyFrom 41 = .ok (.bipush 60, 2) := by decide +kernel
theorem dX2_copyFrom_43 : decode cX2_copyFrom 43 = .ok (.invokestatic 35, 3) := by decide +kernel
theorem dX2_copyFrom_46 : decode cX2_copyFrom 46 = .ok (.aload_n 1, 1) := by decide +kernel
theorem dX2_copyFrom_47 : decode cX2_copyFrom 47 = .ok (.getfield 22, 3) := by decide +kernel
theorem dX2_copyFrom_50 : decode cX2_copyFrom 50 = .ok (.iconst 0, 1) := by decide +kernel
theorem dX2_copyFrom_51 : decode cX2_copyFrom 51 = .ok (.aload_n 0, 1) := by decide +kernel
theorem dX2_copyFrom_52 : decode cX2_copyFrom 52 = .ok (.getfield 22, 3) := by decide +kernel
theorem dX2_copyFrom_55 : decode cX2_copyFrom 55 = .ok (.iconst 0, 1) := by decide +kernel
theorem dX2_copyFrom_56 : decode cX2_copyFrom 56 = .ok (.bipush 60, 2) := by decide +kernel
theorem dX2_copyFrom_58 : decode cX2_copyFrom 58 = .ok (.invokestatic 35, 3) := by decide +kernel
theorem dX2_copyFrom_61 : decode cX2_copyFrom 61 = .ok (.aload_n 1, 1) := by decide +kernel
theorem dX2_copyFrom_62 : decode cX2_copyFrom 62 = .ok (.getfield 25, 3) := by decide +kernel
theorem dX2_copyFrom_65 : decode cX2_copyFrom 65 = .ok (.iconst 0, 1) := by decide +kernel
theorem dX2_copyFrom_66 : decode cX2_copyFrom 66 = .ok (.aload_n 0, 1) := by decide +kernel
theorem dX2_copyFrom_67 : decode cX2_copyFrom 67 = .ok (.getfield 25, 3) := by decide +kernel
theorem dX2_copyFrom_70 : decode cX2_copyFrom 70 = .ok (.iconst 0, 1) := by decide +kernel
theorem dX2_copyFrom_71 : decode cX2_copyFrom 71 = .ok (.bipush 60, 2) := by decide +kernel
theorem dX2_copyFrom_73 : decode cX2_copyFrom 73 = .ok (.invokestatic 35, 3) := by decide +kernel
theorem dX2_copyFrom_76 : decode cX2_copyFrom 76 = .ok (.aload_n 1, 1) := by decide +kernel
theorem dX2_copyFrom_77 : decode cX2_copyFrom 77 = .ok (.getfield 28, 3) := by decide +kernel
theorem dX2_copyFrom_80 : decode cX2_copyFrom 80 = .ok (.iconst 0, 1) := by decide +kernel
theorem dX2_copyFrom_81 : decode cX2_copyFrom 81 = .ok (.aload_n 0, 1) := by decide +kernel
theorem dX2_copyFrom_82 : decode cX2_copyFrom 82 = .ok (.getfield 28, 3) := by decide +kernel
theorem dX2_copyFrom_85 : decode cX2_copyFrom 85 = .ok (.iconst 0, 1) := by decide +kernel
theorem dX2_copyFrom_86 : decode cX2_copyFrom 86 = .ok (.bipush 60, 2) := by decide +kernel
theorem dX2_copyFrom_88 : decode cX2_copyFrom 88 = .ok (.invokestatic 35, 3) := by decide +kernel
theorem dX2_copyFrom_91 : decode cX2_copyFrom 91 = .ok (.return_, 1) := by decide +kernel
theorem dX2_state_0 : decode cX2_state 0 = .ok (.aload_n 0, 1) := by decide +kernel
theorem dX2_state_1 : decode cX2_state 1 = .ok (.getfield 9, 3) := by decide +kernel
theorem dX2_state_4 : decode cX2_state 4 = .ok (.ireturn, 1) := by decide +kernel
theorem dX2_setState_0 : decode cX2_setState 0 = .ok (.aload_n 0, 1) := by decide +kernel
theorem dX2_setState_1 : decode cX2_setState 1 = .ok (.getfield 9, 3) := by decide +kernel
theorem dX2_setState_4 : decode cX2_setState 4 = .ok (.istore_n 2, 1) := by decide +kernel
theorem dX2_setState_5 : decode cX2_setState 5 = .ok (.aload_n 0, 1) := by decide +kernel
theorem dX2_setState_6 : decode cX2_setState 6 = .ok (.iload_n 1, 1) := by decide +kernel
theorem dX2_setState_7 : decode cX2_setState 7 = .ok (.putfield 9, 3) := by decide +kernel
theorem dX2_setState_10 : decode cX2_setState 10 = .ok (.iload_n 2, 1) := by decide +kernel
theorem dX2_setState_11 : decode cX2_setState 11 = .ok (.ireturn, 1) := by decide +kernel
theorem dX2_draws_0 : decode cX2_draws 0 = .ok (.aload_n 0, 1) := by decide +kernel
theorem dX2_draws_1 : decode cX2_draws 1 = .ok (.getfield 32, 3) := by decide +kernel
theorem dX2_draws_4 : decode cX2_draws 4 = .ok (.ireturn, 1) := by decide +kernel
set_option maxRecDepth 20000 in
theorem ggX2_write_X2_after : GoodIn wsX2_write wsX2_after := goodIn_r _ [11, 12] (by decide +kernel) (by decide +kernel)
set_option maxRecDepth 20000 in
theorem gX2_write_X2_after : GoodIn wsX2_write (va_wsS RX2 41 yX2_after wsX2_after) := goodIn_app (goodIn_of _ (by decide +kernel)) ggX2_write_X2_after
theorem dX2_write_0 : decode cX2_write 0 = .ok (.aload_n 0, 1) := by decide +kernel
theorem dX2_write_1 : decode cX2_write 1 = .ok (.getfield 32, 3) := by decide +kernel
theorem dX2_write_4 : decode cX2_write 4 = .ok (.bipush 60, 2) := by decide +kernel
theorem dX2_write_6 : decode cX2_write 6 = .ok (.if_icmp .lt 4, 3) := by decide +kernel
theorem dX2_write_9 : decode cX2_write 9 = .ok (.return_, 1) := by decide +kernel
theorem dX2_write_10 : decode cX2_write 10 = .ok (.aload_n 0, 1) := by decide +kernel
theorem dX2_write_11 : decode cX2_write 11 = .ok (.getfield 15, 3) := by decide +kernel
theorem dX2_write_14 : decode cX2_write 14 = .ok (.aload_n 0, 1) := by decide +kernel
theorem dX2_write_15 : decode cX2_write 15 = .ok (.getfield 32, 3) := by decide +kernel
theorem dX2_write_18 : decode cX2_write 18 = .ok (.aload_n 0, 1) := by decide +kernel
theorem dX2_write_19 : decode cX2_write 19 = .ok (.getfield 9, 3) := by decide +kernel
theorem dX2_write_22 : decode cX2_write 22 = .ok (.iastore, 1) := by decide +kernel
theorem dX2_write_23 : decode cX2_write 23 = .ok (.aload_n 0, 1) := by decide +kernel
theorem dX2_write_24 : decode cX2_write 24 = .ok (.getfield 19, 3) := by decide +kernel
theorem dX2_write_27 : decode cX2_write 27 = .ok (.aload_n 0, 1) := by decide +kernel
theorem dX2_write_28 : decode cX2_write 28 = .ok (.getfield 32, 3) := by decide +kernel
theorem dX2_write_31 : decode cX2_write 31 = .ok (.iload_n 1, 1) := by decide +kernel
theorem dX2_write_32 : decode cX2_write 32 = .ok (.iastore, 1) := by decide +kernel
theorem dX2_write_33 : decode cX2_write 33 = .ok (.aload_n 0, 1) := by decide +kernel
theorem dX2_write_34 : decode cX2_write 34 = .ok (.getfield 22, 3) := by decide +kernel
theorem dX2_write_37 : decode cX2_write 37 = .ok (.aload_n 0, 1) := by decide +kernel
theorem dX2_write_38 : decode cX2_write 38 = .ok (.getfield 32, 3) := by decide +kernel
theorem dX2_write_41 : decode cX2_write 41 = .ok (.iload_n 2, 1) := by decide +kernel
theorem dX2_write_42 : decode cX2_write 42 = .ok (.iastore, 1) := by decide +kernel
theorem dX2_write_43 : decode cX2_write 43 = .ok (.aload_n 0, 1) := by decide +kernel
theorem dX2_write_44 : decode cX2_write 44 = .ok (.getfield 25, 3) := by decide +kernel
theorem dX2_write_47 : decode cX2_write 47 = .ok (.aload_n 0, 1) := by decide +kernel
theorem dX2_write_48 : decode cX2_write 48 = .ok (.getfield 32, 3) := by decide +kernel
theorem dX2_write_51 : decode cX2_write 51 = .ok (.iload_n 2, 1) := by decide +kernel
theorem dX2_write_52 : decode cX2_write 52 = .ok (.iastore, 1) := by decide +kernel
theorem dX2_write_53 : decode cX2_write 53 = .ok (.aload_n 0, 1) := by decide +kernel
theorem dX2_write_54 : decode cX2_write 54 = .ok (.getfield 28, 3) := by decide +kernel
theorem dX2_write_57 : decode cX2_write 57 = .ok (.aload_n 0, 1) := by decide +kernel
theorem dX2_write_58 : decode cX2_write 58 = .ok (.getfield 32, 3) := by decide +kernel
theorem dX2_write_61 : decode cX2_write 61 = .ok (.iload_n 3, 1) := by decide +kernel
theorem dX2_write_62 : decode cX2_write 62 = .ok (.iastore, 1) := by decide +kernel
theorem dX2_write_63 : decode cX2_write 63 = .ok (.aload_n 0, 1) := by decide +kernel
theorem dX2_write_64 : decode cX2_write 64 = .ok (.dup, 1) := by decide +kernel
theorem dX2_write_65 : decode cX2_write 65 = .ok (.getfield 32, 3) := by decide +kernel
theorem dX2_write_68 : decode cX2_write 68 = .ok (.iconst 1, 1) := by decide +kernel
theorem dX2_write_69 : decode cX2_write 69 = .ok (.iadd, 1) := by decide +kernel
theorem dX2_write_70 : decode cX2_write 70 = .ok (.putfield 32, 3) := by decide +kernel
theorem dX2_write_73 : decode cX2_write 73 = .ok (.aload_n 0, 1) := by decide +kernel
theorem dX2_write_74 : decode cX2_write 74 = .ok (.aload_n 0, 1) := by decide +kernel
theorem dX2_write_75 : decode cX2_write 75 = .ok (.getfield 9, 3) := by decide +kernel
theorem dX2_write_78 : decode cX2_write 78 = .ok (.invokestatic 41, 3) := by decide +kernel
theorem dX2_write_81 : decode cX2_write 81 = .ok (.putfield 9, 3) := by decide +kernel
theorem dX2_write_84 : decode cX2_write 84 = .ok (.return_, 1) := by decide +kernel
theorem dX2_forgeLast_0 : decode cX2_forgeLast 0 = .ok (.aload_n 0, 1) := by decide +kernel
theorem dX2_forgeLast_1 : decode cX2_forgeLast 1 = .ok (.getfield 32, 3) := by decide +kernel
theorem dX2_forgeLast_4 : decode cX2_forgeLast 4 = .ok (.ifCond .le 15, 3) := by decide +kernel
theorem dX2_forgeLast_7 : decode cX2_forgeLast 7 = .ok (.aload_n 0, 1) := by decide +kernel
theorem dX2_forgeLast_8 : decode cX2_forgeLast 8 = .ok (.getfield 25, 3) := by decide +kernel
theorem dX2_forgeLast_11 : decode cX2_forgeLast 11 = .ok (.aload_n 0, 1) := by decide +kernel
theorem dX2_forgeLast_12 : decode cX2_forgeLast 12 = .ok (.getfield 32, 3) := by decide +kernel
theorem dX2_forgeLast_15 : decode cX2_forgeLast 15 = .ok (.iconst 1, 1) := by decide +kernel
theorem dX2_forgeLast_16 : decode cX2_forgeLast 16 = .ok (.isub, 1) := by decide +kernel
theorem dX2_forgeLast_17 : decode cX2_forgeLast 17 = .ok (.iload_n 1, 1) := by decide +kernel
theorem dX2_forgeLast_18 : decode cX2_forgeLast 18 = .ok (.iastore, 1) := by decide +kernel
theorem dX2_forgeLast_19 : decode cX2_forgeLast 19 = .ok (.return_, 1) := by decide +kernel
theorem dX2_lastSeat_0 : decode cX2_lastSeat 0 = .ok (.aload_n 0, 1) := by decide +kernel
theorem dX2_lastSeat_1 : decode cX2_lastSeat 1 = .ok (.getfield 32, 3) := by decide +kernel
theorem dX2_lastSeat_4 : decode cX2_lastSeat 4 = .ok (.ifCond .le 17, 3) := by decide +kernel
theorem dX2_lastSeat_7 : decode cX2_lastSeat 7 = .ok (.aload_n 0, 1) := by decide +kernel
theorem dX2_lastSeat_8 : decode cX2_lastSeat 8 = .ok (.getfield 28, 3) := by decide +kernel
theorem dX2_lastSeat_11 : decode cX2_lastSeat 11 = .ok (.aload_n 0, 1) := by decide +kernel
theorem dX2_lastSeat_12 : decode cX2_lastSeat 12 = .ok (.getfield 32, 3) := by decide +kernel
theorem dX2_lastSeat_15 : decode cX2_lastSeat 15 = .ok (.iconst 1, 1) := by decide +kernel
theorem dX2_lastSeat_16 : decode cX2_lastSeat 16 = .ok (.isub, 1) := by decide +kernel
theorem dX2_lastSeat_17 : decode cX2_lastSeat 17 = .ok (.iaload, 1) := by decide +kernel
theorem dX2_lastSeat_18 : decode cX2_lastSeat 18 = .ok (.goto 5, 3) := by decide +kernel
theorem dX2_lastSeat_21 : decode cX2_lastSeat 21 = .ok (.bipush (-9), 2) := by decide +kernel
theorem dX2_lastSeat_23 : decode cX2_lastSeat 23 = .ok (.ireturn, 1) := by decide +kernel
set_option maxRecDepth 20000 in
theorem ggX2_forgedDraws_X2_isForged : GoodIn wsX2_forgedDraws wsX2_isForged := goodIn_r _ [6, 1, 7, 8, 9, 10, 11, 12, 13, 14, 15] (by decide +kernel) (by decide +kernel)
set_option maxRecDepth 20000 in
theorem gX2_forgedDraws_X2_isForged : GoodIn wsX2_forgedDraws (wsV RX2 45 RX2 yX2_isForged wsX2_isForged) := goodIn_app (goodIn_of _ (by decide +kernel)) ggX2_forgedDraws_X2_isForged
theorem dX2_forgedDraws_0 : decode cX2_forgedDraws 0 = .ok (.iconst 0, 1) := by decide +kernel
theorem dX2_forgedDraws_1 : decode cX2_forgedDraws 1 = .ok (.istore_n 1, 1) := by decide +kernel
theorem dX2_forgedDraws_2 : decode cX2_forgedDraws 2 = .ok (.iconst 0, 1) := by decide +kernel
theorem dX2_forgedDraws_3 : decode cX2_forgedDraws 3 = .ok (.istore_n 2, 1) := by decide +kernel
theorem dX2_forgedDraws_4 : decode cX2_forgedDraws 4 = .ok (.iload_n 2, 1) := by decide +kernel
theorem dX2_forgedDraws_5 : decode cX2_forgedDraws 5 = .ok (.aload_n 0, 1) := by decide +kernel
theorem dX2_forgedDraws_6 : decode cX2_forgedDraws 6 = .ok (.getfield 32, 3) := by decide +kernel
theorem dX2_forgedDraws_9 : decode cX2_forgedDraws 9 = .ok (.if_icmp .ge 20, 3) := by decide +kernel
theorem dX2_forgedDraws_12 : decode cX2_forgedDraws 12 = .ok (.aload_n 0, 1) := by decide +kernel
theorem dX2_forgedDraws_13 : decode cX2_forgedDraws 13 = .ok (.iload_n 2, 1) := by decide +kernel
theorem dX2_forgedDraws_14 : decode cX2_forgedDraws 14 = .ok (.invokevirtual 45, 3) := by decide +kernel
theorem dX2_forgedDraws_17 : decode cX2_forgedDraws 17 = .ok (.ifCond .eq 6, 3) := by decide +kernel
theorem dX2_forgedDraws_20 : decode cX2_forgedDraws 20 = .ok (.iinc 1 1, 3) := by decide +kernel
theorem dX2_forgedDraws_23 : decode cX2_forgedDraws 23 = .ok (.iinc 2 1, 3) := by decide +kernel
theorem dX2_forgedDraws_26 : decode cX2_forgedDraws 26 = .ok (.goto (-22), 3) := by decide +kernel
theorem dX2_forgedDraws_29 : decode cX2_forgedDraws 29 = .ok (.iload_n 1, 1) := by decide +kernel
theorem dX2_forgedDraws_30 : decode cX2_forgedDraws 30 = .ok (.ireturn, 1) := by decide +kernel
theorem dX2_drawsOf_0 : decode cX2_drawsOf 0 = .ok (.iconst 0, 1) := by decide +kernel
theorem dX2_drawsOf_1 : decode cX2_drawsOf 1 = .ok (.istore_n 2, 1) := by decide +kernel
theorem dX2_drawsOf_2 : decode cX2_drawsOf 2 = .ok (.iconst 0, 1) := by decide +kernel
theorem dX2_drawsOf_3 : decode cX2_drawsOf 3 = .ok (.istore_n 3, 1) := by decide +kernel
theorem dX2_drawsOf_4 : decode cX2_drawsOf 4 = .ok (.iload_n 3, 1) := by decide +kernel
theorem dX2_drawsOf_5 : decode cX2_drawsOf 5 = .ok (.aload_n 0, 1) := by decide +kernel
theorem dX2_drawsOf_6 : decode cX2_drawsOf 6 = .ok (.getfield 32, 3) := by decide +kernel
theorem dX2_drawsOf_9 : decode cX2_drawsOf 9 = .ok (.if_icmp .ge 22, 3) := by decide +kernel
theorem dX2_drawsOf_12 : decode cX2_drawsOf 12 = .ok (.aload_n 0, 1) := by decide +kernel
theorem dX2_drawsOf_13 : decode cX2_drawsOf 13 = .ok (.getfield 25, 3) := by decide +kernel
theorem dX2_drawsOf_16 : decode cX2_drawsOf 16 = .ok (.iload_n 3, 1) := by decide +kernel
theorem dX2_drawsOf_17 : decode cX2_drawsOf 17 = .ok (.iaload, 1) := by decide +kernel
theorem dX2_drawsOf_18 : decode cX2_drawsOf 18 = .ok (.iload_n 1, 1) := by decide +kernel
theorem dX2_drawsOf_19 : decode cX2_drawsOf 19 = .ok (.if_icmp .ne 6, 3) := by decide +kernel
theorem dX2_drawsOf_22 : decode cX2_drawsOf 22 = .ok (.iinc 2 1, 3) := by decide +kernel
theorem dX2_drawsOf_25 : decode cX2_drawsOf 25 = .ok (.iinc 3 1, 3) := by decide +kernel
theorem dX2_drawsOf_28 : decode cX2_drawsOf 28 = .ok (.goto (-24), 3) := by decide +kernel
theorem dX2_drawsOf_31 : decode cX2_drawsOf 31 = .ok (.iload_n 2, 1) := by decide +kernel
theorem dX2_drawsOf_32 : decode cX2_drawsOf 32 = .ok (.ireturn, 1) := by decide +kernel
set_option maxRecDepth 20000 in
theorem ggX2_about_X2_isForged : GoodIn wsX2_about wsX2_isForged := goodIn_r _ [10, 1, 4, 11, 12, 13, 14, 15, 16, 17, 18] (by decide +kernel) (by decide +kernel)
set_option maxRecDepth 20000 in
theorem gX2_about_X2_isForged : GoodIn wsX2_about (wsV RX2 45 RX2 yX2_isForged wsX2_isForged) := goodIn_app (goodIn_of _ (by decide +kernel)) ggX2_about_X2_isForged
theorem dX2_about_0 : decode cX2_about 0 = .ok (.iload_n 1, 1) := by decide +kernel
theorem dX2_about_1 : decode cX2_about 1 = .ok (.ifCond .lt 11, 3) := by decide +kernel
theorem dX2_about_4 : decode cX2_about 4 = .ok (.iload_n 1, 1) := by decide +kernel
theorem dX2_about_5 : decode cX2_about 5 = .ok (.aload_n 0, 1) := by decide +kernel
theorem dX2_about_6 : decode cX2_about 6 = .ok (.getfield 32, 3) := by decide +kernel
theorem dX2_about_9 : decode cX2_about 9 = .ok (.if_icmp .lt 5, 3) := by decide +kernel
theorem dX2_about_12 : decode cX2_about 12 = .ok (.iconst (-1), 1) := by decide +kernel
theorem dX2_about_13 : decode cX2_about 13 = .ok (.ireturn, 1) := by decide +kernel
theorem dX2_about_14 : decode cX2_about 14 = .ok (.iload_n 2, 1) := by decide +kernel
theorem dX2_about_15 : decode cX2_about 15 = .ok (.tableswitch 75 0 4 #[33, 40, 47, 54, 68], 33) := by decide +kernel
theorem dX2_about_48 : decode cX2_about 48 = .ok (.aload_n 0, 1) := by decide +kernel
theorem dX2_about_49 : decode cX2_about 49 = .ok (.getfield 15, 3) := by decide +kernel
theorem dX2_about_52 : decode cX2_about 52 = .ok (.iload_n 1, 1) := by decide +kernel
theorem dX2_about_53 : decode cX2_about 53 = .ok (.iaload, 1) := by decide +kernel
theorem dX2_about_54 : decode cX2_about 54 = .ok (.ireturn, 1) := by decide +kernel
theorem dX2_about_55 : decode cX2_about 55 = .ok (.aload_n 0, 1) := by decide +kernel
theorem dX2_about_56 : decode cX2_about 56 = .ok (.getfield 19, 3) := by decide +kernel
theorem dX2_about_59 : decode cX2_about 59 = .ok (.iload_n 1, 1) := by decide +kernel
theorem dX2_about_60 : decode cX2_about 60 = .ok (.iaload, 1) := by decide +kernel
theorem dX2_about_61 : decode cX2_about 61 = .ok (.ireturn, 1) := by decide +kernel
theorem dX2_about_62 : decode cX2_about 62 = .ok (.aload_n 0, 1) := by decide +kernel
theorem dX2_about_63 : decode cX2_about 63 = .ok (.getfield 25, 3) := by decide +kernel
theorem dX2_about_66 : decode cX2_about 66 = .ok (.iload_n 1, 1) := by decide +kernel
theorem dX2_about_67 : decode cX2_about 67 = .ok (.iaload, 1) := by decide +kernel
theorem dX2_about_68 : decode cX2_about 68 = .ok (.ireturn, 1) := by decide +kernel
theorem dX2_about_69 : decode cX2_about 69 = .ok (.aload_n 0, 1) := by decide +kernel
theorem dX2_about_70 : decode cX2_about 70 = .ok (.iload_n 1, 1) := by decide +kernel
theorem dX2_about_71 : decode cX2_about 71 = .ok (.invokevirtual 45, 3) := by decide +kernel
theorem dX2_about_74 : decode cX2_about 74 = .ok (.ifCond .eq 7, 3) := by decide +kernel
theorem dX2_about_77 : decode cX2_about 77 = .ok (.iconst 1, 1) := by decide +kernel
theorem dX2_about_78 : decode cX2_about 78 = .ok (.goto 4, 3) := by decide +kernel
theorem dX2_about_81 : decode cX2_about 81 = .ok (.iconst 0, 1) := by decide +kernel
theorem dX2_about_82 : decode cX2_about 82 = .ok (.ireturn, 1) := by decide +kernel
theorem dX2_about_83 : decode cX2_about 83 = .ok (.aload_n 0, 1) := by decide +kernel
theorem dX2_about_84 : decode cX2_about 84 = .ok (.getfield 28, 3) := by decide +kernel
theorem dX2_about_87 : decode cX2_about 87 = .ok (.iload_n 1, 1) := by decide +kernel
theorem dX2_about_88 : decode cX2_about 88 = .ok (.iaload, 1) := by decide +kernel
theorem dX2_about_89 : decode cX2_about 89 = .ok (.ireturn, 1) := by decide +kernel
theorem dX2_about_90 : decode cX2_about 90 = .ok (.iconst (-1), 1) := by decide +kernel
theorem dX2_about_91 : decode cX2_about 91 = .ok (.ireturn, 1) := by decide +kernel
theorem dX2_isForged_0 : decode cX2_isForged 0 = .ok (.iload_n 1, 1) := by decide +kernel
theorem dX2_isForged_1 : decode cX2_isForged 1 = .ok (.ifCond .lt 30, 3) := by decide +kernel
theorem dX2_isForged_4 : decode cX2_isForged 4 = .ok (.iload_n 1, 1) := by decide +kernel
theorem dX2_isForged_5 : decode cX2_isForged 5 = .ok (.aload_n 0, 1) := by decide +kernel
theorem dX2_isForged_6 : decode cX2_isForged 6 = .ok (.getfield 32, 3) := by decide +kernel
theorem dX2_isForged_9 : decode cX2_isForged 9 = .ok (.if_icmp .ge 22, 3) := by decide +kernel
theorem dX2_isForged_12 : decode cX2_isForged 12 = .ok (.aload_n 0, 1) := by decide +kernel
theorem dX2_isForged_13 : decode cX2_isForged 13 = .ok (.getfield 25, 3) := by decide +kernel
theorem dX2_isForged_16 : decode cX2_isForged 16 = .ok (.iload_n 1, 1) := by decide +kernel
theorem dX2_isForged_17 : decode cX2_isForged 17 = .ok (.iaload, 1) := by decide +kernel
theorem dX2_isForged_18 : decode cX2_isForged 18 = .ok (.aload_n 0, 1) := by decide +kernel
theorem dX2_isForged_19 : decode cX2_isForged 19 = .ok (.getfield 22, 3) := by decide +kernel
theorem dX2_isForged_22 : decode cX2_isForged 22 = .ok (.iload_n 1, 1) := by decide +kernel
theorem dX2_isForged_23 : decode cX2_isForged 23 = .ok (.iaload, 1) := by decide +kernel
theorem dX2_isForged_24 : decode cX2_isForged 24 = .ok (.if_icmp .eq 7, 3) := by decide +kernel
theorem dX2_isForged_27 : decode cX2_isForged 27 = .ok (.iconst 1, 1) := by decide +kernel
theorem dX2_isForged_28 : decode cX2_isForged 28 = .ok (.goto 4, 3) := by decide +kernel
theorem dX2_isForged_31 : decode cX2_isForged 31 = .ok (.iconst 0, 1) := by decide +kernel
theorem dX2_isForged_32 : decode cX2_isForged 32 = .ok (.ireturn, 1) := by decide +kernel
theorem dX3_init_0 : decode cX3_init 0 = .ok (.aload_n 0, 1) := by decide +kernel
theorem dX3_init_1 : decode cX3_init 1 = .ok (.invokespecial 3, 3) := by decide +kernel
theorem dX3_init_4 : decode cX3_init 4 = .ok (.aload_n 0, 1) := by decide +kernel
theorem dX3_init_5 : decode cX3_init 5 = .ok (.bipush 60, 2) := by decide +kernel
theorem dX3_init_7 : decode cX3_init 7 = .ok (.newarray .int, 2) := by decide +kernel
theorem dX3_init_9 : decode cX3_init 9 = .ok (.putfield 9, 3) := by decide +kernel
theorem dX3_init_12 : decode cX3_init 12 = .ok (.return_, 1) := by decide +kernel
theorem dX3_length_0 : decode cX3_length 0 = .ok (.aload_n 0, 1) := by decide +kernel
theorem dX3_length_1 : decode cX3_length 1 = .ok (.getfield 15, 3) := by decide +kernel
theorem dX3_length_4 : decode cX3_length 4 = .ok (.ireturn, 1) := by decide +kernel
theorem dX3_add_0 : decode cX3_add 0 = .ok (.iload_n 1, 1) := by decide +kernel
theorem dX3_add_1 : decode cX3_add 1 = .ok (.iconst 1, 1) := by decide +kernel
theorem dX3_add_2 : decode cX3_add 2 = .ok (.if_icmp .lt 10, 3) := by decide +kernel
theorem dX3_add_5 : decode cX3_add 5 = .ok (.iload_n 1, 1) := by decide +kernel
theorem dX3_add_6 : decode cX3_add 6 = .ok (.sipush 255, 3) := by decide +kernel
theorem dX3_add_9 : decode cX3_add 9 = .ok (.if_icmp .le 5, 3) := by decide +kernel
theorem dX3_add_12 : decode cX3_add 12 = .ok (.iconst (-1), 1) := by decide +kernel
theorem dX3_add_13 : decode cX3_add 13 = .ok (.ireturn, 1) := by decide +kernel
theorem dX3_add_14 : decode cX3_add 14 = .ok (.aload_n 0, 1) := by decide +kernel
theorem dX3_add_15 : decode cX3_add 15 = .ok (.getfield 15, 3) := by decide +kernel
theorem dX3_add_18 : decode cX3_add 18 = .ok (.bipush 60, 2) := by decide +kernel
theorem dX3_add_20 : decode cX3_add 20 = .ok (.if_icmp .lt 6, 3) := by decide +kernel
theorem dX3_add_23 : decode cX3_add 23 = .ok (.bipush (-3), 2) := by decide +kernel
theorem dX3_add_25 : decode cX3_add 25 = .ok (.ireturn, 1) := by decide +kernel
theorem dX3_add_26 : decode cX3_add 26 = .ok (.aload_n 0, 1) := by decide +kernel
theorem dX3_add_27 : decode cX3_add 27 = .ok (.getfield 9, 3) := by decide +kernel
theorem dX3_add_30 : decode cX3_add 30 = .ok (.aload_n 0, 1) := by decide +kernel
theorem dX3_add_31 : decode cX3_add 31 = .ok (.getfield 15, 3) := by decide +kernel
theorem dX3_add_34 : decode cX3_add 34 = .ok (.iload_n 1, 1) := by decide +kernel
theorem dX3_add_35 : decode cX3_add 35 = .ok (.iastore, 1) := by decide +kernel
theorem dX3_add_36 : decode cX3_add 36 = .ok (.aload_n 0, 1) := by decide +kernel
theorem dX3_add_37 : decode cX3_add 37 = .ok (.dup, 1) := by decide +kernel
theorem dX3_add_38 : decode cX3_add 38 = .ok (.getfield 15, 3) := by decide +kernel
theorem dX3_add_41 : decode cX3_add 41 = .ok (.iconst 1, 1) := by decide +kernel
theorem dX3_add_42 : decode cX3_add 42 = .ok (.iadd, 1) := by decide +kernel
theorem dX3_add_43 : decode cX3_add 43 = .ok (.putfield 15, 3) := by decide +kernel
theorem dX3_add_46 : decode cX3_add 46 = .ok (.aload_n 0, 1) := by decide +kernel
theorem dX3_add_47 : decode cX3_add 47 = .ok (.getfield 15, 3) := by decide +kernel
theorem dX3_add_50 : decode cX3_add 50 = .ok (.ireturn, 1) := by decide +kernel
theorem dX3_clear_0 : decode cX3_clear 0 = .ok (.aload_n 0, 1) := by decide +kernel
theorem dX3_clear_1 : decode cX3_clear 1 = .ok (.getfield 15, 3) := by decide +kernel
theorem dX3_clear_4 : decode cX3_clear 4 = .ok (.istore_n 1, 1) := by decide +kernel
theorem dX3_clear_5 : decode cX3_clear 5 = .ok (.aload_n 0, 1) := by decide +kernel
theorem dX3_clear_6 : decode cX3_clear 6 = .ok (.iconst 0, 1) := by decide +kernel
theorem dX3_clear_7 : decode cX3_clear 7 = .ok (.putfield 15, 3) := by decide +kernel
theorem dX3_clear_10 : decode cX3_clear 10 = .ok (.iload_n 1, 1) := by decide +kernel
theorem dX3_clear_11 : decode cX3_clear 11 = .ok (.ireturn, 1) := by decide +kernel
theorem dX3_place_0 : decode cX3_place 0 = .ok (.aload_n 0, 1) := by decide +kernel
theorem dX3_place_1 : decode cX3_place 1 = .ok (.getfield 19, 3) := by decide +kernel
theorem dX3_place_4 : decode cX3_place 4 = .ok (.ireturn, 1) := by decide +kernel
theorem dX3_rewind_0 : decode cX3_rewind 0 = .ok (.aload_n 0, 1) := by decide +kernel
theorem dX3_rewind_1 : decode cX3_rewind 1 = .ok (.iconst 0, 1) := by decide +kernel
theorem dX3_rewind_2 : decode cX3_rewind 2 = .ok (.putfield 19, 3) := by decide +kernel
theorem dX3_rewind_5 : decode cX3_rewind 5 = .ok (.return_, 1) := by decide +kernel
theorem dX3_isRead_0 : decode cX3_isRead 0 = .ok (.aload_n 0, 1) := by decide +kernel
theorem dX3_isRead_1 : decode cX3_isRead 1 = .ok (.getfield 19, 3) := by decide +kernel
theorem dX3_isRead_4 : decode cX3_isRead 4 = .ok (.aload_n 0, 1) := by decide +kernel
theorem dX3_isRead_5 : decode cX3_isRead 5 = .ok (.getfield 15, 3) := by decide +kernel
theorem dX3_isRead_8 : decode cX3_isRead 8 = .ok (.if_icmp .lt 7, 3) := by decide +kernel
theorem dX3_isRead_11 : decode cX3_isRead 11 = .ok (.iconst 1, 1) := by decide +kernel
theorem dX3_isRead_12 : decode cX3_isRead 12 = .ok (.goto 4, 3) := by decide +kernel
theorem dX3_isRead_15 : decode cX3_isRead 15 = .ok (.iconst 0, 1) := by decide +kernel
theorem dX3_isRead_16 : decode cX3_isRead 16 = .ok (.ireturn, 1) := by decide +kernel
theorem dX3_letter_0 : decode cX3_letter 0 = .ok (.aload_n 0, 1) := by decide +kernel
theorem dX3_letter_1 : decode cX3_letter 1 = .ok (.getfield 22, 3) := by decide +kernel
theorem dX3_letter_4 : decode cX3_letter 4 = .ok (.ireturn, 1) := by decide +kernel
theorem dX3_villagerRead_0 : decode cX3_villagerRead 0 = .ok (.aload_n 0, 1) := by decide +kernel
theorem dX3_villagerRead_1 : decode cX3_villagerRead 1 = .ok (.getfield 25, 3) := by decide +kernel
theorem dX3_villagerRead_4 : decode cX3_villagerRead 4 = .ok (.ireturn, 1) := by decide +kernel
theorem dX3_numberRead_0 : decode cX3_numberRead 0 = .ok (.aload_n 0, 1) := by decide +kernel
theorem dX3_numberRead_1 : decode cX3_numberRead 1 = .ok (.getfield 28, 3) := by decide +kernel
theorem dX3_numberRead_4 : decode cX3_numberRead 4 = .ok (.ireturn, 1) := by decide +kernel
set_option maxRecDepth 20000 in
theorem ggX3_readCommand_X3_next : GoodIn wsX3_readCommand wsX3_next := goodIn_r _ [9, 2, 10, 11, 23, 24, 25, 26, 27, 28] (by decide +kernel) (by decide +kernel)
set_option maxRecDepth 20000 in
theorem gX3_readCommand_X3_next : GoodIn wsX3_readCommand (wsV RX3 31 RX3 yX3_next wsX3_next) := goodIn_app (goodIn_of _ (by decide +kernel)) ggX3_readCommand_X3_next
set_option maxRecDepth 20000 in
theorem ggX3_readCommand_X3_readNumber : GoodIn wsX3_readCommand wsX3_readNumber := goodIn_r _ [15, 2, 5, 6, 7, 8, 9, 10, 11, 16, 17, 18, 23, 24, 25, 26, 27, 28] (by decide +kernel) (by decide +kernel)
set_option maxRecDepth 20000 in
theorem gX3_readCommand_X3_readNumber : GoodIn wsX3_readCommand (wsV RX3 35 RX3 yX3_readNumber wsX3_readNumber) := goodIn_app (goodIn_of _ (by decide +kernel)) ggX3_readCommand_X3_readNumber
set_option maxRecDepth 20000 in
theorem ggX3_readCommand_X3_readSign : GoodIn wsX3_readCommand wsX3_readSign := goodIn_r _ [22, 2, 5, 6, 7, 8, 9, 10, 11, 23, 24, 25, 26, 27, 28] (by decide +kernel) (by decide +kernel)
set_option maxRecDepth 20000 in
theorem gX3_readCommand_X3_readSign : GoodIn wsX3_readCommand (wsV RX3 38 RX3 yX3_readSign wsX3_readSign) := goodIn_app (goodIn_of _ (by decide +kernel)) ggX3_readCommand_X3_readSign
theorem dX3_readCommand_0 : decode cX3_readCommand 0 = .ok (.aload_n 0, 1) := by decide +kernel
theorem dX3_readCommand_1 : decode cX3_readCommand 1 = .ok (.aload_n 0, 1) := by decide +kernel
theorem dX3_readCommand_2 : decode cX3_readCommand 2 = .ok (.invokevirtual 31, 3) := by decide +kernel
theorem dX3_readCommand_5 : decode cX3_readCommand 5 = .ok (.putfield 22, 3) := by decide +kernel
theorem dX3_readCommand_8 : decode cX3_readCommand 8 = .ok (.aload_n 0, 1) := by decide +kernel
theorem dX3_readCommand_9 : decode cX3_readCommand 9 = .ok (.getfield 22, 3) := by decide +kernel
theorem dX3_readCommand_12 : decode cX3_readCommand 12 = .ok (.bipush 112, 2) := by decide +kernel
theorem dX3_readCommand_14 : decode cX3_readCommand 14 = .ok (.if_icmp .eq 12, 3) := by decide +kernel
theorem dX3_readCommand_17 : decode cX3_readCommand 17 = .ok (.aload_n 0, 1) := by decide +kernel
theorem dX3_readCommand_18 : decode cX3_readCommand 18 = .ok (.getfield 22, 3) := by decide +kernel
theorem dX3_readCommand_21 : decode cX3_readCommand 21 = .ok (.bipush 115, 2) := by decide +kernel
theorem dX3_readCommand_23 : decode cX3_readCommand 23 = .ok (.if_icmp .ne 7, 3) := by decide +kernel
theorem dX3_readCommand_26 : decode cX3_readCommand 26 = .ok (.iconst 1, 1) := by decide +kernel
theorem dX3_readCommand_27 : decode cX3_readCommand 27 = .ok (.goto 4, 3) := by decide +kernel
theorem dX3_readCommand_30 : decode cX3_readCommand 30 = .ok (.iconst 0, 1) := by decide +kernel
theorem dX3_readCommand_31 : decode cX3_readCommand 31 = .ok (.istore_n 1, 1) := by decide +kernel
theorem dX3_readCommand_32 : decode cX3_readCommand 32 = .ok (.iload_n 1, 1) := by decide +kernel
theorem dX3_readCommand_33 : decode cX3_readCommand 33 = .ok (.ifCond .ne 32, 3) := by decide +kernel
theorem dX3_readCommand_36 : decode cX3_readCommand 36 = .ok (.aload_n 0, 1) := by decide +kernel
theorem dX3_readCommand_37 : decode cX3_readCommand 37 = .ok (.getfield 22, 3) := by decide +kernel
theorem dX3_readCommand_40 : decode cX3_readCommand 40 = .ok (.bipush 108, 2) := by decide +kernel
theorem dX3_readCommand_42 : decode cX3_readCommand 42 = .ok (.if_icmp .eq 23, 3) := by decide +kernel
theorem dX3_readCommand_45 : decode cX3_readCommand 45 = .ok (.aload_n 0, 1) := by decide +kernel
theorem dX3_readCommand_46 : decode cX3_readCommand 46 = .ok (.getfield 22, 3) := by decide +kernel
theorem dX3_readCommand_49 : decode cX3_readCommand 49 = .ok (.bipush 103, 2) := by decide +kernel
theorem dX3_readCommand_51 : decode cX3_readCommand 51 = .ok (.if_icmp .eq 14, 3) := by decide +kernel
theorem dX3_readCommand_54 : decode cX3_readCommand 54 = .ok (.aload_n 0, 1) := by decide +kernel
theorem dX3_readCommand_55 : decode cX3_readCommand 55 = .ok (.getfield 22, 3) := by decide +kernel
theorem dX3_readCommand_58 : decode cX3_readCommand 58 = .ok (.bipush 98, 2) := by decide +kernel
theorem dX3_readCommand_60 : decode cX3_readCommand 60 = .ok (.if_icmp .eq 5, 3) := by decide +kernel
theorem dX3_readCommand_63 : decode cX3_readCommand 63 = .ok (.iconst 0, 1) := by decide +kernel
theorem dX3_readCommand_64 : decode cX3_readCommand 64 = .ok (.ireturn, 1) := by decide +kernel
theorem dX3_readCommand_65 : decode cX3_readCommand 65 = .ok (.aload_n 0, 1) := by decide +kernel
theorem dX3_readCommand_66 : decode cX3_readCommand 66 = .ok (.dup, 1) := by decide +kernel
theorem dX3_readCommand_67 : decode cX3_readCommand 67 = .ok (.getfield 19, 3) := by decide +kernel
theorem dX3_readCommand_70 : decode cX3_readCommand 70 = .ok (.iconst 1, 1) := by decide +kernel
theorem dX3_readCommand_71 : decode cX3_readCommand 71 = .ok (.iadd, 1) := by decide +kernel
theorem dX3_readCommand_72 : decode cX3_readCommand 72 = .ok (.putfield 19, 3) := by decide +kernel
theorem dX3_readCommand_75 : decode cX3_readCommand 75 = .ok (.aload_n 0, 1) := by decide +kernel
theorem dX3_readCommand_76 : decode cX3_readCommand 76 = .ok (.aload_n 0, 1) := by decide +kernel
theorem dX3_readCommand_77 : decode cX3_readCommand 77 = .ok (.invokevirtual 35, 3) := by decide +kernel
theorem dX3_readCommand_80 : decode cX3_readCommand 80 = .ok (.putfield 25, 3) := by decide +kernel
theorem dX3_readCommand_83 : decode cX3_readCommand 83 = .ok (.aload_n 0, 1) := by decide +kernel
theorem dX3_readCommand_84 : decode cX3_readCommand 84 = .ok (.getfield 25, 3) := by decide +kernel
theorem dX3_readCommand_87 : decode cX3_readCommand 87 = .ok (.bipush (-9), 2) := by decide +kernel
theorem dX3_readCommand_89 : decode cX3_readCommand 89 = .ok (.if_icmp .ne 5, 3) := by decide +kernel
theorem dX3_readCommand_92 : decode cX3_readCommand 92 = .ok (.iconst 0, 1) := by decide +kernel
theorem dX3_readCommand_93 : decode cX3_readCommand 93 = .ok (.ireturn, 1) := by decide +kernel
theorem dX3_readCommand_94 : decode cX3_readCommand 94 = .ok (.aload_n 0, 1) := by decide +kernel
theorem dX3_readCommand_95 : decode cX3_readCommand 95 = .ok (.bipush (-9), 2) := by decide +kernel
theorem dX3_readCommand_97 : decode cX3_readCommand 97 = .ok (.putfield 28, 3) := by decide +kernel
theorem dX3_readCommand_100 : decode cX3_readCommand 100 = .ok (.iload_n 1, 1) := by decide +kernel
theorem dX3_readCommand_101 : decode cX3_readCommand 101 = .ok (.ifCond .eq 33, 3) := by decide +kernel
theorem dX3_readCommand_104 : decode cX3_readCommand 104 = .ok (.aload_n 0, 1) := by decide +kernel
theorem dX3_readCommand_105 : decode cX3_readCommand 105 = .ok (.bipush 58, 2) := by decide +kernel
theorem dX3_readCommand_107 : decode cX3_readCommand 107 = .ok (.invokevirtual 38, 3) := by decide +kernel
theorem dX3_readCommand_110 : decode cX3_readCommand 110 = .ok (.ifCond .ne 5, 3) := by decide +kernel
theorem dX3_readCommand_113 : decode cX3_readCommand 113 = .ok (.iconst 0, 1) := by decide +kernel
theorem dX3_readCommand_114 : decode cX3_readCommand 114 = .ok (.ireturn, 1) := by decide +kernel
theorem dX3_readCommand_115 : decode cX3_readCommand 115 = .ok (.aload_n 0, 1) := by decide +kernel
theorem dX3_readCommand_116 : decode cX3_readCommand 116 = .ok (.aload_n 0, 1) := by decide +kernel
theorem dX3_readCommand_117 : decode cX3_readCommand 117 = .ok (.invokevirtual 35, 3) := by decide +kernel
theorem dX3_readCommand_120 : decode cX3_readCommand 120 = .ok (.putfield 28, 3) := by decide +kernel
theorem dX3_readCommand_123 : decode cX3_readCommand 123 = .ok (.aload_n 0, 1) := by decide +kernel
theorem dX3_readCommand_124 : decode cX3_readCommand 124 = .ok (.getfield 28, 3) := by decide +kernel
theorem dX3_readCommand_127 : decode cX3_readCommand 127 = .ok (.bipush (-9), 2) := by decide +kernel
theorem dX3_readCommand_129 : decode cX3_readCommand 129 = .ok (.if_icmp .ne 5, 3) := by decide +kernel
theorem dX3_readCommand_132 : decode cX3_readCommand 132 = .ok (.iconst 0, 1) := by decide +kernel
theorem dX3_readCommand_133 : decode cX3_readCommand 133 = .ok (.ireturn, 1) := by decide +kernel
theorem dX3_readCommand_134 : decode cX3_readCommand 134 = .ok (.aload_n 0, 1) := by decide +kernel
theorem dX3_readCommand_135 : decode cX3_readCommand 135 = .ok (.bipush 59, 2) := by decide +kernel
theorem dX3_readCommand_137 : decode cX3_readCommand 137 = .ok (.invokevirtual 38, 3) := by decide +kernel
theorem dX3_readCommand_140 : decode cX3_readCommand 140 = .ok (.ireturn, 1) := by decide +kernel
set_option maxRecDepth 20000 in
theorem ggX3_readSign_X3_next : GoodIn wsX3_readSign wsX3_next := goodIn_r _ [6, 1, 7, 8, 9, 10, 11, 12, 13, 14] (by decide +kernel) (by decide +kernel)
set_option maxRecDepth 20000 in
theorem gX3_readSign_X3_next : GoodIn wsX3_readSign (wsV RX3 31 RX3 yX3_next wsX3_next) := goodIn_app (goodIn_of _ (by decide +kernel)) ggX3_readSign_X3_next
theorem dX3_readSign_0 : decode cX3_readSign 0 = .ok (.aload_n 0, 1) := by decide +kernel
theorem dX3_readSign_1 : decode cX3_readSign 1 = .ok (.invokevirtual 31, 3) := by decide +kernel
theorem dX3_readSign_4 : decode cX3_readSign 4 = .ok (.iload_n 1, 1) := by decide +kernel
theorem dX3_readSign_5 : decode cX3_readSign 5 = .ok (.if_icmp .eq 5, 3) := by decide +kernel
theorem dX3_readSign_8 : decode cX3_readSign 8 = .ok (.iconst 0, 1) := by decide +kernel
theorem dX3_readSign_9 : decode cX3_readSign 9 = .ok (.ireturn, 1) := by decide +kernel
theorem dX3_readSign_10 : decode cX3_readSign 10 = .ok (.aload_n 0, 1) := by decide +kernel
theorem dX3_readSign_11 : decode cX3_readSign 11 = .ok (.dup, 1) := by decide +kernel
theorem dX3_readSign_12 : decode cX3_readSign 12 = .ok (.getfield 19, 3) := by decide +kernel
theorem dX3_readSign_15 : decode cX3_readSign 15 = .ok (.iconst 1, 1) := by decide +kernel
theorem dX3_readSign_16 : decode cX3_readSign 16 = .ok (.iadd, 1) := by decide +kernel
theorem dX3_readSign_17 : decode cX3_readSign 17 = .ok (.putfield 19, 3) := by decide +kernel
theorem dX3_readSign_20 : decode cX3_readSign 20 = .ok (.iconst 1, 1) := by decide +kernel
theorem dX3_readSign_21 : decode cX3_readSign 21 = .ok (.ireturn, 1) := by decide +kernel
set_option maxRecDepth 20000 in
theorem ggX3_readNumber_X3_next : GoodIn wsX3_readNumber wsX3_next := goodIn_r _ [6, 1, 7, 8, 12, 13, 14, 15, 16, 17] (by decide +kernel) (by decide +kernel)
set_option maxRecDepth 20000 in
theorem gX3_readNumber_X3_next : GoodIn wsX3_readNumber (wsV RX3 31 RX3 yX3_next wsX3_next) := goodIn_app (goodIn_of _ (by decide +kernel)) ggX3_readNumber_X3_next
set_option maxRecDepth 20000 in
theorem ggX3_readNumber_X3_isDigit : GoodIn wsX3_readNumber wsX3_isDigit := goodIn_r _ [11] (by decide +kernel) (by decide +kernel)
set_option maxRecDepth 20000 in
theorem gX3_readNumber_X3_isDigit : GoodIn wsX3_readNumber (va_wsS RX3 42 yX3_isDigit wsX3_isDigit) := goodIn_app (goodIn_of _ (by decide +kernel)) ggX3_readNumber_X3_isDigit
theorem dX3_readNumber_0 : decode cX3_readNumber 0 = .ok (.aload_n 0, 1) := by decide +kernel
theorem dX3_readNumber_1 : decode cX3_readNumber 1 = .ok (.invokevirtual 31, 3) := by decide +kernel
theorem dX3_readNumber_4 : decode cX3_readNumber 4 = .ok (.invokestatic 42, 3) := by decide +kernel
theorem dX3_readNumber_7 : decode cX3_readNumber 7 = .ok (.ifCond .ne 6, 3) := by decide +kernel
theorem dX3_readNumber_10 : decode cX3_readNumber 10 = .ok (.bipush (-9), 2) := by decide +kernel
theorem dX3_readNumber_12 : decode cX3_readNumber 12 = .ok (.ireturn, 1) := by decide +kernel
theorem dX3_readNumber_13 : decode cX3_readNumber 13 = .ok (.aload_n 0, 1) := by decide +kernel
theorem dX3_readNumber_14 : decode cX3_readNumber 14 = .ok (.invokevirtual 31, 3) := by decide +kernel
theorem dX3_readNumber_17 : decode cX3_readNumber 17 = .ok (.bipush 48, 2) := by decide +kernel
theorem dX3_readNumber_19 : decode cX3_readNumber 19 = .ok (.isub, 1) := by decide +kernel
theorem dX3_readNumber_20 : decode cX3_readNumber 20 = .ok (.istore_n 1, 1) := by decide +kernel
theorem dX3_readNumber_21 : decode cX3_readNumber 21 = .ok (.aload_n 0, 1) := by decide +kernel
theorem dX3_readNumber_22 : decode cX3_readNumber 22 = .ok (.dup, 1) := by decide +kernel
theorem dX3_readNumber_23 : decode cX3_readNumber 23 = .ok (.getfield 19, 3) := by decide +kernel
theorem dX3_readNumber_26 : decode cX3_readNumber 26 = .ok (.iconst 1, 1) := by decide +kernel
theorem dX3_readNumber_27 : decode cX3_readNumber 27 = .ok (.iadd, 1) := by decide +kernel
theorem dX3_readNumber_28 : decode cX3_readNumber 28 = .ok (.putfield 19, 3) := by decide +kernel
theorem dX3_readNumber_31 : decode cX3_readNumber 31 = .ok (.iconst 1, 1) := by decide +kernel
theorem dX3_readNumber_32 : decode cX3_readNumber 32 = .ok (.istore_n 2, 1) := by decide +kernel
theorem dX3_readNumber_33 : decode cX3_readNumber 33 = .ok (.iload_n 2, 1) := by decide +kernel
theorem dX3_readNumber_34 : decode cX3_readNumber 34 = .ok (.iconst 3, 1) := by decide +kernel
theorem dX3_readNumber_35 : decode cX3_readNumber 35 = .ok (.if_icmp .ge 46, 3) := by decide +kernel
theorem dX3_readNumber_38 : decode cX3_readNumber 38 = .ok (.iload_n 1, 1) := by decide +kernel
theorem dX3_readNumber_39 : decode cX3_readNumber 39 = .ok (.ifCond .eq 42, 3) := by decide +kernel
theorem dX3_readNumber_42 : decode cX3_readNumber 42 = .ok (.aload_n 0, 1) := by decide +kernel
theorem dX3_readNumber_43 : decode cX3_readNumber 43 = .ok (.invokevirtual 31, 3) := by decide +kernel
theorem dX3_readNumber_46 : decode cX3_readNumber 46 = .ok (.invokestatic 42, 3) := by decide +kernel
theorem dX3_readNumber_49 : decode cX3_readNumber 49 = .ok (.ifCond .eq 32, 3) := by decide +kernel
theorem dX3_readNumber_52 : decode cX3_readNumber 52 = .ok (.iload_n 1, 1) := by decide +kernel
theorem dX3_readNumber_53 : decode cX3_readNumber 53 = .ok (.bipush 10, 2) := by decide +kernel
theorem dX3_readNumber_55 : decode cX3_readNumber 55 = .ok (.imul, 1) := by decide +kernel
theorem dX3_readNumber_56 : decode cX3_readNumber 56 = .ok (.aload_n 0, 1) := by decide +kernel
theorem dX3_readNumber_57 : decode cX3_readNumber 57 = .ok (.invokevirtual 31, 3) := by decide +kernel
theorem dX3_readNumber_60 : decode cX3_readNumber 60 = .ok (.iadd, 1) := by decide +kernel
theorem dX3_readNumber_61 : decode cX3_readNumber 61 = .ok (.bipush 48, 2) := by decide +kernel
theorem dX3_readNumber_63 : decode cX3_readNumber 63 = .ok (.isub, 1) := by decide +kernel
theorem dX3_readNumber_64 : decode cX3_readNumber 64 = .ok (.istore_n 1, 1) := by decide +kernel
theorem dX3_readNumber_65 : decode cX3_readNumber 65 = .ok (.aload_n 0, 1) := by decide +kernel
theorem dX3_readNumber_66 : decode cX3_readNumber 66 = .ok (.dup, 1) := by decide +kernel
theorem dX3_readNumber_67 : decode cX3_readNumber 67 = .ok (.getfield 19, 3) := by decide +kernel
theorem dX3_readNumber_70 : decode cX3_readNumber 70 = .ok (.iconst 1, 1) := by decide +kernel
theorem dX3_readNumber_71 : decode cX3_readNumber 71 = .ok (.iadd, 1) := by decide +kernel
theorem dX3_readNumber_72 : decode cX3_readNumber 72 = .ok (.putfield 19, 3) := by decide +kernel
theorem dX3_readNumber_75 : decode cX3_readNumber 75 = .ok (.iinc 2 1, 3) := by decide +kernel
theorem dX3_readNumber_78 : decode cX3_readNumber 78 = .ok (.goto (-45), 3) := by decide +kernel
theorem dX3_readNumber_81 : decode cX3_readNumber 81 = .ok (.iload_n 1, 1) := by decide +kernel
theorem dX3_readNumber_82 : decode cX3_readNumber 82 = .ok (.ireturn, 1) := by decide +kernel
theorem dX3_next_0 : decode cX3_next 0 = .ok (.aload_n 0, 1) := by decide +kernel
theorem dX3_next_1 : decode cX3_next 1 = .ok (.getfield 19, 3) := by decide +kernel
theorem dX3_next_4 : decode cX3_next 4 = .ok (.ifCond .lt 26, 3) := by decide +kernel
theorem dX3_next_7 : decode cX3_next 7 = .ok (.aload_n 0, 1) := by decide +kernel
theorem dX3_next_8 : decode cX3_next 8 = .ok (.getfield 19, 3) := by decide +kernel
theorem dX3_next_11 : decode cX3_next 11 = .ok (.aload_n 0, 1) := by decide +kernel
theorem dX3_next_12 : decode cX3_next 12 = .ok (.getfield 15, 3) := by decide +kernel
theorem dX3_next_15 : decode cX3_next 15 = .ok (.if_icmp .ge 15, 3) := by decide +kernel
theorem dX3_next_18 : decode cX3_next 18 = .ok (.aload_n 0, 1) := by decide +kernel
theorem dX3_next_19 : decode cX3_next 19 = .ok (.getfield 9, 3) := by decide +kernel
theorem dX3_next_22 : decode cX3_next 22 = .ok (.aload_n 0, 1) := by decide +kernel
theorem dX3_next_23 : decode cX3_next 23 = .ok (.getfield 19, 3) := by decide +kernel
theorem dX3_next_26 : decode cX3_next 26 = .ok (.iaload, 1) := by decide +kernel
theorem dX3_next_27 : decode cX3_next 27 = .ok (.goto 5, 3) := by decide +kernel
theorem dX3_next_30 : decode cX3_next 30 = .ok (.bipush (-9), 2) := by decide +kernel
theorem dX3_next_32 : decode cX3_next 32 = .ok (.ireturn, 1) := by decide +kernel
theorem dX3_isDigit_0 : decode cX3_isDigit 0 = .ok (.iload_n 0, 1) := by decide +kernel
theorem dX3_isDigit_1 : decode cX3_isDigit 1 = .ok (.bipush 48, 2) := by decide +kernel
theorem dX3_isDigit_3 : decode cX3_isDigit 3 = .ok (.if_icmp .lt 13, 3) := by decide +kernel
theorem dX3_isDigit_6 : decode cX3_isDigit 6 = .ok (.iload_n 0, 1) := by decide +kernel
theorem dX3_isDigit_7 : decode cX3_isDigit 7 = .ok (.bipush 57, 2) := by decide +kernel
theorem dX3_isDigit_9 : decode cX3_isDigit 9 = .ok (.if_icmp .gt 7, 3) := by decide +kernel
theorem dX3_isDigit_12 : decode cX3_isDigit 12 = .ok (.iconst 1, 1) := by decide +kernel
theorem dX3_isDigit_13 : decode cX3_isDigit 13 = .ok (.goto 4, 3) := by decide +kernel
theorem dX3_isDigit_16 : decode cX3_isDigit 16 = .ok (.iconst 0, 1) := by decide +kernel
theorem dX3_isDigit_17 : decode cX3_isDigit 17 = .ok (.ireturn, 1) := by decide +kernel
set_option maxRecDepth 20000 in
theorem ggX4_init_X0_init : GoodIn wsX4_init wsX0_init := goodIn_r _ [21, 22, 2, 3, 4, 23, 46, 47] (by decide +kernel) (by decide +kernel)
set_option maxRecDepth 20000 in
theorem gX4_init_X0_init_n20 : GoodIn wsX4_init (wsX0_init) := ggX4_init_X0_init
set_option maxRecDepth 20000 in
theorem ggX4_init_X2_init : GoodIn wsX4_init wsX2_init := goodIn_r _ [25, 26, 2, 3, 27, 4, 28, 29, 30, 31, 32, 48, 49, 50, 51, 52, 53, 54] (by decide +kernel) (by decide +kernel)
set_option maxRecDepth 20000 in
theorem gX4_init_X2_init_n34 : GoodIn wsX4_init (wsX2_init) := ggX4_init_X2_init
end
section
theorem dX4_init_0 : decode cX4_init 0 = .ok (.aload_n 0, 1) := by decide +kernel
theorem dX4_init_1 : decode cX4_init 1 = .ok (.invokespecial 3, 3) := by decide +kernel
theorem dX4_init_4 : decode cX4_init 4 = .ok (.aload_n 0, 1) := by decide +kernel
theorem dX4_init_5 : decode cX4_init 5 = .ok (.bipush 12, 2) := by decide +kernel
theorem dX4_init_7 : decode cX4_init 7 = .ok (.newarray .int, 2) := by decide +kernel
theorem dX4_init_9 : decode cX4_init 9 = .ok (.putfield 9, 3) := by decide +kernel
theorem dX4_init_12 : decode cX4_init 12 = .ok (.aload_n 0, 1) := by decide +kernel
theorem dX4_init_13 : decode cX4_init 13 = .ok (.bipush 12, 2) := by decide +kernel
theorem dX4_init_15 : decode cX4_init 15 = .ok (.newarray .int, 2) := by decide +kernel
theorem dX4_init_17 : decode cX4_init 17 = .ok (.putfield 15, 3) := by decide +kernel
theorem dX4_init_20 : decode cX4_init 20 = .ok (.aload_n 0, 1) := by decide +kernel
theorem dX4_init_21 : decode cX4_init 21 = .ok (.new 18, 3) := by decide +kernel
theorem dX4_init_24 : decode cX4_init 24 = .ok (.dup, 1) := by decide +kernel
theorem dX4_init_25 : decode cX4_init 25 = .ok (.invokespecial 20, 3) := by decide +kernel
theorem dX4_init_28 : decode cX4_init 28 = .ok (.putfield 21, 3) := by decide +kernel
theorem dX4_init_31 : decode cX4_init 31 = .ok (.aload_n 0, 1) := by decide +kernel
theorem dX4_init_32 : decode cX4_init 32 = .ok (.new 18, 3) := by decide +kernel
theorem dX4_init_35 : decode cX4_init 35 = .ok (.dup, 1) := by decide +kernel
theorem dX4_init_36 : decode cX4_init 36 = .ok (.invokespecial 20, 3) := by decide +kernel
theorem dX4_init_39 : decode cX4_init 39 = .ok (.putfield 25, 3) := by decide +kernel
theorem dX4_init_42 : decode cX4_init 42 = .ok (.aload_n 0, 1) := by decide +kernel
theorem dX4_init_43 : decode cX4_init 43 = .ok (.bipush (-9), 2) := by decide +kernel
theorem dX4_init_45 : decode cX4_init 45 = .ok (.putfield 28, 3) := by decide +kernel
theorem dX4_init_48 : decode cX4_init 48 = .ok (.aload_n 0, 1) := by decide +kernel
theorem dX4_init_49 : decode cX4_init 49 = .ok (.new 32, 3) := by decide +kernel
theorem dX4_init_52 : decode cX4_init 52 = .ok (.dup, 1) := by decide +kernel
theorem dX4_init_53 : decode cX4_init 53 = .ok (.invokespecial 34, 3) := by decide +kernel
theorem dX4_init_56 : decode cX4_init 56 = .ok (.putfield 35, 3) := by decide +kernel
theorem dX4_init_59 : decode cX4_init 59 = .ok (.aload_n 0, 1) := by decide +kernel
theorem dX4_init_60 : decode cX4_init 60 = .ok (.bipush 60, 2) := by decide +kernel
theorem dX4_init_62 : decode cX4_init 62 = .ok (.newarray .int, 2) := by decide +kernel
theorem dX4_init_64 : decode cX4_init 64 = .ok (.putfield 39, 3) := by decide +kernel
theorem dX4_init_67 : decode cX4_init 67 = .ok (.aload_n 0, 1) := by decide +kernel
theorem dX4_init_68 : decode cX4_init 68 = .ok (.bipush 60, 2) := by decide +kernel
theorem dX4_init_70 : decode cX4_init 70 = .ok (.newarray .int, 2) := by decide +kernel
theorem dX4_init_72 : decode cX4_init 72 = .ok (.putfield 42, 3) := by decide +kernel
theorem dX4_init_75 : decode cX4_init 75 = .ok (.aload_n 0, 1) := by decide +kernel
theorem dX4_init_76 : decode cX4_init 76 = .ok (.bipush 60, 2) := by decide +kernel
theorem dX4_init_78 : decode cX4_init 78 = .ok (.newarray .int, 2) := by decide +kernel
theorem dX4_init_80 : decode cX4_init 80 = .ok (.putfield 45, 3) := by decide +kernel
theorem dX4_init_83 : decode cX4_init 83 = .ok (.return_, 1) := by decide +kernel
set_option maxRecDepth 20000 in
theorem ggX4_copyFrom_X0_copyFrom : GoodIn wsX4_copyFrom wsX0_copyFrom := goodIn_r _ [22, 23, 24, 25, 4, 5, 6, 52, 53] (by decide +kernel) (by decide +kernel)
set_option maxRecDepth 20000 in
theorem gX4_copyFrom_X0_copyFrom : GoodIn wsX4_copyFrom (wsV RX4 57 RX0 yX0_copyFrom wsX0_copyFrom) := goodIn_app (goodIn_of _ (by decide +kernel)) ggX4_copyFrom_X0_copyFrom
set_option maxRecDepth 20000 in
theorem ggX4_copyFrom_X2_copyFrom : GoodIn wsX4_copyFrom wsX2_copyFrom := goodIn_r _ [30, 31, 32, 33, 34, 4, 5, 6, 35, 36, 37, 38, 54, 55, 56, 57, 58, 59, 60] (by decide +kernel) (by decide +kernel)
set_option maxRecDepth 20000 in
theorem gX4_copyFrom_X2_copyFrom : GoodIn wsX4_copyFrom (wsV RX4 64 RX2 yX2_copyFrom wsX2_copyFrom) := goodIn_app (goodIn_of _ (by decide +kernel)) ggX4_copyFrom_X2_copyFrom
theorem dX4_copyFrom_0 : decode cX4_copyFrom 0 = .ok (.aload_n 0, 1) := by decide +kernel
theorem dX4_copyFrom_1 : decode cX4_copyFrom 1 = .ok (.aload_n 1, 1) := by decide +kernel
theorem dX4_copyFrom_2 : decode cX4_copyFrom 2 = .ok (.getfield 48, 3) := by decide +kernel
theorem dX4_copyFrom_5 : decode cX4_copyFrom 5 = .ok (.putfield 48, 3) := by decide +kernel
theorem dX4_copyFrom_8 : decode cX4_copyFrom 8 = .ok (.aload_n 1, 1) := by decide +kernel
theorem dX4_copyFrom_9 : decode cX4_copyFrom 9 = .ok (.getfield 9, 3) := by decide +kernel
theorem dX4_copyFrom_12 : decode cX4_copyFrom 12 = .ok (.iconst 0, 1) := by decide +kernel
theorem dX4_copyFrom_13 : decode cX4_copyFrom 13 = .ok (.aload_n 0, 1) := by decide +kernel
theorem dX4_copyFrom_14 : decode cX4_copyFrom 14 = .ok (.getfield 9, 3) := by decide +kernel
theorem dX4_copyFrom_17 : decode cX4_copyFrom 17 = .ok (.iconst 0, 1) := by decide +kernel
theorem dX4_copyFrom_18 : decode cX4_copyFrom 18 = .ok (.bipush 12, 2) := by decide +kernel
theorem dX4_copyFrom_20 : decode cX4_copyFrom 20 = .ok (.invokestatic 51, 3) := by decide +kernel
theorem dX4_copyFrom_23 : decode cX4_copyFrom 23 = .ok (.aload_n 1, 1) := by decide +kernel
theorem dX4_copyFrom_24 : decode cX4_copyFrom 24 = .ok (.getfield 15, 3) := by decide +kernel
theorem dX4_copyFrom_27 : decode cX4_copyFrom 27 = .ok (.iconst 0, 1) := by decide +kernel
theorem dX4_copyFrom_28 : decode cX4_copyFrom 28 = .ok (.aload_n 0, 1) := by decide +kernel
theorem dX4_copyFrom_29 : decode cX4_copyFrom 29 = .ok (.getfield 15, 3) := by decide +kernel
theorem dX4_copyFrom_32 : decode cX4_copyFrom 32 = .ok (.iconst 0, 1) := by decide +kernel
theorem dX4_copyFrom_33 : decode cX4_copyFrom 33 = .ok (.bipush 12, 2) := by decide +kernel
theorem dX4_copyFrom_35 : decode cX4_copyFrom 35 = .ok (.invokestatic 51, 3) := by decide +kernel
theorem dX4_copyFrom_38 : decode cX4_copyFrom 38 = .ok (.aload_n 0, 1) := by decide +kernel
theorem dX4_copyFrom_39 : decode cX4_copyFrom 39 = .ok (.getfield 21, 3) := by decide +kernel
theorem dX4_copyFrom_42 : decode cX4_copyFrom 42 = .ok (.aload_n 1, 1) := by decide +kernel
theorem dX4_copyFrom_43 : decode cX4_copyFrom 43 = .ok (.getfield 21, 3) := by decide +kernel
theorem dX4_copyFrom_46 : decode cX4_copyFrom 46 = .ok (.invokevirtual 57, 3) := by decide +kernel
theorem dX4_copyFrom_49 : decode cX4_copyFrom 49 = .ok (.aload_n 0, 1) := by decide +kernel
theorem dX4_copyFrom_50 : decode cX4_copyFrom 50 = .ok (.getfield 25, 3) := by decide +kernel
theorem dX4_copyFrom_53 : decode cX4_copyFrom 53 = .ok (.aload_n 1, 1) := by decide +kernel
theorem dX4_copyFrom_54 : decode cX4_copyFrom 54 = .ok (.getfield 25, 3) := by decide +kernel
theorem dX4_copyFrom_57 : decode cX4_copyFrom 57 = .ok (.invokevirtual 57, 3) := by decide +kernel
theorem dX4_copyFrom_60 : decode cX4_copyFrom 60 = .ok (.aload_n 0, 1) := by decide +kernel
theorem dX4_copyFrom_61 : decode cX4_copyFrom 61 = .ok (.aload_n 1, 1) := by decide +kernel
theorem dX4_copyFrom_62 : decode cX4_copyFrom 62 = .ok (.getfield 61, 3) := by decide +kernel
theorem dX4_copyFrom_65 : decode cX4_copyFrom 65 = .ok (.putfield 61, 3) := by decide +kernel
theorem dX4_copyFrom_68 : decode cX4_copyFrom 68 = .ok (.aload_n 0, 1) := by decide +kernel
theorem dX4_copyFrom_69 : decode cX4_copyFrom 69 = .ok (.aload_n 1, 1) := by decide +kernel
theorem dX4_copyFrom_70 : decode cX4_copyFrom 70 = .ok (.getfield 28, 3) := by decide +kernel
theorem dX4_copyFrom_73 : decode cX4_copyFrom 73 = .ok (.putfield 28, 3) := by decide +kernel
theorem dX4_copyFrom_76 : decode cX4_copyFrom 76 = .ok (.aload_n 0, 1) := by decide +kernel
theorem dX4_copyFrom_77 : decode cX4_copyFrom 77 = .ok (.getfield 35, 3) := by decide +kernel
theorem dX4_copyFrom_80 : decode cX4_copyFrom 80 = .ok (.aload_n 1, 1) := by decide +kernel
theorem dX4_copyFrom_81 : decode cX4_copyFrom 81 = .ok (.getfield 35, 3) := by decide +kernel
theorem dX4_copyFrom_84 : decode cX4_copyFrom 84 = .ok (.invokevirtual 64, 3) := by decide +kernel
theorem dX4_copyFrom_87 : decode cX4_copyFrom 87 = .ok (.aload_n 0, 1) := by decide +kernel
theorem dX4_copyFrom_88 : decode cX4_copyFrom 88 = .ok (.aload_n 1, 1) := by decide +kernel
theorem dX4_copyFrom_89 : decode cX4_copyFrom 89 = .ok (.getfield 67, 3) := by decide +kernel
theorem dX4_copyFrom_92 : decode cX4_copyFrom 92 = .ok (.putfield 67, 3) := by decide +kernel
theorem dX4_copyFrom_95 : decode cX4_copyFrom 95 = .ok (.aload_n 0, 1) := by decide +kernel
theorem dX4_copyFrom_96 : decode cX4_copyFrom 96 = .ok (.aload_n 1, 1) := by decide +kernel
theorem dX4_copyFrom_97 : decode cX4_copyFrom 97 = .ok (.getfield 70, 3) := by decide +kernel
theorem dX4_copyFrom_100 : decode cX4_copyFrom 100 = .ok (.putfield 70, 3) := by decide +kernel
theorem dX4_copyFrom_103 : decode cX4_copyFrom 103 = .ok (.aload_n 1, 1) := by decide +kernel
theorem dX4_copyFrom_104 : decode cX4_copyFrom 104 = .ok (.getfield 39, 3) := by decide +kernel
theorem dX4_copyFrom_107 : decode cX4_copyFrom 107 = .ok (.iconst 0, 1) := by decide +kernel
theorem dX4_copyFrom_108 : decode cX4_copyFrom 108 = .ok (.aload_n 0, 1) := by decide +kernel
theorem dX4_copyFrom_109 : decode cX4_copyFrom 109 = .ok (.getfield 39, 3) := by decide +kernel
theorem dX4_copyFrom_112 : decode cX4_copyFrom 112 = .ok (.iconst 0, 1) := by decide +kernel
theorem dX4_copyFrom_113 : decode cX4_copyFrom 113 = .ok (.bipush 60, 2) := by decide +kernel
theorem dX4_copyFrom_115 : decode cX4_copyFrom 115 = .ok (.invokestatic 51, 3) := by decide +kernel
theorem dX4_copyFrom_118 : decode cX4_copyFrom 118 = .ok (.aload_n 1, 1) := by decide +kernel
theorem dX4_copyFrom_119 : decode cX4_copyFrom 119 = .ok (.getfield 42, 3) := by decide +kernel
theorem dX4_copyFrom_122 : decode cX4_copyFrom 122 = .ok (.iconst 0, 1) := by decide +kernel
theorem dX4_copyFrom_123 : decode cX4_copyFrom 123 = .ok (.aload_n 0, 1) := by decide +kernel
theorem dX4_copyFrom_124 : decode cX4_copyFrom 124 = .ok (.getfield 42, 3) := by decide +kernel
theorem dX4_copyFrom_127 : decode cX4_copyFrom 127 = .ok (.iconst 0, 1) := by decide +kernel
theorem dX4_copyFrom_128 : decode cX4_copyFrom 128 = .ok (.bipush 60, 2) := by decide +kernel
theorem dX4_copyFrom_130 : decode cX4_copyFrom 130 = .ok (.invokestatic 51, 3) := by decide +kernel
theorem dX4_copyFrom_133 : decode cX4_copyFrom 133 = .ok (.aload_n 1, 1) := by decide +kernel
theorem dX4_copyFrom_134 : decode cX4_copyFrom 134 = .ok (.getfield 45, 3) := by decide +kernel
theorem dX4_copyFrom_137 : decode cX4_copyFrom 137 = .ok (.iconst 0, 1) := by decide +kernel
theorem dX4_copyFrom_138 : decode cX4_copyFrom 138 = .ok (.aload_n 0, 1) := by decide +kernel
theorem dX4_copyFrom_139 : decode cX4_copyFrom 139 = .ok (.getfield 45, 3) := by decide +kernel
theorem dX4_copyFrom_142 : decode cX4_copyFrom 142 = .ok (.iconst 0, 1) := by decide +kernel
theorem dX4_copyFrom_143 : decode cX4_copyFrom 143 = .ok (.bipush 60, 2) := by decide +kernel
theorem dX4_copyFrom_145 : decode cX4_copyFrom 145 = .ok (.invokestatic 51, 3) := by decide +kernel
theorem dX4_copyFrom_148 : decode cX4_copyFrom 148 = .ok (.return_, 1) := by decide +kernel
theorem dX4_letCome_0 : decode cX4_letCome 0 = .ok (.aload_n 0, 1) := by decide +kernel
theorem dX4_letCome_1 : decode cX4_letCome 1 = .ok (.getfield 48, 3) := by decide +kernel
theorem dX4_letCome_4 : decode cX4_letCome 4 = .ok (.bipush 12, 2) := by decide +kernel
theorem dX4_letCome_6 : decode cX4_letCome 6 = .ok (.if_icmp .lt 6, 3) := by decide +kernel
theorem dX4_letCome_9 : decode cX4_letCome 9 = .ok (.bipush (-3), 2) := by decide +kernel
theorem dX4_letCome_11 : decode cX4_letCome 11 = .ok (.ireturn, 1) := by decide +kernel
theorem dX4_letCome_12 : decode cX4_letCome 12 = .ok (.aload_n 0, 1) := by decide +kernel
theorem dX4_letCome_13 : decode cX4_letCome 13 = .ok (.getfield 9, 3) := by decide +kernel
theorem dX4_letCome_16 : decode cX4_letCome 16 = .ok (.aload_n 0, 1) := by decide +kernel
theorem dX4_letCome_17 : decode cX4_letCome 17 = .ok (.getfield 48, 3) := by decide +kernel
theorem dX4_letCome_20 : decode cX4_letCome 20 = .ok (.iconst 1, 1) := by decide +kernel
theorem dX4_letCome_21 : decode cX4_letCome 21 = .ok (.iastore, 1) := by decide +kernel
theorem dX4_letCome_22 : decode cX4_letCome 22 = .ok (.aload_n 0, 1) := by decide +kernel
theorem dX4_letCome_23 : decode cX4_letCome 23 = .ok (.getfield 15, 3) := by decide +kernel
theorem dX4_letCome_26 : decode cX4_letCome 26 = .ok (.aload_n 0, 1) := by decide +kernel
theorem dX4_letCome_27 : decode cX4_letCome 27 = .ok (.getfield 48, 3) := by decide +kernel
theorem dX4_letCome_30 : decode cX4_letCome 30 = .ok (.iconst 0, 1) := by decide +kernel
theorem dX4_letCome_31 : decode cX4_letCome 31 = .ok (.iastore, 1) := by decide +kernel
theorem dX4_letCome_32 : decode cX4_letCome 32 = .ok (.aload_n 0, 1) := by decide +kernel
theorem dX4_letCome_33 : decode cX4_letCome 33 = .ok (.dup, 1) := by decide +kernel
theorem dX4_letCome_34 : decode cX4_letCome 34 = .ok (.getfield 48, 3) := by decide +kernel
theorem dX4_letCome_37 : decode cX4_letCome 37 = .ok (.iconst 1, 1) := by decide +kernel
theorem dX4_letCome_38 : decode cX4_letCome 38 = .ok (.iadd, 1) := by decide +kernel
theorem dX4_letCome_39 : decode cX4_letCome 39 = .ok (.putfield 48, 3) := by decide +kernel
theorem dX4_letCome_42 : decode cX4_letCome 42 = .ok (.aload_n 0, 1) := by decide +kernel
theorem dX4_letCome_43 : decode cX4_letCome 43 = .ok (.getfield 48, 3) := by decide +kernel
theorem dX4_letCome_46 : decode cX4_letCome 46 = .ok (.iconst 1, 1) := by decide +kernel
theorem dX4_letCome_47 : decode cX4_letCome 47 = .ok (.isub, 1) := by decide +kernel
theorem dX4_letCome_48 : decode cX4_letCome 48 = .ok (.ireturn, 1) := by decide +kernel
set_option maxRecDepth 20000 in
theorem ggX4_letAttend_X4_isVillager : GoodIn wsX4_letAttend wsX4_isVillager := goodIn_r _ [6, 7, 12, 13, 14, 15, 16, 17, 18, 19, 20, 21, 22, 23, 24] (by decide +kernel) (by decide +kernel)
set_option maxRecDepth 20000 in
theorem gX4_letAttend_X4_isVillager : GoodIn wsX4_letAttend (wsV RX4 73 RX4 yX4_isVillager wsX4_isVillager) := goodIn_app (goodIn_of _ (by decide +kernel)) ggX4_letAttend_X4_isVillager
set_option maxRecDepth 20000 in
theorem ggX4_letAttend_X4_presentVillagers : GoodIn wsX4_letAttend wsX4_presentVillagers := goodIn_r _ [11, 7, 1, 12, 13, 14, 15, 16, 17, 18, 19, 20, 21, 22, 23, 24] (by decide +kernel) (by decide +kernel)
set_option maxRecDepth 20000 in
theorem gX4_letAttend_X4_presentVillagers : GoodIn wsX4_letAttend (wsV RX4 77 RX4 yX4_presentVillagers wsX4_presentVillagers) := goodIn_app (goodIn_of _ (by decide +kernel)) ggX4_letAttend_X4_presentVillagers
theorem dX4_letAttend_0 : decode cX4_letAttend 0 = .ok (.aload_n 0, 1) := by decide +kernel
theorem dX4_letAttend_1 : decode cX4_letAttend 1 = .ok (.iload_n 1, 1) := by decide +kernel
theorem dX4_letAttend_2 : decode cX4_letAttend 2 = .ok (.invokevirtual 73, 3) := by decide +kernel
theorem dX4_letAttend_5 : decode cX4_letAttend 5 = .ok (.ifCond .eq 12, 3) := by decide +kernel
theorem dX4_letAttend_8 : decode cX4_letAttend 8 = .ok (.iload_n 2, 1) := by decide +kernel
theorem dX4_letAttend_9 : decode cX4_letAttend 9 = .ok (.ifCond .lt 8, 3) := by decide +kernel
theorem dX4_letAttend_12 : decode cX4_letAttend 12 = .ok (.iload_n 2, 1) := by decide +kernel
theorem dX4_letAttend_13 : decode cX4_letAttend 13 = .ok (.iconst 1, 1) := by decide +kernel
theorem dX4_letAttend_14 : decode cX4_letAttend 14 = .ok (.if_icmp .le 5, 3) := by decide +kernel
theorem dX4_letAttend_17 : decode cX4_letAttend 17 = .ok (.iconst (-1), 1) := by decide +kernel
theorem dX4_letAttend_18 : decode cX4_letAttend 18 = .ok (.ireturn, 1) := by decide +kernel
theorem dX4_letAttend_19 : decode cX4_letAttend 19 = .ok (.aload_n 0, 1) := by decide +kernel
theorem dX4_letAttend_20 : decode cX4_letAttend 20 = .ok (.getfield 9, 3) := by decide +kernel
theorem dX4_letAttend_23 : decode cX4_letAttend 23 = .ok (.iload_n 1, 1) := by decide +kernel
theorem dX4_letAttend_24 : decode cX4_letAttend 24 = .ok (.iaload, 1) := by decide +kernel
theorem dX4_letAttend_25 : decode cX4_letAttend 25 = .ok (.iload_n 2, 1) := by decide +kernel
theorem dX4_letAttend_26 : decode cX4_letAttend 26 = .ok (.if_icmp .ne 6, 3) := by decide +kernel
theorem dX4_letAttend_29 : decode cX4_letAttend 29 = .ok (.bipush (-2), 2) := by decide +kernel
theorem dX4_letAttend_31 : decode cX4_letAttend 31 = .ok (.ireturn, 1) := by decide +kernel
theorem dX4_letAttend_32 : decode cX4_letAttend 32 = .ok (.aload_n 0, 1) := by decide +kernel
theorem dX4_letAttend_33 : decode cX4_letAttend 33 = .ok (.getfield 9, 3) := by decide +kernel
theorem dX4_letAttend_36 : decode cX4_letAttend 36 = .ok (.iload_n 1, 1) := by decide +kernel
theorem dX4_letAttend_37 : decode cX4_letAttend 37 = .ok (.iload_n 2, 1) := by decide +kernel
theorem dX4_letAttend_38 : decode cX4_letAttend 38 = .ok (.iastore, 1) := by decide +kernel
theorem dX4_letAttend_39 : decode cX4_letAttend 39 = .ok (.aload_n 0, 1) := by decide +kernel
theorem dX4_letAttend_40 : decode cX4_letAttend 40 = .ok (.invokevirtual 77, 3) := by decide +kernel
theorem dX4_letAttend_43 : decode cX4_letAttend 43 = .ok (.ireturn, 1) := by decide +kernel
set_option maxRecDepth 20000 in
theorem ggX4_setFirstCouncil_X0_isEmpty : GoodIn wsX4_setFirstCouncil wsX0_isEmpty := goodIn_r _ [8, 9, 40, 41] (by decide +kernel) (by decide +kernel)
set_option maxRecDepth 20000 in
theorem gX4_setFirstCouncil_X0_isEmpty : GoodIn wsX4_setFirstCouncil (wsV RX4 81 RX0 yX0_isEmpty wsX0_isEmpty) := goodIn_app (goodIn_of _ (by decide +kernel)) ggX4_setFirstCouncil_X0_isEmpty
set_option maxRecDepth 20000 in
theorem ggX4_setFirstCouncil_X0_seatFirst : GoodIn wsX4_setFirstCouncil wsX0_seatFirst := goodIn_r _ [13, 14, 15, 16, 17, 9, 18, 40, 41] (by decide +kernel) (by decide +kernel)
set_option maxRecDepth 20000 in
theorem gX4_setFirstCouncil_X0_seatFirst : GoodIn wsX4_setFirstCouncil (wsV RX4 85 RX0 yX0_seatFirst wsX0_seatFirst) := goodIn_app (goodIn_of _ (by decide +kernel)) ggX4_setFirstCouncil_X0_seatFirst
set_option maxRecDepth 20000 in
theorem ggX4_setFirstCouncil_X0_copyFrom : GoodIn wsX4_setFirstCouncil wsX0_copyFrom := goodIn_r _ [22, 9, 18, 23, 24, 25, 26, 40, 41] (by decide +kernel) (by decide +kernel)
set_option maxRecDepth 20000 in
theorem gX4_setFirstCouncil_X0_copyFrom : GoodIn wsX4_setFirstCouncil (wsV RX4 57 RX0 yX0_copyFrom wsX0_copyFrom) := goodIn_app (goodIn_of _ (by decide +kernel)) ggX4_setFirstCouncil_X0_copyFrom
theorem dX4_setFirstCouncil_0 : decode cX4_setFirstCouncil 0 = .ok (.iload_n 1, 1) := by decide +kernel
theorem dX4_setFirstCouncil_1 : decode cX4_setFirstCouncil 1 = .ok (.iconst 1, 1) := by decide +kernel
theorem dX4_setFirstCouncil_2 : decode cX4_setFirstCouncil 2 = .ok (.if_icmp .lt 8, 3) := by decide +kernel
theorem dX4_setFirstCouncil_5 : decode cX4_setFirstCouncil 5 = .ok (.iload_n 1, 1) := by decide +kernel
theorem dX4_setFirstCouncil_6 : decode cX4_setFirstCouncil 6 = .ok (.iconst 5, 1) := by decide +kernel
theorem dX4_setFirstCouncil_7 : decode cX4_setFirstCouncil 7 = .ok (.if_icmp .le 5, 3) := by decide +kernel
theorem dX4_setFirstCouncil_10 : decode cX4_setFirstCouncil 10 = .ok (.iconst (-1), 1) := by decide +kernel
theorem dX4_setFirstCouncil_11 : decode cX4_setFirstCouncil 11 = .ok (.ireturn, 1) := by decide +kernel
theorem dX4_setFirstCouncil_12 : decode cX4_setFirstCouncil 12 = .ok (.aload_n 0, 1) := by decide +kernel
theorem dX4_setFirstCouncil_13 : decode cX4_setFirstCouncil 13 = .ok (.getfield 21, 3) := by decide +kernel
theorem dX4_setFirstCouncil_16 : decode cX4_setFirstCouncil 16 = .ok (.invokevirtual 81, 3) := by decide +kernel
theorem dX4_setFirstCouncil_19 : decode cX4_setFirstCouncil 19 = .ok (.ifCond .eq 11, 3) := by decide +kernel
theorem dX4_setFirstCouncil_22 : decode cX4_setFirstCouncil 22 = .ok (.iload_n 1, 1) := by decide +kernel
theorem dX4_setFirstCouncil_23 : decode cX4_setFirstCouncil 23 = .ok (.aload_n 0, 1) := by decide +kernel
theorem dX4_setFirstCouncil_24 : decode cX4_setFirstCouncil 24 = .ok (.getfield 48, 3) := by decide +kernel
theorem dX4_setFirstCouncil_27 : decode cX4_setFirstCouncil 27 = .ok (.if_icmp .le 6, 3) := by decide +kernel
theorem dX4_setFirstCouncil_30 : decode cX4_setFirstCouncil 30 = .ok (.bipush (-2), 2) := by decide +kernel
theorem dX4_setFirstCouncil_32 : decode cX4_setFirstCouncil 32 = .ok (.ireturn, 1) := by decide +kernel
theorem dX4_setFirstCouncil_33 : decode cX4_setFirstCouncil 33 = .ok (.aload_n 0, 1) := by decide +kernel
theorem dX4_setFirstCouncil_34 : decode cX4_setFirstCouncil 34 = .ok (.getfield 21, 3) := by decide +kernel
theorem dX4_setFirstCouncil_37 : decode cX4_setFirstCouncil 37 = .ok (.iload_n 1, 1) := by decide +kernel
theorem dX4_setFirstCouncil_38 : decode cX4_setFirstCouncil 38 = .ok (.invokevirtual 85, 3) := by decide +kernel
theorem dX4_setFirstCouncil_41 : decode cX4_setFirstCouncil 41 = .ok (.aload_n 0, 1) := by decide +kernel
theorem dX4_setFirstCouncil_42 : decode cX4_setFirstCouncil 42 = .ok (.getfield 25, 3) := by decide +kernel
theorem dX4_setFirstCouncil_45 : decode cX4_setFirstCouncil 45 = .ok (.aload_n 0, 1) := by decide +kernel
theorem dX4_setFirstCouncil_46 : decode cX4_setFirstCouncil 46 = .ok (.getfield 21, 3) := by decide +kernel
theorem dX4_setFirstCouncil_49 : decode cX4_setFirstCouncil 49 = .ok (.invokevirtual 57, 3) := by decide +kernel
theorem dX4_setFirstCouncil_52 : decode cX4_setFirstCouncil 52 = .ok (.iload_n 1, 1) := by decide +kernel
theorem dX4_setFirstCouncil_53 : decode cX4_setFirstCouncil 53 = .ok (.ireturn, 1) := by decide +kernel
set_option maxRecDepth 20000 in
theorem ggX4_setLotState_X2_setState : GoodIn wsX4_setLotState wsX2_setState := goodIn_r _ [7, 8, 22, 23, 24, 25, 26, 27, 28] (by decide +kernel) (by decide +kernel)
set_option maxRecDepth 20000 in
theorem gX4_setLotState_X2_setState : GoodIn wsX4_setLotState (wsV RX4 90 RX2 yX2_setState wsX2_setState) := goodIn_app (goodIn_of _ (by decide +kernel)) ggX4_setLotState_X2_setState
theorem dX4_setLotState_0 : decode cX4_setLotState 0 = .ok (.iload_n 1, 1) := by decide +kernel
theorem dX4_setLotState_1 : decode cX4_setLotState 1 = .ok (.ifCond .lt 9, 3) := by decide +kernel
theorem dX4_setLotState_4 : decode cX4_setLotState 4 = .ok (.iload_n 1, 1) := by decide +kernel
theorem dX4_setLotState_5 : decode cX4_setLotState 5 = .ok (.ldc 89, 2) := by decide +kernel
theorem dX4_setLotState_7 : decode cX4_setLotState 7 = .ok (.if_icmp .lt 5, 3) := by decide +kernel
theorem dX4_setLotState_10 : decode cX4_setLotState 10 = .ok (.iconst (-1), 1) := by decide +kernel
theorem dX4_setLotState_11 : decode cX4_setLotState 11 = .ok (.ireturn, 1) := by decide +kernel
theorem dX4_setLotState_12 : decode cX4_setLotState 12 = .ok (.aload_n 0, 1) := by decide +kernel
theorem dX4_setLotState_13 : decode cX4_setLotState 13 = .ok (.getfield 35, 3) := by decide +kernel
theorem dX4_setLotState_16 : decode cX4_setLotState 16 = .ok (.iload_n 1, 1) := by decide +kernel
theorem dX4_setLotState_17 : decode cX4_setLotState 17 = .ok (.invokevirtual 90, 3) := by decide +kernel
theorem dX4_setLotState_20 : decode cX4_setLotState 20 = .ok (.ireturn, 1) := by decide +kernel
set_option maxRecDepth 20000 in
theorem ggX4_beginChange_X4_isVillager : GoodIn wsX4_beginChange wsX4_isVillager := goodIn_r _ [11, 12, 136, 137, 138, 139, 140, 141, 142, 143, 144, 145, 146, 147, 148] (by decide +kernel) (by decide +kernel)
set_option maxRecDepth 20000 in
theorem gX4_beginChange_X4_isVillager : GoodIn wsX4_beginChange (wsV RX4 73 RX4 yX4_isVillager wsX4_isVillager) := goodIn_app (goodIn_of _ (by decide +kernel)) ggX4_beginChange_X4_isVillager
set_option maxRecDepth 20000 in
theorem ggX4_beginChange_X0_hasSeat : GoodIn wsX4_beginChange wsX0_hasSeat := goodIn_r _ [17, 18, 149, 150] (by decide +kernel) (by decide +kernel)
set_option maxRecDepth 20000 in
theorem gX4_beginChange_X0_hasSeat : GoodIn wsX4_beginChange (wsV RX4 94 RX0 yX0_hasSeat wsX0_hasSeat) := goodIn_app (goodIn_of _ (by decide +kernel)) ggX4_beginChange_X0_hasSeat
set_option maxRecDepth 20000 in
theorem ggX4_beginChange_X2_state : GoodIn wsX4_beginChange wsX2_state := goodIn_r _ [23, 24, 151, 152, 153, 154, 155, 156, 157] (by decide +kernel) (by decide +kernel)
set_option maxRecDepth 20000 in
theorem gX4_beginChange_X2_state : GoodIn wsX4_beginChange (wsV RX4 97 RX2 yX2_state wsX2_state) := goodIn_app (goodIn_of _ (by decide +kernel)) ggX4_beginChange_X2_state
set_option maxRecDepth 20000 in
theorem ggX4_beginChange_X4_drawnWith : GoodIn wsX4_beginChange wsX4_drawnWith := goodIn_r _ [28, 12, 1, 29, 30, 31, 10, 32, 33, 34, 35, 36, 37, 38, 39, 16, 40, 41, 42, 43, 44, 18, 45, 46, 47, 22, 48, 49, 136, 137, 138, 139, 140, 141, 142, 143, 144, 145, 146, 147, 148, 149, 150] (by decide +kernel) (by decide +kernel)
set_option maxRecDepth 20000 in
theorem gX4_beginChange_X4_drawnWith : GoodIn wsX4_beginChange (wsV RX4 100 RX4 yX4_drawnWith wsX4_drawnWith) := goodIn_app (goodIn_of _ (by decide +kernel)) ggX4_beginChange_X4_drawnWith
set_option maxRecDepth 20000 in
theorem ggX4_beginChange_X4_isChanging : GoodIn wsX4_beginChange wsX4_isChanging := goodIn_r _ [53, 6, 136, 137, 138, 139, 140, 141, 142, 143, 144, 145, 146, 147, 148] (by decide +kernel) (by decide +kernel)
set_option maxRecDepth 20000 in
theorem gX4_beginChange_X4_isChanging : GoodIn wsX4_beginChange (wsV RX4 103 RX4 yX4_isChanging wsX4_isChanging) := goodIn_app (goodIn_of _ (by decide +kernel)) ggX4_beginChange_X4_isChanging
set_option maxRecDepth 20000 in
theorem ggX4_beginChange_X4_mayAct : GoodIn wsX4_beginChange wsX4_mayAct := goodIn_r _ [57, 58, 59, 60, 10, 61, 1, 5, 37, 38, 39, 16, 40, 41, 42, 43, 44, 18, 45, 62, 63, 64, 65, 66, 7, 8, 9, 11, 12, 136, 137, 138, 139, 140, 141, 142, 143, 144, 145, 146, 147, 148, 149, 150] (by decide +kernel) (by decide +kernel)
set_option maxRecDepth 20000 in
theorem gX4_beginChange_X4_mayAct : GoodIn wsX4_beginChange (wsV RX4 106 RX4 yX4_mayAct wsX4_mayAct) := goodIn_app (goodIn_of _ (by decide +kernel)) ggX4_beginChange_X4_mayAct
set_option maxRecDepth 20000 in
theorem ggX4_beginChange_X4_candidates : GoodIn wsX4_beginChange wsX4_candidates := goodIn_r _ [32, 12, 33, 34, 35, 10, 36, 1, 37, 38, 39, 16, 40, 41, 42, 43, 44, 18, 45, 136, 137, 138, 139, 140, 141, 142, 143, 144, 145, 146, 147, 148, 149, 150] (by decide +kernel) (by decide +kernel)
set_option maxRecDepth 20000 in
theorem gX4_beginChange_X4_candidates : GoodIn wsX4_beginChange (wsV RX4 109 RX4 yX4_candidates wsX4_candidates) := goodIn_app (goodIn_of _ (by decide +kernel)) ggX4_beginChange_X4_candidates
set_option maxRecDepth 20000 in
theorem ggX4_beginChange_X2_write : GoodIn wsX4_beginChange wsX2_write := goodIn_r _ [70, 71, 72, 24, 73, 74, 75, 76, 77, 47, 22, 48, 49, 151, 152, 153, 154, 155, 156, 157] (by decide +kernel) (by decide +kernel)
set_option maxRecDepth 20000 in
theorem gX4_beginChange_X2_write : GoodIn wsX4_beginChange (wsV RX4 112 RX2 yX2_write wsX2_write) := goodIn_app (goodIn_of _ (by decide +kernel)) ggX4_beginChange_X2_write
set_option maxRecDepth 20000 in
theorem ggX4_beginChange_X0_place : GoodIn wsX4_beginChange wsX0_place := goodIn_r _ [81, 45, 82, 14, 15, 16, 17, 18, 149, 150] (by decide +kernel) (by decide +kernel)
set_option maxRecDepth 20000 in
theorem gX4_beginChange_X0_place : GoodIn wsX4_beginChange (wsV RX4 116 RX0 yX0_place wsX0_place) := goodIn_app (goodIn_of _ (by decide +kernel)) ggX4_beginChange_X0_place
set_option maxRecDepth 20000 in
theorem ggX4_beginChange_X4_addEntry : GoodIn wsX4_beginChange wsX4_addEntry := goodIn_r _ [86, 87, 4, 88, 89, 90, 3, 136, 137, 138, 139, 140, 141, 142, 143, 144, 145, 146, 147, 148] (by decide +kernel) (by decide +kernel)
set_option maxRecDepth 20000 in
theorem gX4_beginChange_X4_addEntry : GoodIn wsX4_beginChange (wsV RX4 120 RX4 yX4_addEntry wsX4_addEntry) := goodIn_app (goodIn_of _ (by decide +kernel)) ggX4_beginChange_X4_addEntry
set_option maxRecDepth 20000 in
theorem ggX4_beginChange_X4_agree : GoodIn wsX4_beginChange wsX4_agree := goodIn_r _ [94, 95, 4, 6, 96, 97, 98, 10, 99, 5, 1, 100, 101, 102, 103, 104, 105, 106, 16, 107, 18, 108, 109, 110, 111, 45, 82, 14, 15, 17, 112, 113, 114, 115, 3, 7, 8, 9, 11, 12, 62, 63, 64, 65, 66, 116, 117, 118, 119, 120, 121, 122, 123, 50, 51, 52, 53, 124, 125, 126, 127, 89, 128, 129, 130, 131, 132, 133, 134, 135, 136, 137, 138, 139, 140, 141, 142, 143, 144, 145, 146, 147, 148, 149, 150] (by decide +kernel) (by decide +kernel)
set_option maxRecDepth 20000 in
theorem gX4_beginChange_X4_agree : GoodIn wsX4_beginChange (wsV RX4 123 RX4 yX4_agree wsX4_agree) := goodIn_app (goodIn_of _ (by decide +kernel)) ggX4_beginChange_X4_agree
theorem dX4_beginChange_0 : decode cX4_beginChange 0 = .ok (.aload_n 0, 1) := by decide +kernel
theorem dX4_beginChange_1 : decode cX4_beginChange 1 = .ok (.iload_n 1, 1) := by decide +kernel
theorem dX4_beginChange_2 : decode cX4_beginChange 2 = .ok (.invokevirtual 73, 3) := by decide +kernel
theorem dX4_beginChange_5 : decode cX4_beginChange 5 = .ok (.ifCond .eq 14, 3) := by decide +kernel
theorem dX4_beginChange_8 : decode cX4_beginChange 8 = .ok (.aload_n 0, 1) := by decide +kernel
theorem dX4_beginChange_9 : decode cX4_beginChange 9 = .ok (.getfield 21, 3) := by decide +kernel
theorem dX4_beginChange_12 : decode cX4_beginChange 12 = .ok (.iload_n 2, 1) := by decide +kernel
theorem dX4_beginChange_13 : decode cX4_beginChange 13 = .ok (.invokevirtual 94, 3) := by decide +kernel
theorem dX4_beginChange_16 : decode cX4_beginChange 16 = .ok (.ifCond .ne 5, 3) := by decide +kernel
theorem dX4_beginChange_19 : decode cX4_beginChange 19 = .ok (.iconst (-1), 1) := by decide +kernel
theorem dX4_beginChange_20 : decode cX4_beginChange 20 = .ok (.ireturn, 1) := by decide +kernel
theorem dX4_beginChange_21 : decode cX4_beginChange 21 = .ok (.aload_n 0, 1) := by decide +kernel
theorem dX4_beginChange_22 : decode cX4_beginChange 22 = .ok (.aload_n 0, 1) := by decide +kernel
theorem dX4_beginChange_23 : decode cX4_beginChange 23 = .ok (.getfield 35, 3) := by decide +kernel
theorem dX4_beginChange_26 : decode cX4_beginChange 26 = .ok (.invokevirtual 97, 3) := by decide +kernel
theorem dX4_beginChange_29 : decode cX4_beginChange 29 = .ok (.invokevirtual 100, 3) := by decide +kernel
theorem dX4_beginChange_32 : decode cX4_beginChange 32 = .ok (.istore_n 3, 1) := by decide +kernel
theorem dX4_beginChange_33 : decode cX4_beginChange 33 = .ok (.aload_n 0, 1) := by decide +kernel
theorem dX4_beginChange_34 : decode cX4_beginChange 34 = .ok (.invokevirtual 103, 3) := by decide +kernel
theorem dX4_beginChange_37 : decode cX4_beginChange 37 = .ok (.ifCond .ne 30, 3) := by decide +kernel
theorem dX4_beginChange_40 : decode cX4_beginChange 40 = .ok (.aload_n 0, 1) := by decide +kernel
theorem dX4_beginChange_41 : decode cX4_beginChange 41 = .ok (.iload_n 1, 1) := by decide +kernel
theorem dX4_beginChange_42 : decode cX4_beginChange 42 = .ok (.invokevirtual 106, 3) := by decide +kernel
theorem dX4_beginChange_45 : decode cX4_beginChange 45 = .ok (.ifCond .eq 22, 3) := by decide +kernel
theorem dX4_beginChange_48 : decode cX4_beginChange 48 = .ok (.aload_n 0, 1) := by decide +kernel
theorem dX4_beginChange_49 : decode cX4_beginChange 49 = .ok (.getfield 15, 3) := by decide +kernel
theorem dX4_beginChange_52 : decode cX4_beginChange 52 = .ok (.iload_n 1, 1) := by decide +kernel
theorem dX4_beginChange_53 : decode cX4_beginChange 53 = .ok (.iaload, 1) := by decide +kernel
theorem dX4_beginChange_54 : decode cX4_beginChange 54 = .ok (.aload_n 0, 1) := by decide +kernel
theorem dX4_beginChange_55 : decode cX4_beginChange 55 = .ok (.getfield 67, 3) := by decide +kernel
theorem dX4_beginChange_58 : decode cX4_beginChange 58 = .ok (.if_icmp .lt 9, 3) := by decide +kernel
theorem dX4_beginChange_61 : decode cX4_beginChange 61 = .ok (.iload_n 3, 1) := by decide +kernel
theorem dX4_beginChange_62 : decode cX4_beginChange 62 = .ok (.bipush (-9), 2) := by decide +kernel
theorem dX4_beginChange_64 : decode cX4_beginChange 64 = .ok (.if_icmp .ne 6, 3) := by decide +kernel
theorem dX4_beginChange_67 : decode cX4_beginChange 67 = .ok (.bipush (-2), 2) := by decide +kernel
theorem dX4_beginChange_69 : decode cX4_beginChange 69 = .ok (.ireturn, 1) := by decide +kernel
theorem dX4_beginChange_70 : decode cX4_beginChange 70 = .ok (.aload_n 0, 1) := by decide +kernel
theorem dX4_beginChange_71 : decode cX4_beginChange 71 = .ok (.getfield 67, 3) := by decide +kernel
theorem dX4_beginChange_74 : decode cX4_beginChange 74 = .ok (.bipush 60, 2) := by decide +kernel
theorem dX4_beginChange_76 : decode cX4_beginChange 76 = .ok (.if_icmp .lt 6, 3) := by decide +kernel
theorem dX4_beginChange_79 : decode cX4_beginChange 79 = .ok (.bipush (-3), 2) := by decide +kernel
theorem dX4_beginChange_81 : decode cX4_beginChange 81 = .ok (.ireturn, 1) := by decide +kernel
theorem dX4_beginChange_82 : decode cX4_beginChange 82 = .ok (.aload_n 0, 1) := by decide +kernel
theorem dX4_beginChange_83 : decode cX4_beginChange 83 = .ok (.getfield 35, 3) := by decide +kernel
theorem dX4_beginChange_86 : decode cX4_beginChange 86 = .ok (.aload_n 0, 1) := by decide +kernel
theorem dX4_beginChange_87 : decode cX4_beginChange 87 = .ok (.invokevirtual 109, 3) := by decide +kernel
theorem dX4_beginChange_90 : decode cX4_beginChange 90 = .ok (.iload_n 3, 1) := by decide +kernel
theorem dX4_beginChange_91 : decode cX4_beginChange 91 = .ok (.iload_n 2, 1) := by decide +kernel
theorem dX4_beginChange_92 : decode cX4_beginChange 92 = .ok (.invokevirtual 112, 3) := by decide +kernel
theorem dX4_beginChange_95 : decode cX4_beginChange 95 = .ok (.aload_n 0, 1) := by decide +kernel
theorem dX4_beginChange_96 : decode cX4_beginChange 96 = .ok (.getfield 25, 3) := by decide +kernel
theorem dX4_beginChange_99 : decode cX4_beginChange 99 = .ok (.iload_n 2, 1) := by decide +kernel
theorem dX4_beginChange_100 : decode cX4_beginChange 100 = .ok (.iload_n 3, 1) := by decide +kernel
theorem dX4_beginChange_101 : decode cX4_beginChange 101 = .ok (.invokevirtual 116, 3) := by decide +kernel
theorem dX4_beginChange_104 : decode cX4_beginChange 104 = .ok (.aload_n 0, 1) := by decide +kernel
theorem dX4_beginChange_105 : decode cX4_beginChange 105 = .ok (.aload_n 0, 1) := by decide +kernel
theorem dX4_beginChange_106 : decode cX4_beginChange 106 = .ok (.getfield 67, 3) := by decide +kernel
theorem dX4_beginChange_109 : decode cX4_beginChange 109 = .ok (.putfield 28, 3) := by decide +kernel
theorem dX4_beginChange_112 : decode cX4_beginChange 112 = .ok (.aload_n 0, 1) := by decide +kernel
theorem dX4_beginChange_113 : decode cX4_beginChange 113 = .ok (.iload_n 1, 1) := by decide +kernel
theorem dX4_beginChange_114 : decode cX4_beginChange 114 = .ok (.bipush (-9), 2) := by decide +kernel
theorem dX4_beginChange_116 : decode cX4_beginChange 116 = .ok (.invokevirtual 120, 3) := by decide +kernel
theorem dX4_beginChange_119 : decode cX4_beginChange 119 = .ok (.aload_n 0, 1) := by decide +kernel
theorem dX4_beginChange_120 : decode cX4_beginChange 120 = .ok (.invokevirtual 123, 3) := by decide +kernel
theorem dX4_beginChange_123 : decode cX4_beginChange 123 = .ok (.pop, 1) := by decide +kernel
theorem dX4_beginChange_124 : decode cX4_beginChange 124 = .ok (.iload_n 3, 1) := by decide +kernel
theorem dX4_beginChange_125 : decode cX4_beginChange 125 = .ok (.ireturn, 1) := by decide +kernel
set_option maxRecDepth 20000 in
theorem ggX4_forgeLot_X4_isVillager : GoodIn wsX4_forgeLot wsX4_isVillager := goodIn_r _ [7, 8, 103, 104, 105, 106, 107, 108, 109, 110, 111, 112, 113, 114, 115] (by decide +kernel) (by decide +kernel)
set_option maxRecDepth 20000 in
theorem gX4_forgeLot_X4_isVillager : GoodIn wsX4_forgeLot (wsV RX4 73 RX4 yX4_isVillager wsX4_isVillager) := goodIn_app (goodIn_of _ (by decide +kernel)) ggX4_forgeLot_X4_isVillager
set_option maxRecDepth 20000 in
theorem ggX4_forgeLot_X4_isChanging : GoodIn wsX4_forgeLot wsX4_isChanging := goodIn_r _ [12, 13, 103, 104, 105, 106, 107, 108, 109, 110, 111, 112, 113, 114, 115] (by decide +kernel) (by decide +kernel)
set_option maxRecDepth 20000 in
theorem gX4_forgeLot_X4_isChanging : GoodIn wsX4_forgeLot (wsV RX4 103 RX4 yX4_isChanging wsX4_isChanging) := goodIn_app (goodIn_of _ (by decide +kernel)) ggX4_forgeLot_X4_isChanging
set_option maxRecDepth 20000 in
theorem ggX4_forgeLot_X4_isElder : GoodIn wsX4_forgeLot wsX4_isElder := goodIn_r _ [17, 18, 2, 19, 20, 21, 22, 23, 24, 25, 26, 27, 28, 29, 103, 104, 105, 106, 107, 108, 109, 110, 111, 112, 113, 114, 115, 116, 117] (by decide +kernel) (by decide +kernel)
set_option maxRecDepth 20000 in
theorem gX4_forgeLot_X4_isElder : GoodIn wsX4_forgeLot (wsV RX4 126 RX4 yX4_isElder wsX4_isElder) := goodIn_app (goodIn_of _ (by decide +kernel)) ggX4_forgeLot_X4_isElder
set_option maxRecDepth 20000 in
theorem ggX4_forgeLot_X2_lastSeat : GoodIn wsX4_forgeLot wsX2_lastSeat := goodIn_r _ [34, 35, 36, 118, 119, 120, 121, 122, 123, 124] (by decide +kernel) (by decide +kernel)
set_option maxRecDepth 20000 in
theorem gX4_forgeLot_X2_lastSeat : GoodIn wsX4_forgeLot (wsV RX4 129 RX2 yX2_lastSeat wsX2_lastSeat) := goodIn_app (goodIn_of _ (by decide +kernel)) ggX4_forgeLot_X2_lastSeat
set_option maxRecDepth 20000 in
theorem ggX4_forgeLot_X0_elderOn : GoodIn wsX4_forgeLot wsX0_elderOn := goodIn_r _ [40, 29, 41, 42, 43, 22, 44, 28, 116, 117] (by decide +kernel) (by decide +kernel)
set_option maxRecDepth 20000 in
theorem gX4_forgeLot_X0_elderOn : GoodIn wsX4_forgeLot (wsV RX4 132 RX0 yX0_elderOn wsX0_elderOn) := goodIn_app (goodIn_of _ (by decide +kernel)) ggX4_forgeLot_X0_elderOn
set_option maxRecDepth 20000 in
theorem ggX4_forgeLot_X0_place : GoodIn wsX4_forgeLot wsX0_place := goodIn_r _ [48, 29, 41, 42, 43, 22, 44, 28, 116, 117] (by decide +kernel) (by decide +kernel)
set_option maxRecDepth 20000 in
theorem gX4_forgeLot_X0_place : GoodIn wsX4_forgeLot (wsV RX4 116 RX0 yX0_place wsX0_place) := goodIn_app (goodIn_of _ (by decide +kernel)) ggX4_forgeLot_X0_place
set_option maxRecDepth 20000 in
theorem ggX4_forgeLot_X2_forgeLast : GoodIn wsX4_forgeLot wsX2_forgeLast := goodIn_r _ [52, 35, 53, 118, 119, 120, 121, 122, 123, 124] (by decide +kernel) (by decide +kernel)
set_option maxRecDepth 20000 in
theorem gX4_forgeLot_X2_forgeLast : GoodIn wsX4_forgeLot (wsV RX4 135 RX2 yX2_forgeLast wsX2_forgeLast) := goodIn_app (goodIn_of _ (by decide +kernel)) ggX4_forgeLot_X2_forgeLast
set_option maxRecDepth 20000 in
theorem ggX4_forgeLot_X4_agree : GoodIn wsX4_forgeLot wsX4_agree := goodIn_r _ [57, 58, 59, 13, 60, 61, 62, 6, 63, 2, 18, 64, 65, 66, 67, 68, 69, 70, 22, 71, 28, 37, 38, 39, 40, 29, 41, 42, 43, 44, 72, 73, 74, 75, 76, 3, 4, 5, 7, 8, 77, 78, 79, 80, 81, 82, 83, 84, 85, 86, 87, 88, 89, 9, 10, 11, 12, 90, 91, 92, 93, 94, 95, 96, 97, 98, 99, 100, 101, 102, 103, 104, 105, 106, 107, 108, 109, 110, 111, 112, 113, 114, 115, 116, 117] (by decide +kernel) (by decide +kernel)
set_option maxRecDepth 20000 in
theorem gX4_forgeLot_X4_agree : GoodIn wsX4_forgeLot (wsV RX4 123 RX4 yX4_agree wsX4_agree) := goodIn_app (goodIn_of _ (by decide +kernel)) ggX4_forgeLot_X4_agree
theorem dX4_forgeLot_0 : decode cX4_forgeLot 0 = .ok (.aload_n 0, 1) := by decide +kernel
theorem dX4_forgeLot_1 : decode cX4_forgeLot 1 = .ok (.iload_n 1, 1) := by decide +kernel
theorem dX4_forgeLot_2 : decode cX4_forgeLot 2 = .ok (.invokevirtual 73, 3) := by decide +kernel
theorem dX4_forgeLot_5 : decode cX4_forgeLot 5 = .ok (.ifCond .ne 5, 3) := by decide +kernel
theorem dX4_forgeLot_8 : decode cX4_forgeLot 8 = .ok (.iconst (-1), 1) := by decide +kernel
theorem dX4_forgeLot_9 : decode cX4_forgeLot 9 = .ok (.ireturn, 1) := by decide +kernel
theorem dX4_forgeLot_10 : decode cX4_forgeLot 10 = .ok (.aload_n 0, 1) := by decide +kernel
theorem dX4_forgeLot_11 : decode cX4_forgeLot 11 = .ok (.invokevirtual 103, 3) := by decide +kernel
theorem dX4_forgeLot_14 : decode cX4_forgeLot 14 = .ok (.ifCond .eq 11, 3) := by decide +kernel
theorem dX4_forgeLot_17 : decode cX4_forgeLot 17 = .ok (.aload_n 0, 1) := by decide +kernel
theorem dX4_forgeLot_18 : decode cX4_forgeLot 18 = .ok (.iload_n 1, 1) := by decide +kernel
theorem dX4_forgeLot_19 : decode cX4_forgeLot 19 = .ok (.invokevirtual 126, 3) := by decide +kernel
theorem dX4_forgeLot_22 : decode cX4_forgeLot 22 = .ok (.ifCond .eq 6, 3) := by decide +kernel
theorem dX4_forgeLot_25 : decode cX4_forgeLot 25 = .ok (.bipush (-2), 2) := by decide +kernel
theorem dX4_forgeLot_27 : decode cX4_forgeLot 27 = .ok (.ireturn, 1) := by decide +kernel
theorem dX4_forgeLot_28 : decode cX4_forgeLot 28 = .ok (.aload_n 0, 1) := by decide +kernel
theorem dX4_forgeLot_29 : decode cX4_forgeLot 29 = .ok (.getfield 35, 3) := by decide +kernel
theorem dX4_forgeLot_32 : decode cX4_forgeLot 32 = .ok (.invokevirtual 129, 3) := by decide +kernel
theorem dX4_forgeLot_35 : decode cX4_forgeLot 35 = .ok (.istore_n 2, 1) := by decide +kernel
theorem dX4_forgeLot_36 : decode cX4_forgeLot 36 = .ok (.aload_n 0, 1) := by decide +kernel
theorem dX4_forgeLot_37 : decode cX4_forgeLot 37 = .ok (.getfield 25, 3) := by decide +kernel
theorem dX4_forgeLot_40 : decode cX4_forgeLot 40 = .ok (.iload_n 2, 1) := by decide +kernel
theorem dX4_forgeLot_41 : decode cX4_forgeLot 41 = .ok (.invokevirtual 132, 3) := by decide +kernel
theorem dX4_forgeLot_44 : decode cX4_forgeLot 44 = .ok (.istore_n 3, 1) := by decide +kernel
theorem dX4_forgeLot_45 : decode cX4_forgeLot 45 = .ok (.aload_n 0, 1) := by decide +kernel
theorem dX4_forgeLot_46 : decode cX4_forgeLot 46 = .ok (.getfield 25, 3) := by decide +kernel
theorem dX4_forgeLot_49 : decode cX4_forgeLot 49 = .ok (.iload_n 2, 1) := by decide +kernel
theorem dX4_forgeLot_50 : decode cX4_forgeLot 50 = .ok (.iload_n 1, 1) := by decide +kernel
theorem dX4_forgeLot_51 : decode cX4_forgeLot 51 = .ok (.invokevirtual 116, 3) := by decide +kernel
theorem dX4_forgeLot_54 : decode cX4_forgeLot 54 = .ok (.aload_n 0, 1) := by decide +kernel
theorem dX4_forgeLot_55 : decode cX4_forgeLot 55 = .ok (.getfield 35, 3) := by decide +kernel
theorem dX4_forgeLot_58 : decode cX4_forgeLot 58 = .ok (.iload_n 1, 1) := by decide +kernel
theorem dX4_forgeLot_59 : decode cX4_forgeLot 59 = .ok (.invokevirtual 135, 3) := by decide +kernel
theorem dX4_forgeLot_62 : decode cX4_forgeLot 62 = .ok (.aload_n 0, 1) := by decide +kernel
theorem dX4_forgeLot_63 : decode cX4_forgeLot 63 = .ok (.invokevirtual 123, 3) := by decide +kernel
theorem dX4_forgeLot_66 : decode cX4_forgeLot 66 = .ok (.pop, 1) := by decide +kernel
theorem dX4_forgeLot_67 : decode cX4_forgeLot 67 = .ok (.iload_n 3, 1) := by decide +kernel
theorem dX4_forgeLot_68 : decode cX4_forgeLot 68 = .ok (.ireturn, 1) := by decide +kernel
set_option maxRecDepth 20000 in
theorem ggX4_proposeEntry_X4_isVillager : GoodIn wsX4_proposeEntry wsX4_isVillager := goodIn_r _ [7, 8, 97, 98, 99, 100, 101, 102, 103, 104, 105, 106, 107, 108, 109] (by decide +kernel) (by decide +kernel)
set_option maxRecDepth 20000 in
theorem gX4_proposeEntry_X4_isVillager : GoodIn wsX4_proposeEntry (wsV RX4 73 RX4 yX4_isVillager wsX4_isVillager) := goodIn_app (goodIn_of _ (by decide +kernel)) ggX4_proposeEntry_X4_isVillager
set_option maxRecDepth 20000 in
theorem ggX4_proposeEntry_X4_mayAct : GoodIn wsX4_proposeEntry wsX4_mayAct := goodIn_r _ [12, 13, 14, 15, 6, 16, 17, 18, 19, 20, 21, 22, 23, 24, 25, 26, 27, 28, 29, 30, 31, 32, 33, 34, 3, 4, 5, 7, 8, 97, 98, 99, 100, 101, 102, 103, 104, 105, 106, 107, 108, 109, 110, 111] (by decide +kernel) (by decide +kernel)
set_option maxRecDepth 20000 in
theorem gX4_proposeEntry_X4_mayAct : GoodIn wsX4_proposeEntry (wsV RX4 106 RX4 yX4_mayAct wsX4_mayAct) := goodIn_app (goodIn_of _ (by decide +kernel)) ggX4_proposeEntry_X4_mayAct
set_option maxRecDepth 20000 in
theorem ggX4_proposeEntry_X4_addEntry : GoodIn wsX4_proposeEntry wsX4_addEntry := goodIn_r _ [38, 39, 2, 40, 41, 42, 1, 97, 98, 99, 100, 101, 102, 103, 104, 105, 106, 107, 108, 109] (by decide +kernel) (by decide +kernel)
set_option maxRecDepth 20000 in
theorem gX4_proposeEntry_X4_addEntry : GoodIn wsX4_proposeEntry (wsV RX4 120 RX4 yX4_addEntry wsX4_addEntry) := goodIn_app (goodIn_of _ (by decide +kernel)) ggX4_proposeEntry_X4_addEntry
set_option maxRecDepth 20000 in
theorem ggX4_proposeEntry_X4_agree : GoodIn wsX4_proposeEntry wsX4_agree := goodIn_r _ [46, 47, 2, 48, 49, 50, 51, 6, 52, 18, 17, 53, 54, 55, 56, 57, 58, 59, 22, 60, 28, 61, 62, 63, 64, 29, 65, 66, 67, 68, 69, 70, 71, 72, 1, 3, 4, 5, 7, 8, 30, 31, 32, 33, 34, 73, 74, 75, 76, 77, 78, 79, 80, 81, 82, 83, 84, 85, 86, 87, 88, 41, 89, 90, 91, 92, 93, 94, 95, 96, 97, 98, 99, 100, 101, 102, 103, 104, 105, 106, 107, 108, 109, 110, 111] (by decide +kernel) (by decide +kernel)
set_option maxRecDepth 20000 in
theorem gX4_proposeEntry_X4_agree : GoodIn wsX4_proposeEntry (wsV RX4 123 RX4 yX4_agree wsX4_agree) := goodIn_app (goodIn_of _ (by decide +kernel)) ggX4_proposeEntry_X4_agree
theorem dX4_proposeEntry_0 : decode cX4_proposeEntry 0 = .ok (.aload_n 0, 1) := by decide +kernel
theorem dX4_proposeEntry_1 : decode cX4_proposeEntry 1 = .ok (.iload_n 1, 1) := by decide +kernel
theorem dX4_proposeEntry_2 : decode cX4_proposeEntry 2 = .ok (.invokevirtual 73, 3) := by decide +kernel
theorem dX4_proposeEntry_5 : decode cX4_proposeEntry 5 = .ok (.ifCond .eq 14, 3) := by decide +kernel
theorem dX4_proposeEntry_8 : decode cX4_proposeEntry 8 = .ok (.iload_n 2, 1) := by decide +kernel
theorem dX4_proposeEntry_9 : decode cX4_proposeEntry 9 = .ok (.ifCond .lt 10, 3) := by decide +kernel
theorem dX4_proposeEntry_12 : decode cX4_proposeEntry 12 = .ok (.iload_n 2, 1) := by decide +kernel
theorem dX4_proposeEntry_13 : decode cX4_proposeEntry 13 = .ok (.sipush 999, 3) := by decide +kernel
theorem dX4_proposeEntry_16 : decode cX4_proposeEntry 16 = .ok (.if_icmp .le 5, 3) := by decide +kernel
theorem dX4_proposeEntry_19 : decode cX4_proposeEntry 19 = .ok (.iconst (-1), 1) := by decide +kernel
theorem dX4_proposeEntry_20 : decode cX4_proposeEntry 20 = .ok (.ireturn, 1) := by decide +kernel
theorem dX4_proposeEntry_21 : decode cX4_proposeEntry 21 = .ok (.aload_n 0, 1) := by decide +kernel
theorem dX4_proposeEntry_22 : decode cX4_proposeEntry 22 = .ok (.iload_n 1, 1) := by decide +kernel
theorem dX4_proposeEntry_23 : decode cX4_proposeEntry 23 = .ok (.invokevirtual 106, 3) := by decide +kernel
theorem dX4_proposeEntry_26 : decode cX4_proposeEntry 26 = .ok (.ifCond .eq 16, 3) := by decide +kernel
theorem dX4_proposeEntry_29 : decode cX4_proposeEntry 29 = .ok (.aload_n 0, 1) := by decide +kernel
theorem dX4_proposeEntry_30 : decode cX4_proposeEntry 30 = .ok (.getfield 15, 3) := by decide +kernel
theorem dX4_proposeEntry_33 : decode cX4_proposeEntry 33 = .ok (.iload_n 1, 1) := by decide +kernel
theorem dX4_proposeEntry_34 : decode cX4_proposeEntry 34 = .ok (.iaload, 1) := by decide +kernel
theorem dX4_proposeEntry_35 : decode cX4_proposeEntry 35 = .ok (.aload_n 0, 1) := by decide +kernel
theorem dX4_proposeEntry_36 : decode cX4_proposeEntry 36 = .ok (.getfield 67, 3) := by decide +kernel
theorem dX4_proposeEntry_39 : decode cX4_proposeEntry 39 = .ok (.if_icmp .ge 6, 3) := by decide +kernel
theorem dX4_proposeEntry_42 : decode cX4_proposeEntry 42 = .ok (.bipush (-2), 2) := by decide +kernel
theorem dX4_proposeEntry_44 : decode cX4_proposeEntry 44 = .ok (.ireturn, 1) := by decide +kernel
theorem dX4_proposeEntry_45 : decode cX4_proposeEntry 45 = .ok (.aload_n 0, 1) := by decide +kernel
theorem dX4_proposeEntry_46 : decode cX4_proposeEntry 46 = .ok (.getfield 67, 3) := by decide +kernel
theorem dX4_proposeEntry_49 : decode cX4_proposeEntry 49 = .ok (.bipush 60, 2) := by decide +kernel
theorem dX4_proposeEntry_51 : decode cX4_proposeEntry 51 = .ok (.if_icmp .lt 6, 3) := by decide +kernel
theorem dX4_proposeEntry_54 : decode cX4_proposeEntry 54 = .ok (.bipush (-3), 2) := by decide +kernel
theorem dX4_proposeEntry_56 : decode cX4_proposeEntry 56 = .ok (.ireturn, 1) := by decide +kernel
theorem dX4_proposeEntry_57 : decode cX4_proposeEntry 57 = .ok (.aload_n 0, 1) := by decide +kernel
theorem dX4_proposeEntry_58 : decode cX4_proposeEntry 58 = .ok (.iload_n 1, 1) := by decide +kernel
theorem dX4_proposeEntry_59 : decode cX4_proposeEntry 59 = .ok (.iload_n 2, 1) := by decide +kernel
theorem dX4_proposeEntry_60 : decode cX4_proposeEntry 60 = .ok (.invokevirtual 120, 3) := by decide +kernel
theorem dX4_proposeEntry_63 : decode cX4_proposeEntry 63 = .ok (.aload_n 0, 1) := by decide +kernel
theorem dX4_proposeEntry_64 : decode cX4_proposeEntry 64 = .ok (.invokevirtual 123, 3) := by decide +kernel
theorem dX4_proposeEntry_67 : decode cX4_proposeEntry 67 = .ok (.pop, 1) := by decide +kernel
theorem dX4_proposeEntry_68 : decode cX4_proposeEntry 68 = .ok (.aload_n 0, 1) := by decide +kernel
theorem dX4_proposeEntry_69 : decode cX4_proposeEntry 69 = .ok (.getfield 67, 3) := by decide +kernel
theorem dX4_proposeEntry_72 : decode cX4_proposeEntry 72 = .ok (.iconst 1, 1) := by decide +kernel
theorem dX4_proposeEntry_73 : decode cX4_proposeEntry 73 = .ok (.isub, 1) := by decide +kernel
theorem dX4_proposeEntry_74 : decode cX4_proposeEntry 74 = .ok (.ireturn, 1) := by decide +kernel
set_option maxRecDepth 20000 in
theorem ggX4_secondEntry_X4_isVillager : GoodIn wsX4_secondEntry wsX4_isVillager := goodIn_r _ [6, 7, 94, 95, 96, 97, 98, 99, 100, 101, 102, 103, 104, 105, 106] (by decide +kernel) (by decide +kernel)
set_option maxRecDepth 20000 in
theorem gX4_secondEntry_X4_isVillager : GoodIn wsX4_secondEntry (wsV RX4 73 RX4 yX4_isVillager wsX4_isVillager) := goodIn_app (goodIn_of _ (by decide +kernel)) ggX4_secondEntry_X4_isVillager
set_option maxRecDepth 20000 in
theorem ggX4_secondEntry_X4_isEntry : GoodIn wsX4_secondEntry wsX4_isEntry := goodIn_r _ [11, 12, 94, 95, 96, 97, 98, 99, 100, 101, 102, 103, 104, 105, 106] (by decide +kernel) (by decide +kernel)
set_option maxRecDepth 20000 in
theorem gX4_secondEntry_X4_isEntry : GoodIn wsX4_secondEntry (wsV RX4 138 RX4 yX4_isEntry wsX4_isEntry) := goodIn_app (goodIn_of _ (by decide +kernel)) ggX4_secondEntry_X4_isEntry
set_option maxRecDepth 20000 in
theorem ggX4_secondEntry_X4_mayAct : GoodIn wsX4_secondEntry wsX4_mayAct := goodIn_r _ [16, 17, 18, 19, 5, 20, 21, 22, 23, 24, 25, 26, 27, 28, 29, 30, 31, 32, 33, 34, 35, 36, 37, 38, 2, 3, 4, 6, 7, 94, 95, 96, 97, 98, 99, 100, 101, 102, 103, 104, 105, 106, 107, 108] (by decide +kernel) (by decide +kernel)
set_option maxRecDepth 20000 in
theorem gX4_secondEntry_X4_mayAct : GoodIn wsX4_secondEntry (wsV RX4 106 RX4 yX4_mayAct wsX4_mayAct) := goodIn_app (goodIn_of _ (by decide +kernel)) ggX4_secondEntry_X4_mayAct
set_option maxRecDepth 20000 in
theorem ggX4_secondEntry_X4_agree : GoodIn wsX4_secondEntry wsX4_agree := goodIn_r _ [42, 43, 12, 44, 45, 46, 47, 5, 48, 22, 21, 49, 50, 51, 52, 53, 54, 55, 26, 56, 32, 57, 58, 59, 60, 33, 61, 62, 63, 64, 65, 66, 67, 68, 1, 2, 3, 4, 6, 7, 34, 35, 36, 37, 38, 69, 70, 71, 72, 73, 74, 75, 76, 77, 78, 79, 80, 81, 82, 83, 84, 85, 86, 87, 88, 89, 90, 91, 92, 93, 94, 95, 96, 97, 98, 99, 100, 101, 102, 103, 104, 105, 106, 107, 108] (by decide +kernel) (by decide +kernel)
set_option maxRecDepth 20000 in
theorem gX4_secondEntry_X4_agree : GoodIn wsX4_secondEntry (wsV RX4 123 RX4 yX4_agree wsX4_agree) := goodIn_app (goodIn_of _ (by decide +kernel)) ggX4_secondEntry_X4_agree
theorem dX4_secondEntry_0 : decode cX4_secondEntry 0 = .ok (.aload_n 0, 1) := by decide +kernel
theorem dX4_secondEntry_1 : decode cX4_secondEntry 1 = .ok (.iload_n 1, 1) := by decide +kernel
theorem dX4_secondEntry_2 : decode cX4_secondEntry 2 = .ok (.invokevirtual 73, 3) := by decide +kernel
theorem dX4_secondEntry_5 : decode cX4_secondEntry 5 = .ok (.ifCond .eq 11, 3) := by decide +kernel
theorem dX4_secondEntry_8 : decode cX4_secondEntry 8 = .ok (.aload_n 0, 1) := by decide +kernel
theorem dX4_secondEntry_9 : decode cX4_secondEntry 9 = .ok (.iload_n 2, 1) := by decide +kernel
theorem dX4_secondEntry_10 : decode cX4_secondEntry 10 = .ok (.invokevirtual 138, 3) := by decide +kernel
theorem dX4_secondEntry_13 : decode cX4_secondEntry 13 = .ok (.ifCond .ne 5, 3) := by decide +kernel
theorem dX4_secondEntry_16 : decode cX4_secondEntry 16 = .ok (.iconst (-1), 1) := by decide +kernel
theorem dX4_secondEntry_17 : decode cX4_secondEntry 17 = .ok (.ireturn, 1) := by decide +kernel
theorem dX4_secondEntry_18 : decode cX4_secondEntry 18 = .ok (.aload_n 0, 1) := by decide +kernel
theorem dX4_secondEntry_19 : decode cX4_secondEntry 19 = .ok (.iload_n 1, 1) := by decide +kernel
theorem dX4_secondEntry_20 : decode cX4_secondEntry 20 = .ok (.invokevirtual 106, 3) := by decide +kernel
theorem dX4_secondEntry_23 : decode cX4_secondEntry 23 = .ok (.ifCond .eq 13, 3) := by decide +kernel
theorem dX4_secondEntry_26 : decode cX4_secondEntry 26 = .ok (.aload_n 0, 1) := by decide +kernel
theorem dX4_secondEntry_27 : decode cX4_secondEntry 27 = .ok (.getfield 15, 3) := by decide +kernel
theorem dX4_secondEntry_30 : decode cX4_secondEntry 30 = .ok (.iload_n 1, 1) := by decide +kernel
theorem dX4_secondEntry_31 : decode cX4_secondEntry 31 = .ok (.iaload, 1) := by decide +kernel
theorem dX4_secondEntry_32 : decode cX4_secondEntry 32 = .ok (.iload_n 2, 1) := by decide +kernel
theorem dX4_secondEntry_33 : decode cX4_secondEntry 33 = .ok (.if_icmp .eq 6, 3) := by decide +kernel
theorem dX4_secondEntry_36 : decode cX4_secondEntry 36 = .ok (.bipush (-2), 2) := by decide +kernel
theorem dX4_secondEntry_38 : decode cX4_secondEntry 38 = .ok (.ireturn, 1) := by decide +kernel
theorem dX4_secondEntry_39 : decode cX4_secondEntry 39 = .ok (.aload_n 0, 1) := by decide +kernel
theorem dX4_secondEntry_40 : decode cX4_secondEntry 40 = .ok (.getfield 15, 3) := by decide +kernel
theorem dX4_secondEntry_43 : decode cX4_secondEntry 43 = .ok (.iload_n 1, 1) := by decide +kernel
theorem dX4_secondEntry_44 : decode cX4_secondEntry 44 = .ok (.dup2, 1) := by decide +kernel
theorem dX4_secondEntry_45 : decode cX4_secondEntry 45 = .ok (.iaload, 1) := by decide +kernel
theorem dX4_secondEntry_46 : decode cX4_secondEntry 46 = .ok (.iconst 1, 1) := by decide +kernel
theorem dX4_secondEntry_47 : decode cX4_secondEntry 47 = .ok (.iadd, 1) := by decide +kernel
theorem dX4_secondEntry_48 : decode cX4_secondEntry 48 = .ok (.iastore, 1) := by decide +kernel
theorem dX4_secondEntry_49 : decode cX4_secondEntry 49 = .ok (.aload_n 0, 1) := by decide +kernel
theorem dX4_secondEntry_50 : decode cX4_secondEntry 50 = .ok (.invokevirtual 123, 3) := by decide +kernel
theorem dX4_secondEntry_53 : decode cX4_secondEntry 53 = .ok (.ireturn, 1) := by decide +kernel
set_option maxRecDepth 20000 in
theorem ggX4_learnEntries_X4_isVillager : GoodIn wsX4_learnEntries wsX4_isVillager := goodIn_r _ [12, 13, 14, 15, 16, 17, 18, 19, 20, 21, 22, 23, 24, 25, 26] (by decide +kernel) (by decide +kernel)
set_option maxRecDepth 20000 in
theorem gX4_learnEntries_X4_isVillager : GoodIn wsX4_learnEntries (wsV RX4 73 RX4 yX4_isVillager wsX4_isVillager) := goodIn_app (goodIn_of _ (by decide +kernel)) ggX4_learnEntries_X4_isVillager
theorem dX4_learnEntries_0 : decode cX4_learnEntries 0 = .ok (.aload_n 0, 1) := by decide +kernel
theorem dX4_learnEntries_1 : decode cX4_learnEntries 1 = .ok (.iload_n 1, 1) := by decide +kernel
theorem dX4_learnEntries_2 : decode cX4_learnEntries 2 = .ok (.invokevirtual 73, 3) := by decide +kernel
theorem dX4_learnEntries_5 : decode cX4_learnEntries 5 = .ok (.ifCond .ne 5, 3) := by decide +kernel
theorem dX4_learnEntries_8 : decode cX4_learnEntries 8 = .ok (.iconst (-1), 1) := by decide +kernel
theorem dX4_learnEntries_9 : decode cX4_learnEntries 9 = .ok (.ireturn, 1) := by decide +kernel
theorem dX4_learnEntries_10 : decode cX4_learnEntries 10 = .ok (.aload_n 0, 1) := by decide +kernel
theorem dX4_learnEntries_11 : decode cX4_learnEntries 11 = .ok (.getfield 9, 3) := by decide +kernel
theorem dX4_learnEntries_14 : decode cX4_learnEntries 14 = .ok (.iload_n 1, 1) := by decide +kernel
theorem dX4_learnEntries_15 : decode cX4_learnEntries 15 = .ok (.iaload, 1) := by decide +kernel
theorem dX4_learnEntries_16 : decode cX4_learnEntries 16 = .ok (.ifCond .ne 6, 3) := by decide +kernel
theorem dX4_learnEntries_19 : decode cX4_learnEntries 19 = .ok (.bipush (-2), 2) := by decide +kernel
theorem dX4_learnEntries_21 : decode cX4_learnEntries 21 = .ok (.ireturn, 1) := by decide +kernel
theorem dX4_learnEntries_22 : decode cX4_learnEntries 22 = .ok (.iconst 0, 1) := by decide +kernel
theorem dX4_learnEntries_23 : decode cX4_learnEntries 23 = .ok (.aload_n 0, 1) := by decide +kernel
theorem dX4_learnEntries_24 : decode cX4_learnEntries 24 = .ok (.getfield 70, 3) := by decide +kernel
theorem dX4_learnEntries_27 : decode cX4_learnEntries 27 = .ok (.aload_n 0, 1) := by decide +kernel
theorem dX4_learnEntries_28 : decode cX4_learnEntries 28 = .ok (.getfield 15, 3) := by decide +kernel
theorem dX4_learnEntries_31 : decode cX4_learnEntries 31 = .ok (.iload_n 1, 1) := by decide +kernel
theorem dX4_learnEntries_32 : decode cX4_learnEntries 32 = .ok (.iaload, 1) := by decide +kernel
theorem dX4_learnEntries_33 : decode cX4_learnEntries 33 = .ok (.isub, 1) := by decide +kernel
theorem dX4_learnEntries_34 : decode cX4_learnEntries 34 = .ok (.invokestatic 141, 3) := by decide +kernel
theorem dX4_learnEntries_37 : decode cX4_learnEntries 37 = .ok (.istore_n 2, 1) := by decide +kernel
theorem dX4_learnEntries_38 : decode cX4_learnEntries 38 = .ok (.aload_n 0, 1) := by decide +kernel
theorem dX4_learnEntries_39 : decode cX4_learnEntries 39 = .ok (.getfield 15, 3) := by decide +kernel
theorem dX4_learnEntries_42 : decode cX4_learnEntries 42 = .ok (.iload_n 1, 1) := by decide +kernel
theorem dX4_learnEntries_43 : decode cX4_learnEntries 43 = .ok (.dup2, 1) := by decide +kernel
theorem dX4_learnEntries_44 : decode cX4_learnEntries 44 = .ok (.iaload, 1) := by decide +kernel
theorem dX4_learnEntries_45 : decode cX4_learnEntries 45 = .ok (.iload_n 2, 1) := by decide +kernel
theorem dX4_learnEntries_46 : decode cX4_learnEntries 46 = .ok (.iadd, 1) := by decide +kernel
theorem dX4_learnEntries_47 : decode cX4_learnEntries 47 = .ok (.iastore, 1) := by decide +kernel
theorem dX4_learnEntries_48 : decode cX4_learnEntries 48 = .ok (.iload_n 2, 1) := by decide +kernel
theorem dX4_learnEntries_49 : decode cX4_learnEntries 49 = .ok (.ireturn, 1) := by decide +kernel
set_option maxRecDepth 20000 in
theorem ggX4_tally_X4_presentVillagers : GoodIn wsX4_tally wsX4_presentVillagers := goodIn_r _ [11, 1, 12, 45, 46, 47, 48, 49, 50, 51, 52, 53, 54, 55, 56, 57] (by decide +kernel) (by decide +kernel)
set_option maxRecDepth 20000 in
theorem gX4_tally_X4_presentVillagers : GoodIn wsX4_tally (wsV RX4 77 RX4 yX4_presentVillagers wsX4_presentVillagers) := goodIn_app (goodIn_of _ (by decide +kernel)) ggX4_tally_X4_presentVillagers
set_option maxRecDepth 20000 in
theorem ggX4_tally_X0_size : GoodIn wsX4_tally wsX0_size := goodIn_r _ [17, 18, 58, 59] (by decide +kernel) (by decide +kernel)
set_option maxRecDepth 20000 in
theorem gX4_tally_X0_size : GoodIn wsX4_tally (wsV RX4 147 RX0 yX0_size wsX0_size) := goodIn_app (goodIn_of _ (by decide +kernel)) ggX4_tally_X0_size
set_option maxRecDepth 20000 in
theorem ggX4_tally_X4_isChanging : GoodIn wsX4_tally wsX4_isChanging := goodIn_r _ [22, 23, 45, 46, 47, 48, 49, 50, 51, 52, 53, 54, 55, 56, 57] (by decide +kernel) (by decide +kernel)
set_option maxRecDepth 20000 in
theorem gX4_tally_X4_isChanging : GoodIn wsX4_tally (wsV RX4 103 RX4 yX4_isChanging wsX4_isChanging) := goodIn_app (goodIn_of _ (by decide +kernel)) ggX4_tally_X4_isChanging
set_option maxRecDepth 20000 in
theorem ggX4_tally_X2_state : GoodIn wsX4_tally wsX2_state := goodIn_r _ [28, 29, 60, 61, 62, 63, 64, 65, 66] (by decide +kernel) (by decide +kernel)
set_option maxRecDepth 20000 in
theorem gX4_tally_X2_state : GoodIn wsX4_tally (wsV RX4 97 RX2 yX2_state wsX2_state) := goodIn_app (goodIn_of _ (by decide +kernel)) ggX4_tally_X2_state
set_option maxRecDepth 20000 in
theorem ggX4_tally_X2_draws : GoodIn wsX4_tally wsX2_draws := goodIn_r _ [33, 34, 60, 61, 62, 63, 64, 65, 66] (by decide +kernel) (by decide +kernel)
set_option maxRecDepth 20000 in
theorem gX4_tally_X2_draws : GoodIn wsX4_tally (wsV RX4 150 RX2 yX2_draws wsX2_draws) := goodIn_app (goodIn_of _ (by decide +kernel)) ggX4_tally_X2_draws
set_option maxRecDepth 20000 in
theorem ggX4_tally_X2_forgedDraws : GoodIn wsX4_tally wsX2_forgedDraws := goodIn_r _ [38, 34, 39, 40, 41, 27, 42, 43, 44, 60, 61, 62, 63, 64, 65, 66] (by decide +kernel) (by decide +kernel)
set_option maxRecDepth 20000 in
theorem gX4_tally_X2_forgedDraws : GoodIn wsX4_tally (wsV RX4 153 RX2 yX2_forgedDraws wsX2_forgedDraws) := goodIn_app (goodIn_of _ (by decide +kernel)) ggX4_tally_X2_forgedDraws
theorem dX4_tally_0 : decode cX4_tally 0 = .ok (.iload_n 1, 1) := by decide +kernel
theorem dX4_tally_1 : decode cX4_tally 1 = .ok (.tableswitch 125 0 9 #[55, 60, 65, 73, 78, 83, 88, 101, 109, 117], 55) := by decide +kernel
theorem dX4_tally_56 : decode cX4_tally 56 = .ok (.aload_n 0, 1) := by decide +kernel
theorem dX4_tally_57 : decode cX4_tally 57 = .ok (.getfield 48, 3) := by decide +kernel
theorem dX4_tally_60 : decode cX4_tally 60 = .ok (.ireturn, 1) := by decide +kernel
theorem dX4_tally_61 : decode cX4_tally 61 = .ok (.aload_n 0, 1) := by decide +kernel
theorem dX4_tally_62 : decode cX4_tally 62 = .ok (.invokevirtual 77, 3) := by decide +kernel
theorem dX4_tally_65 : decode cX4_tally 65 = .ok (.ireturn, 1) := by decide +kernel
theorem dX4_tally_66 : decode cX4_tally 66 = .ok (.aload_n 0, 1) := by decide +kernel
theorem dX4_tally_67 : decode cX4_tally 67 = .ok (.getfield 21, 3) := by decide +kernel
theorem dX4_tally_70 : decode cX4_tally 70 = .ok (.invokevirtual 147, 3) := by decide +kernel
theorem dX4_tally_73 : decode cX4_tally 73 = .ok (.ireturn, 1) := by decide +kernel
theorem dX4_tally_74 : decode cX4_tally 74 = .ok (.aload_n 0, 1) := by decide +kernel
theorem dX4_tally_75 : decode cX4_tally 75 = .ok (.getfield 61, 3) := by decide +kernel
theorem dX4_tally_78 : decode cX4_tally 78 = .ok (.ireturn, 1) := by decide +kernel
theorem dX4_tally_79 : decode cX4_tally 79 = .ok (.aload_n 0, 1) := by decide +kernel
theorem dX4_tally_80 : decode cX4_tally 80 = .ok (.getfield 67, 3) := by decide +kernel
theorem dX4_tally_83 : decode cX4_tally 83 = .ok (.ireturn, 1) := by decide +kernel
theorem dX4_tally_84 : decode cX4_tally 84 = .ok (.aload_n 0, 1) := by decide +kernel
theorem dX4_tally_85 : decode cX4_tally 85 = .ok (.getfield 70, 3) := by decide +kernel
theorem dX4_tally_88 : decode cX4_tally 88 = .ok (.ireturn, 1) := by decide +kernel
theorem dX4_tally_89 : decode cX4_tally 89 = .ok (.aload_n 0, 1) := by decide +kernel
theorem dX4_tally_90 : decode cX4_tally 90 = .ok (.invokevirtual 103, 3) := by decide +kernel
theorem dX4_tally_93 : decode cX4_tally 93 = .ok (.ifCond .eq 7, 3) := by decide +kernel
theorem dX4_tally_96 : decode cX4_tally 96 = .ok (.iconst 1, 1) := by decide +kernel
theorem dX4_tally_97 : decode cX4_tally 97 = .ok (.goto 4, 3) := by decide +kernel
theorem dX4_tally_100 : decode cX4_tally 100 = .ok (.iconst 0, 1) := by decide +kernel
theorem dX4_tally_101 : decode cX4_tally 101 = .ok (.ireturn, 1) := by decide +kernel
theorem dX4_tally_102 : decode cX4_tally 102 = .ok (.aload_n 0, 1) := by decide +kernel
theorem dX4_tally_103 : decode cX4_tally 103 = .ok (.getfield 35, 3) := by decide +kernel
theorem dX4_tally_106 : decode cX4_tally 106 = .ok (.invokevirtual 97, 3) := by decide +kernel
theorem dX4_tally_109 : decode cX4_tally 109 = .ok (.ireturn, 1) := by decide +kernel
theorem dX4_tally_110 : decode cX4_tally 110 = .ok (.aload_n 0, 1) := by decide +kernel
theorem dX4_tally_111 : decode cX4_tally 111 = .ok (.getfield 35, 3) := by decide +kernel
theorem dX4_tally_114 : decode cX4_tally 114 = .ok (.invokevirtual 150, 3) := by decide +kernel
theorem dX4_tally_117 : decode cX4_tally 117 = .ok (.ireturn, 1) := by decide +kernel
theorem dX4_tally_118 : decode cX4_tally 118 = .ok (.aload_n 0, 1) := by decide +kernel
theorem dX4_tally_119 : decode cX4_tally 119 = .ok (.getfield 35, 3) := by decide +kernel
theorem dX4_tally_122 : decode cX4_tally 122 = .ok (.invokevirtual 153, 3) := by decide +kernel
theorem dX4_tally_125 : decode cX4_tally 125 = .ok (.ireturn, 1) := by decide +kernel
theorem dX4_tally_126 : decode cX4_tally 126 = .ok (.iconst (-1), 1) := by decide +kernel
theorem dX4_tally_127 : decode cX4_tally 127 = .ok (.ireturn, 1) := by decide +kernel
set_option maxRecDepth 20000 in
theorem ggX4_elderOf_X0_hasSeat : GoodIn wsX4_elderOf wsX0_hasSeat := goodIn_r _ [7, 8, 34, 35] (by decide +kernel) (by decide +kernel)
set_option maxRecDepth 20000 in
theorem gX4_elderOf_X0_hasSeat : GoodIn wsX4_elderOf (wsV RX4 94 RX0 yX0_hasSeat wsX0_hasSeat) := goodIn_app (goodIn_of _ (by decide +kernel)) ggX4_elderOf_X0_hasSeat
set_option maxRecDepth 20000 in
theorem ggX4_elderOf_X0_elderOn : GoodIn wsX4_elderOf wsX0_elderOn := goodIn_r _ [12, 13, 14, 4, 5, 6, 7, 8, 34, 35] (by decide +kernel) (by decide +kernel)
set_option maxRecDepth 20000 in
theorem gX4_elderOf_X0_elderOn : GoodIn wsX4_elderOf (wsV RX4 132 RX0 yX0_elderOn wsX0_elderOn) := goodIn_app (goodIn_of _ (by decide +kernel)) ggX4_elderOf_X0_elderOn
set_option maxRecDepth 20000 in
theorem ggX4_elderOf_X4_isChanging : GoodIn wsX4_elderOf wsX4_isChanging := goodIn_r _ [19, 20, 21, 22, 23, 24, 25, 26, 27, 28, 29, 30, 31, 32, 33] (by decide +kernel) (by decide +kernel)
set_option maxRecDepth 20000 in
theorem gX4_elderOf_X4_isChanging : GoodIn wsX4_elderOf (wsV RX4 103 RX4 yX4_isChanging wsX4_isChanging) := goodIn_app (goodIn_of _ (by decide +kernel)) ggX4_elderOf_X4_isChanging
theorem dX4_elderOf_0 : decode cX4_elderOf 0 = .ok (.iload_n 1, 1) := by decide +kernel
theorem dX4_elderOf_1 : decode cX4_elderOf 1 = .ok (.ifCond .lt 19, 3) := by decide +kernel
theorem dX4_elderOf_4 : decode cX4_elderOf 4 = .ok (.iload_n 1, 1) := by decide +kernel
theorem dX4_elderOf_5 : decode cX4_elderOf 5 = .ok (.iconst 1, 1) := by decide +kernel
theorem dX4_elderOf_6 : decode cX4_elderOf 6 = .ok (.if_icmp .gt 14, 3) := by decide +kernel
theorem dX4_elderOf_9 : decode cX4_elderOf 9 = .ok (.aload_n 0, 1) := by decide +kernel
theorem dX4_elderOf_10 : decode cX4_elderOf 10 = .ok (.getfield 21, 3) := by decide +kernel
theorem dX4_elderOf_13 : decode cX4_elderOf 13 = .ok (.iload_n 2, 1) := by decide +kernel
theorem dX4_elderOf_14 : decode cX4_elderOf 14 = .ok (.invokevirtual 94, 3) := by decide +kernel
theorem dX4_elderOf_17 : decode cX4_elderOf 17 = .ok (.ifCond .ne 5, 3) := by decide +kernel
theorem dX4_elderOf_20 : decode cX4_elderOf 20 = .ok (.iconst (-1), 1) := by decide +kernel
theorem dX4_elderOf_21 : decode cX4_elderOf 21 = .ok (.ireturn, 1) := by decide +kernel
theorem dX4_elderOf_22 : decode cX4_elderOf 22 = .ok (.iload_n 1, 1) := by decide +kernel
theorem dX4_elderOf_23 : decode cX4_elderOf 23 = .ok (.ifCond .ne 12, 3) := by decide +kernel
theorem dX4_elderOf_26 : decode cX4_elderOf 26 = .ok (.aload_n 0, 1) := by decide +kernel
theorem dX4_elderOf_27 : decode cX4_elderOf 27 = .ok (.getfield 21, 3) := by decide +kernel
theorem dX4_elderOf_30 : decode cX4_elderOf 30 = .ok (.iload_n 2, 1) := by decide +kernel
theorem dX4_elderOf_31 : decode cX4_elderOf 31 = .ok (.invokevirtual 132, 3) := by decide +kernel
theorem dX4_elderOf_34 : decode cX4_elderOf 34 = .ok (.ireturn, 1) := by decide +kernel
theorem dX4_elderOf_35 : decode cX4_elderOf 35 = .ok (.aload_n 0, 1) := by decide +kernel
theorem dX4_elderOf_36 : decode cX4_elderOf 36 = .ok (.invokevirtual 103, 3) := by decide +kernel
theorem dX4_elderOf_39 : decode cX4_elderOf 39 = .ok (.ifCond .eq 14, 3) := by decide +kernel
theorem dX4_elderOf_42 : decode cX4_elderOf 42 = .ok (.aload_n 0, 1) := by decide +kernel
theorem dX4_elderOf_43 : decode cX4_elderOf 43 = .ok (.getfield 25, 3) := by decide +kernel
theorem dX4_elderOf_46 : decode cX4_elderOf 46 = .ok (.iload_n 2, 1) := by decide +kernel
theorem dX4_elderOf_47 : decode cX4_elderOf 47 = .ok (.invokevirtual 132, 3) := by decide +kernel
theorem dX4_elderOf_50 : decode cX4_elderOf 50 = .ok (.goto 5, 3) := by decide +kernel
theorem dX4_elderOf_53 : decode cX4_elderOf 53 = .ok (.bipush (-9), 2) := by decide +kernel
theorem dX4_elderOf_55 : decode cX4_elderOf 55 = .ok (.ireturn, 1) := by decide +kernel
set_option maxRecDepth 20000 in
theorem ggX4_aboutVillager_X4_isVillager : GoodIn wsX4_aboutVillager wsX4_isVillager := goodIn_r _ [10, 11, 26, 27, 28, 29, 30, 31, 32, 33, 34, 35, 36, 37, 38] (by decide +kernel) (by decide +kernel)
set_option maxRecDepth 20000 in
theorem gX4_aboutVillager_X4_isVillager : GoodIn wsX4_aboutVillager (wsV RX4 73 RX4 yX4_isVillager wsX4_isVillager) := goodIn_app (goodIn_of _ (by decide +kernel)) ggX4_aboutVillager_X4_isVillager
set_option maxRecDepth 20000 in
theorem ggX4_aboutVillager_X0_seatOf : GoodIn wsX4_aboutVillager wsX0_seatOf := goodIn_r _ [16, 17, 18, 39, 40] (by decide +kernel) (by decide +kernel)
set_option maxRecDepth 20000 in
theorem gX4_aboutVillager_X0_seatOf : GoodIn wsX4_aboutVillager (wsV RX4 156 RX0 yX0_seatOf wsX0_seatOf) := goodIn_app (goodIn_of _ (by decide +kernel)) ggX4_aboutVillager_X0_seatOf
set_option maxRecDepth 20000 in
theorem ggX4_aboutVillager_X2_drawsOf : GoodIn wsX4_aboutVillager wsX2_drawsOf := goodIn_r _ [23, 24, 25, 41, 42, 43, 44, 45, 46, 47] (by decide +kernel) (by decide +kernel)
set_option maxRecDepth 20000 in
theorem gX4_aboutVillager_X2_drawsOf : GoodIn wsX4_aboutVillager (wsV RX4 159 RX2 yX2_drawsOf wsX2_drawsOf) := goodIn_app (goodIn_of _ (by decide +kernel)) ggX4_aboutVillager_X2_drawsOf
theorem dX4_aboutVillager_0 : decode cX4_aboutVillager 0 = .ok (.aload_n 0, 1) := by decide +kernel
theorem dX4_aboutVillager_1 : decode cX4_aboutVillager 1 = .ok (.iload_n 1, 1) := by decide +kernel
theorem dX4_aboutVillager_2 : decode cX4_aboutVillager 2 = .ok (.invokevirtual 73, 3) := by decide +kernel
theorem dX4_aboutVillager_5 : decode cX4_aboutVillager 5 = .ok (.ifCond .ne 5, 3) := by decide +kernel
theorem dX4_aboutVillager_8 : decode cX4_aboutVillager 8 = .ok (.iconst (-1), 1) := by decide +kernel
theorem dX4_aboutVillager_9 : decode cX4_aboutVillager 9 = .ok (.ireturn, 1) := by decide +kernel
theorem dX4_aboutVillager_10 : decode cX4_aboutVillager 10 = .ok (.iload_n 2, 1) := by decide +kernel
theorem dX4_aboutVillager_11 : decode cX4_aboutVillager 11 = .ok (.tableswitch 74 0 4 #[33, 40, 47, 56, 65], 33) := by decide +kernel
theorem dX4_aboutVillager_44 : decode cX4_aboutVillager 44 = .ok (.aload_n 0, 1) := by decide +kernel
theorem dX4_aboutVillager_45 : decode cX4_aboutVillager 45 = .ok (.getfield 9, 3) := by decide +kernel
theorem dX4_aboutVillager_48 : decode cX4_aboutVillager 48 = .ok (.iload_n 1, 1) := by decide +kernel
theorem dX4_aboutVillager_49 : decode cX4_aboutVillager 49 = .ok (.iaload, 1) := by decide +kernel
theorem dX4_aboutVillager_50 : decode cX4_aboutVillager 50 = .ok (.ireturn, 1) := by decide +kernel
theorem dX4_aboutVillager_51 : decode cX4_aboutVillager 51 = .ok (.aload_n 0, 1) := by decide +kernel
theorem dX4_aboutVillager_52 : decode cX4_aboutVillager 52 = .ok (.getfield 15, 3) := by decide +kernel
theorem dX4_aboutVillager_55 : decode cX4_aboutVillager 55 = .ok (.iload_n 1, 1) := by decide +kernel
theorem dX4_aboutVillager_56 : decode cX4_aboutVillager 56 = .ok (.iaload, 1) := by decide +kernel
theorem dX4_aboutVillager_57 : decode cX4_aboutVillager 57 = .ok (.ireturn, 1) := by decide +kernel
theorem dX4_aboutVillager_58 : decode cX4_aboutVillager 58 = .ok (.aload_n 0, 1) := by decide +kernel
theorem dX4_aboutVillager_59 : decode cX4_aboutVillager 59 = .ok (.getfield 21, 3) := by decide +kernel
theorem dX4_aboutVillager_62 : decode cX4_aboutVillager 62 = .ok (.iload_n 1, 1) := by decide +kernel
theorem dX4_aboutVillager_63 : decode cX4_aboutVillager 63 = .ok (.invokevirtual 156, 3) := by decide +kernel
theorem dX4_aboutVillager_66 : decode cX4_aboutVillager 66 = .ok (.ireturn, 1) := by decide +kernel
theorem dX4_aboutVillager_67 : decode cX4_aboutVillager 67 = .ok (.aload_n 0, 1) := by decide +kernel
theorem dX4_aboutVillager_68 : decode cX4_aboutVillager 68 = .ok (.getfield 25, 3) := by decide +kernel
theorem dX4_aboutVillager_71 : decode cX4_aboutVillager 71 = .ok (.iload_n 1, 1) := by decide +kernel
theorem dX4_aboutVillager_72 : decode cX4_aboutVillager 72 = .ok (.invokevirtual 156, 3) := by decide +kernel
theorem dX4_aboutVillager_75 : decode cX4_aboutVillager 75 = .ok (.ireturn, 1) := by decide +kernel
theorem dX4_aboutVillager_76 : decode cX4_aboutVillager 76 = .ok (.aload_n 0, 1) := by decide +kernel
theorem dX4_aboutVillager_77 : decode cX4_aboutVillager 77 = .ok (.getfield 35, 3) := by decide +kernel
theorem dX4_aboutVillager_80 : decode cX4_aboutVillager 80 = .ok (.iload_n 1, 1) := by decide +kernel
theorem dX4_aboutVillager_81 : decode cX4_aboutVillager 81 = .ok (.invokevirtual 159, 3) := by decide +kernel
theorem dX4_aboutVillager_84 : decode cX4_aboutVillager 84 = .ok (.ireturn, 1) := by decide +kernel
theorem dX4_aboutVillager_85 : decode cX4_aboutVillager 85 = .ok (.iconst (-1), 1) := by decide +kernel
theorem dX4_aboutVillager_86 : decode cX4_aboutVillager 86 = .ok (.ireturn, 1) := by decide +kernel
set_option maxRecDepth 20000 in
theorem ggX4_aboutEntry_X4_isEntry : GoodIn wsX4_aboutEntry wsX4_isEntry := goodIn_r _ [11, 12, 51, 52, 53, 54, 55, 56, 57, 58, 59, 60, 61, 62, 63] (by decide +kernel) (by decide +kernel)
set_option maxRecDepth 20000 in
theorem gX4_aboutEntry_X4_isEntry : GoodIn wsX4_aboutEntry (wsV RX4 138 RX4 yX4_isEntry wsX4_isEntry) := goodIn_app (goodIn_of _ (by decide +kernel)) ggX4_aboutEntry_X4_isEntry
set_option maxRecDepth 20000 in
theorem ggX4_aboutEntry_X4_copies : GoodIn wsX4_aboutEntry wsX4_copies := goodIn_r _ [16, 17, 18, 19, 20, 10, 21, 22, 23, 24, 25, 26, 51, 52, 53, 54, 55, 56, 57, 58, 59, 60, 61, 62, 63] (by decide +kernel) (by decide +kernel)
set_option maxRecDepth 20000 in
theorem gX4_aboutEntry_X4_copies : GoodIn wsX4_aboutEntry (wsV RX4 162 RX4 yX4_copies wsX4_copies) := goodIn_app (goodIn_of _ (by decide +kernel)) ggX4_aboutEntry_X4_copies
set_option maxRecDepth 20000 in
theorem ggX4_aboutEntry_X4_holders : GoodIn wsX4_aboutEntry wsX4_holders := goodIn_r _ [30, 31, 32, 33, 34, 35, 36, 37, 38, 39, 40, 41, 42, 43, 44, 45, 18, 19, 20, 10, 21, 22, 23, 24, 25, 26, 17, 46, 47, 48, 49, 50, 64, 65, 51, 52, 53, 54, 55, 56, 57, 58, 59, 60, 61, 62, 63] (by decide +kernel) (by decide +kernel)
set_option maxRecDepth 20000 in
theorem gX4_aboutEntry_X4_holders : GoodIn wsX4_aboutEntry (wsV RX4 165 RX4 yX4_holders wsX4_holders) := goodIn_app (goodIn_of _ (by decide +kernel)) ggX4_aboutEntry_X4_holders
theorem dX4_aboutEntry_0 : decode cX4_aboutEntry 0 = .ok (.aload_n 0, 1) := by decide +kernel
theorem dX4_aboutEntry_1 : decode cX4_aboutEntry 1 = .ok (.iload_n 1, 1) := by decide +kernel
theorem dX4_aboutEntry_2 : decode cX4_aboutEntry 2 = .ok (.invokevirtual 138, 3) := by decide +kernel
theorem dX4_aboutEntry_5 : decode cX4_aboutEntry 5 = .ok (.ifCond .ne 5, 3) := by decide +kernel
theorem dX4_aboutEntry_8 : decode cX4_aboutEntry 8 = .ok (.iconst (-1), 1) := by decide +kernel
theorem dX4_aboutEntry_9 : decode cX4_aboutEntry 9 = .ok (.ireturn, 1) := by decide +kernel
theorem dX4_aboutEntry_10 : decode cX4_aboutEntry 10 = .ok (.iload_n 2, 1) := by decide +kernel
theorem dX4_aboutEntry_11 : decode cX4_aboutEntry 11 = .ok (.tableswitch 104 0 6 #[41, 48, 55, 69, 75, 82, 93], 41) := by decide +kernel
theorem dX4_aboutEntry_52 : decode cX4_aboutEntry 52 = .ok (.aload_n 0, 1) := by decide +kernel
theorem dX4_aboutEntry_53 : decode cX4_aboutEntry 53 = .ok (.getfield 39, 3) := by decide +kernel
theorem dX4_aboutEntry_56 : decode cX4_aboutEntry 56 = .ok (.iload_n 1, 1) := by decide +kernel
theorem dX4_aboutEntry_57 : decode cX4_aboutEntry 57 = .ok (.iaload, 1) := by decide +kernel
theorem dX4_aboutEntry_58 : decode cX4_aboutEntry 58 = .ok (.ireturn, 1) := by decide +kernel
theorem dX4_aboutEntry_59 : decode cX4_aboutEntry 59 = .ok (.aload_n 0, 1) := by decide +kernel
theorem dX4_aboutEntry_60 : decode cX4_aboutEntry 60 = .ok (.getfield 42, 3) := by decide +kernel
theorem dX4_aboutEntry_63 : decode cX4_aboutEntry 63 = .ok (.iload_n 1, 1) := by decide +kernel
theorem dX4_aboutEntry_64 : decode cX4_aboutEntry 64 = .ok (.iaload, 1) := by decide +kernel
theorem dX4_aboutEntry_65 : decode cX4_aboutEntry 65 = .ok (.ireturn, 1) := by decide +kernel
theorem dX4_aboutEntry_66 : decode cX4_aboutEntry 66 = .ok (.iload_n 1, 1) := by decide +kernel
theorem dX4_aboutEntry_67 : decode cX4_aboutEntry 67 = .ok (.aload_n 0, 1) := by decide +kernel
theorem dX4_aboutEntry_68 : decode cX4_aboutEntry 68 = .ok (.getfield 70, 3) := by decide +kernel
theorem dX4_aboutEntry_71 : decode cX4_aboutEntry 71 = .ok (.if_icmp .ge 7, 3) := by decide +kernel
theorem dX4_aboutEntry_74 : decode cX4_aboutEntry 74 = .ok (.iconst 1, 1) := by decide +kernel
theorem dX4_aboutEntry_75 : decode cX4_aboutEntry 75 = .ok (.goto 4, 3) := by decide +kernel
theorem dX4_aboutEntry_78 : decode cX4_aboutEntry 78 = .ok (.iconst 0, 1) := by decide +kernel
theorem dX4_aboutEntry_79 : decode cX4_aboutEntry 79 = .ok (.ireturn, 1) := by decide +kernel
theorem dX4_aboutEntry_80 : decode cX4_aboutEntry 80 = .ok (.aload_n 0, 1) := by decide +kernel
theorem dX4_aboutEntry_81 : decode cX4_aboutEntry 81 = .ok (.iload_n 1, 1) := by decide +kernel
theorem dX4_aboutEntry_82 : decode cX4_aboutEntry 82 = .ok (.invokevirtual 162, 3) := by decide +kernel
theorem dX4_aboutEntry_85 : decode cX4_aboutEntry 85 = .ok (.ireturn, 1) := by decide +kernel
theorem dX4_aboutEntry_86 : decode cX4_aboutEntry 86 = .ok (.aload_n 0, 1) := by decide +kernel
theorem dX4_aboutEntry_87 : decode cX4_aboutEntry 87 = .ok (.getfield 45, 3) := by decide +kernel
theorem dX4_aboutEntry_90 : decode cX4_aboutEntry 90 = .ok (.iload_n 1, 1) := by decide +kernel
theorem dX4_aboutEntry_91 : decode cX4_aboutEntry 91 = .ok (.iaload, 1) := by decide +kernel
theorem dX4_aboutEntry_92 : decode cX4_aboutEntry 92 = .ok (.ireturn, 1) := by decide +kernel
theorem dX4_aboutEntry_93 : decode cX4_aboutEntry 93 = .ok (.aload_n 0, 1) := by decide +kernel
theorem dX4_aboutEntry_94 : decode cX4_aboutEntry 94 = .ok (.aload_n 0, 1) := by decide +kernel
theorem dX4_aboutEntry_95 : decode cX4_aboutEntry 95 = .ok (.getfield 21, 3) := by decide +kernel
theorem dX4_aboutEntry_98 : decode cX4_aboutEntry 98 = .ok (.iload_n 1, 1) := by decide +kernel
theorem dX4_aboutEntry_99 : decode cX4_aboutEntry 99 = .ok (.iconst 0, 1) := by decide +kernel
theorem dX4_aboutEntry_100 : decode cX4_aboutEntry 100 = .ok (.invokevirtual 165, 3) := by decide +kernel
theorem dX4_aboutEntry_103 : decode cX4_aboutEntry 103 = .ok (.ireturn, 1) := by decide +kernel
theorem dX4_aboutEntry_104 : decode cX4_aboutEntry 104 = .ok (.aload_n 0, 1) := by decide +kernel
theorem dX4_aboutEntry_105 : decode cX4_aboutEntry 105 = .ok (.aload_n 0, 1) := by decide +kernel
theorem dX4_aboutEntry_106 : decode cX4_aboutEntry 106 = .ok (.getfield 25, 3) := by decide +kernel
theorem dX4_aboutEntry_109 : decode cX4_aboutEntry 109 = .ok (.iload_n 1, 1) := by decide +kernel
theorem dX4_aboutEntry_110 : decode cX4_aboutEntry 110 = .ok (.iconst 0, 1) := by decide +kernel
theorem dX4_aboutEntry_111 : decode cX4_aboutEntry 111 = .ok (.invokevirtual 165, 3) := by decide +kernel
theorem dX4_aboutEntry_114 : decode cX4_aboutEntry 114 = .ok (.ireturn, 1) := by decide +kernel
theorem dX4_aboutEntry_115 : decode cX4_aboutEntry 115 = .ok (.iconst (-1), 1) := by decide +kernel
theorem dX4_aboutEntry_116 : decode cX4_aboutEntry 116 = .ok (.ireturn, 1) := by decide +kernel
set_option maxRecDepth 20000 in
theorem ggX4_aboutDraw_X2_about : GoodIn wsX4_aboutDraw wsX2_about := goodIn_r _ [6, 7, 8, 9, 10, 11, 12, 13, 14, 5, 15, 16, 30, 31, 32, 33, 34, 35, 36] (by decide +kernel) (by decide +kernel)
set_option maxRecDepth 20000 in
theorem gX4_aboutDraw_X2_about : GoodIn wsX4_aboutDraw (wsV RX4 169 RX2 yX2_about wsX2_about) := goodIn_app (goodIn_of _ (by decide +kernel)) ggX4_aboutDraw_X2_about
theorem dX4_aboutDraw_0 : decode cX4_aboutDraw 0 = .ok (.aload_n 0, 1) := by decide +kernel
theorem dX4_aboutDraw_1 : decode cX4_aboutDraw 1 = .ok (.getfield 35, 3) := by decide +kernel
theorem dX4_aboutDraw_4 : decode cX4_aboutDraw 4 = .ok (.iload_n 1, 1) := by decide +kernel
theorem dX4_aboutDraw_5 : decode cX4_aboutDraw 5 = .ok (.iload_n 2, 1) := by decide +kernel
theorem dX4_aboutDraw_6 : decode cX4_aboutDraw 6 = .ok (.invokevirtual 169, 3) := by decide +kernel
theorem dX4_aboutDraw_9 : decode cX4_aboutDraw 9 = .ok (.ireturn, 1) := by decide +kernel
set_option maxRecDepth 20000 in
theorem ggX4_missingElders_X4_isEntry : GoodIn wsX4_missingElders wsX4_isEntry := goodIn_r _ [6, 7, 84, 85, 86, 87, 88, 89, 90, 91, 92, 93, 94, 95, 96] (by decide +kernel) (by decide +kernel)
set_option maxRecDepth 20000 in
theorem gX4_missingElders_X4_isEntry : GoodIn wsX4_missingElders (wsV RX4 138 RX4 yX4_isEntry wsX4_isEntry) := goodIn_app (goodIn_of _ (by decide +kernel)) ggX4_missingElders_X4_isEntry
set_option maxRecDepth 20000 in
theorem ggX4_missingElders_X4_oldCounts : GoodIn wsX4_missingElders wsX4_oldCounts := goodIn_r _ [11, 12, 13, 14, 15, 5, 16, 84, 85, 86, 87, 88, 89, 90, 91, 92, 93, 94, 95, 96] (by decide +kernel) (by decide +kernel)
set_option maxRecDepth 20000 in
theorem gX4_missingElders_X4_oldCounts : GoodIn wsX4_missingElders (wsV RX4 172 RX4 yX4_oldCounts wsX4_oldCounts) := goodIn_app (goodIn_of _ (by decide +kernel)) ggX4_missingElders_X4_oldCounts
set_option maxRecDepth 20000 in
theorem ggX4_missingElders_X4_fewestToSecond : GoodIn wsX4_missingElders wsX4_fewestToSecond := goodIn_r _ [20, 21, 22, 23, 24, 25, 26, 27, 28, 29, 5, 30, 31, 32, 33, 34, 35, 36, 37, 38, 39, 40, 41, 42, 43, 44, 45, 46, 47, 48, 49, 50, 51, 52, 53, 54, 55, 56, 57, 58, 59, 60, 61, 62, 63, 64, 65, 66, 67, 68, 69, 70, 71, 72, 73, 74, 75, 76, 77, 78, 79, 80, 81, 82, 83, 84, 85, 86, 87, 88, 89, 90, 91, 92, 93, 94, 95, 96, 97, 98] (by decide +kernel) (by decide +kernel)
set_option maxRecDepth 20000 in
theorem gX4_missingElders_X4_fewestToSecond : GoodIn wsX4_missingElders (wsV RX4 175 RX4 yX4_fewestToSecond wsX4_fewestToSecond) := goodIn_app (goodIn_of _ (by decide +kernel)) ggX4_missingElders_X4_fewestToSecond
theorem dX4_missingElders_0 : decode cX4_missingElders 0 = .ok (.aload_n 0, 1) := by decide +kernel
theorem dX4_missingElders_1 : decode cX4_missingElders 1 = .ok (.iload_n 1, 1) := by decide +kernel
theorem dX4_missingElders_2 : decode cX4_missingElders 2 = .ok (.invokevirtual 138, 3) := by decide +kernel
theorem dX4_missingElders_5 : decode cX4_missingElders 5 = .ok (.ifCond .ne 5, 3) := by decide +kernel
theorem dX4_missingElders_8 : decode cX4_missingElders 8 = .ok (.iconst (-1), 1) := by decide +kernel
theorem dX4_missingElders_9 : decode cX4_missingElders 9 = .ok (.ireturn, 1) := by decide +kernel
theorem dX4_missingElders_10 : decode cX4_missingElders 10 = .ok (.iload_n 1, 1) := by decide +kernel
theorem dX4_missingElders_11 : decode cX4_missingElders 11 = .ok (.aload_n 0, 1) := by decide +kernel
theorem dX4_missingElders_12 : decode cX4_missingElders 12 = .ok (.getfield 70, 3) := by decide +kernel
theorem dX4_missingElders_15 : decode cX4_missingElders 15 = .ok (.if_icmp .ge 7, 3) := by decide +kernel
theorem dX4_missingElders_18 : decode cX4_missingElders 18 = .ok (.iconst 0, 1) := by decide +kernel
theorem dX4_missingElders_19 : decode cX4_missingElders 19 = .ok (.goto 13, 3) := by decide +kernel
theorem dX4_missingElders_22 : decode cX4_missingElders 22 = .ok (.aload_n 0, 1) := by decide +kernel
theorem dX4_missingElders_23 : decode cX4_missingElders 23 = .ok (.iload_n 1, 1) := by decide +kernel
theorem dX4_missingElders_24 : decode cX4_missingElders 24 = .ok (.aload_n 0, 1) := by decide +kernel
theorem dX4_missingElders_25 : decode cX4_missingElders 25 = .ok (.iload_n 1, 1) := by decide +kernel
theorem dX4_missingElders_26 : decode cX4_missingElders 26 = .ok (.invokevirtual 172, 3) := by decide +kernel
theorem dX4_missingElders_29 : decode cX4_missingElders 29 = .ok (.invokevirtual 175, 3) := by decide +kernel
theorem dX4_missingElders_32 : decode cX4_missingElders 32 = .ok (.ireturn, 1) := by decide +kernel
set_option maxRecDepth 20000 in
theorem ggX4_reachableEntries_X4_isSupported : GoodIn wsX4_reachableEntries wsX4_isSupported := goodIn_r _ [7, 8, 9, 10, 11, 12, 6, 13, 14, 15, 16, 17, 18, 19, 20, 21, 22, 23, 24, 25, 26, 27, 28, 29, 30, 31, 32, 33, 34, 35, 36, 37, 38, 39, 40, 41, 42, 43, 44, 45, 46, 47, 48, 49, 50, 51, 52, 53, 54, 55, 56, 57, 58, 59, 60, 61, 62, 63, 64, 65, 66, 67, 68, 69, 70, 71] (by decide +kernel) (by decide +kernel)
set_option maxRecDepth 20000 in
theorem gX4_reachableEntries_X4_isSupported : GoodIn wsX4_reachableEntries (wsV RX4 179 RX4 yX4_isSupported wsX4_isSupported) := goodIn_app (goodIn_of _ (by decide +kernel)) ggX4_reachableEntries_X4_isSupported
theorem dX4_reachableEntries_0 : decode cX4_reachableEntries 0 = .ok (.aload_n 0, 1) := by decide +kernel
theorem dX4_reachableEntries_1 : decode cX4_reachableEntries 1 = .ok (.getfield 70, 3) := by decide +kernel
theorem dX4_reachableEntries_4 : decode cX4_reachableEntries 4 = .ok (.istore_n 1, 1) := by decide +kernel
theorem dX4_reachableEntries_5 : decode cX4_reachableEntries 5 = .ok (.iload_n 1, 1) := by decide +kernel
theorem dX4_reachableEntries_6 : decode cX4_reachableEntries 6 = .ok (.aload_n 0, 1) := by decide +kernel
theorem dX4_reachableEntries_7 : decode cX4_reachableEntries 7 = .ok (.getfield 67, 3) := by decide +kernel
theorem dX4_reachableEntries_10 : decode cX4_reachableEntries 10 = .ok (.if_icmp .ge 18, 3) := by decide +kernel
theorem dX4_reachableEntries_13 : decode cX4_reachableEntries 13 = .ok (.aload_n 0, 1) := by decide +kernel
theorem dX4_reachableEntries_14 : decode cX4_reachableEntries 14 = .ok (.iload_n 1, 1) := by decide +kernel
theorem dX4_reachableEntries_15 : decode cX4_reachableEntries 15 = .ok (.iconst 1, 1) := by decide +kernel
theorem dX4_reachableEntries_16 : decode cX4_reachableEntries 16 = .ok (.invokevirtual 179, 3) := by decide +kernel
theorem dX4_reachableEntries_19 : decode cX4_reachableEntries 19 = .ok (.ifCond .eq 9, 3) := by decide +kernel
theorem dX4_reachableEntries_22 : decode cX4_reachableEntries 22 = .ok (.iinc 1 1, 3) := by decide +kernel
theorem dX4_reachableEntries_25 : decode cX4_reachableEntries 25 = .ok (.goto (-20), 3) := by decide +kernel
theorem dX4_reachableEntries_28 : decode cX4_reachableEntries 28 = .ok (.iload_n 1, 1) := by decide +kernel
theorem dX4_reachableEntries_29 : decode cX4_reachableEntries 29 = .ok (.aload_n 0, 1) := by decide +kernel
theorem dX4_reachableEntries_30 : decode cX4_reachableEntries 30 = .ok (.getfield 70, 3) := by decide +kernel
theorem dX4_reachableEntries_33 : decode cX4_reachableEntries 33 = .ok (.isub, 1) := by decide +kernel
theorem dX4_reachableEntries_34 : decode cX4_reachableEntries 34 = .ok (.ireturn, 1) := by decide +kernel
set_option maxRecDepth 20000 in
theorem ggX4_drawnNext_X0_hasSeat : GoodIn wsX4_drawnNext wsX0_hasSeat := goodIn_r _ [7, 8, 60, 61] (by decide +kernel) (by decide +kernel)
set_option maxRecDepth 20000 in
theorem gX4_drawnNext_X0_hasSeat : GoodIn wsX4_drawnNext (wsV RX4 94 RX0 yX0_hasSeat wsX0_hasSeat) := goodIn_app (goodIn_of _ (by decide +kernel)) ggX4_drawnNext_X0_hasSeat
set_option maxRecDepth 20000 in
theorem ggX4_drawnNext_X4_isChanging : GoodIn wsX4_drawnNext wsX4_isChanging := goodIn_r _ [13, 14, 47, 48, 49, 50, 51, 52, 53, 54, 55, 56, 57, 58, 59] (by decide +kernel) (by decide +kernel)
set_option maxRecDepth 20000 in
theorem gX4_drawnNext_X4_isChanging : GoodIn wsX4_drawnNext (wsV RX4 103 RX4 yX4_isChanging wsX4_isChanging) := goodIn_app (goodIn_of _ (by decide +kernel)) ggX4_drawnNext_X4_isChanging
set_option maxRecDepth 20000 in
theorem ggX4_drawnNext_X2_state : GoodIn wsX4_drawnNext wsX2_state := goodIn_r _ [19, 20, 62, 63, 64, 65, 66, 67, 68] (by decide +kernel) (by decide +kernel)
set_option maxRecDepth 20000 in
theorem gX4_drawnNext_X2_state : GoodIn wsX4_drawnNext (wsV RX4 97 RX2 yX2_state wsX2_state) := goodIn_app (goodIn_of _ (by decide +kernel)) ggX4_drawnNext_X2_state
set_option maxRecDepth 20000 in
theorem ggX4_drawnNext_X4_drawnWith : GoodIn wsX4_drawnNext wsX4_drawnWith := goodIn_r _ [24, 25, 1, 26, 27, 28, 12, 29, 30, 31, 32, 33, 34, 35, 36, 6, 37, 38, 39, 40, 41, 8, 42, 43, 44, 18, 45, 46, 47, 48, 49, 50, 51, 52, 53, 54, 55, 56, 57, 58, 59, 60, 61] (by decide +kernel) (by decide +kernel)
set_option maxRecDepth 20000 in
theorem gX4_drawnNext_X4_drawnWith : GoodIn wsX4_drawnNext (wsV RX4 100 RX4 yX4_drawnWith wsX4_drawnWith) := goodIn_app (goodIn_of _ (by decide +kernel)) ggX4_drawnNext_X4_drawnWith
theorem dX4_drawnNext_0 : decode cX4_drawnNext 0 = .ok (.aload_n 0, 1) := by decide +kernel
theorem dX4_drawnNext_1 : decode cX4_drawnNext 1 = .ok (.getfield 21, 3) := by decide +kernel
theorem dX4_drawnNext_4 : decode cX4_drawnNext 4 = .ok (.iload_n 1, 1) := by decide +kernel
theorem dX4_drawnNext_5 : decode cX4_drawnNext 5 = .ok (.invokevirtual 94, 3) := by decide +kernel
theorem dX4_drawnNext_8 : decode cX4_drawnNext 8 = .ok (.ifCond .ne 5, 3) := by decide +kernel
theorem dX4_drawnNext_11 : decode cX4_drawnNext 11 = .ok (.iconst (-1), 1) := by decide +kernel
theorem dX4_drawnNext_12 : decode cX4_drawnNext 12 = .ok (.ireturn, 1) := by decide +kernel
theorem dX4_drawnNext_13 : decode cX4_drawnNext 13 = .ok (.aload_n 0, 1) := by decide +kernel
theorem dX4_drawnNext_14 : decode cX4_drawnNext 14 = .ok (.invokevirtual 103, 3) := by decide +kernel
theorem dX4_drawnNext_17 : decode cX4_drawnNext 17 = .ok (.ifCond .eq 8, 3) := by decide +kernel
theorem dX4_drawnNext_20 : decode cX4_drawnNext 20 = .ok (.bipush (-2), 2) := by decide +kernel
theorem dX4_drawnNext_22 : decode cX4_drawnNext 22 = .ok (.goto 14, 3) := by decide +kernel
theorem dX4_drawnNext_25 : decode cX4_drawnNext 25 = .ok (.aload_n 0, 1) := by decide +kernel
theorem dX4_drawnNext_26 : decode cX4_drawnNext 26 = .ok (.aload_n 0, 1) := by decide +kernel
theorem dX4_drawnNext_27 : decode cX4_drawnNext 27 = .ok (.getfield 35, 3) := by decide +kernel
theorem dX4_drawnNext_30 : decode cX4_drawnNext 30 = .ok (.invokevirtual 97, 3) := by decide +kernel
theorem dX4_drawnNext_33 : decode cX4_drawnNext 33 = .ok (.invokevirtual 100, 3) := by decide +kernel
theorem dX4_drawnNext_36 : decode cX4_drawnNext 36 = .ok (.ireturn, 1) := by decide +kernel
set_option maxRecDepth 20000 in
theorem ggX4_spareVillagers_X0_isEmpty : GoodIn wsX4_spareVillagers wsX0_isEmpty := goodIn_r _ [8, 9, 92, 93] (by decide +kernel) (by decide +kernel)
set_option maxRecDepth 20000 in
theorem gX4_spareVillagers_X0_isEmpty : GoodIn wsX4_spareVillagers (wsV RX4 81 RX0 yX0_isEmpty wsX0_isEmpty) := goodIn_app (goodIn_of _ (by decide +kernel)) ggX4_spareVillagers_X0_isEmpty
set_option maxRecDepth 20000 in
theorem ggX4_spareVillagers_X4_isChanging : GoodIn wsX4_spareVillagers wsX4_isChanging := goodIn_r _ [14, 15, 79, 80, 81, 82, 83, 84, 85, 86, 87, 88, 89, 90, 91] (by decide +kernel) (by decide +kernel)
set_option maxRecDepth 20000 in
theorem gX4_spareVillagers_X4_isChanging : GoodIn wsX4_spareVillagers (wsV RX4 103 RX4 yX4_isChanging wsX4_isChanging) := goodIn_app (goodIn_of _ (by decide +kernel)) ggX4_spareVillagers_X4_isChanging
set_option maxRecDepth 20000 in
theorem ggX4_spareVillagers_X4_fewestToSecond : GoodIn wsX4_spareVillagers wsX4_fewestToSecond := goodIn_r _ [19, 20, 1, 21, 22, 23, 24, 25, 26, 27, 13, 28, 29, 30, 31, 32, 33, 34, 7, 35, 9, 36, 37, 38, 39, 40, 41, 42, 43, 44, 45, 46, 47, 48, 49, 50, 51, 52, 53, 54, 55, 56, 57, 58, 59, 60, 61, 2, 62, 63, 64, 65, 66, 67, 68, 69, 70, 71, 72, 73, 74, 75, 76, 77, 78, 79, 80, 81, 82, 83, 84, 85, 86, 87, 88, 89, 90, 91, 92, 93] (by decide +kernel) (by decide +kernel)
set_option maxRecDepth 20000 in
theorem gX4_spareVillagers_X4_fewestToSecond : GoodIn wsX4_spareVillagers (wsV RX4 175 RX4 yX4_fewestToSecond wsX4_fewestToSecond) := goodIn_app (goodIn_of _ (by decide +kernel)) ggX4_spareVillagers_X4_fewestToSecond
theorem dX4_spareVillagers_0 : decode cX4_spareVillagers 0 = .ok (.aload_n 0, 1) := by decide +kernel
theorem dX4_spareVillagers_1 : decode cX4_spareVillagers 1 = .ok (.getfield 21, 3) := by decide +kernel
theorem dX4_spareVillagers_4 : decode cX4_spareVillagers 4 = .ok (.invokevirtual 81, 3) := by decide +kernel
theorem dX4_spareVillagers_7 : decode cX4_spareVillagers 7 = .ok (.ifCond .eq 6, 3) := by decide +kernel
theorem dX4_spareVillagers_10 : decode cX4_spareVillagers 10 = .ok (.bipush (-9), 2) := by decide +kernel
theorem dX4_spareVillagers_12 : decode cX4_spareVillagers 12 = .ok (.ireturn, 1) := by decide +kernel
theorem dX4_spareVillagers_13 : decode cX4_spareVillagers 13 = .ok (.aload_n 0, 1) := by decide +kernel
theorem dX4_spareVillagers_14 : decode cX4_spareVillagers 14 = .ok (.getfield 48, 3) := by decide +kernel
theorem dX4_spareVillagers_17 : decode cX4_spareVillagers 17 = .ok (.aload_n 0, 1) := by decide +kernel
theorem dX4_spareVillagers_18 : decode cX4_spareVillagers 18 = .ok (.aload_n 0, 1) := by decide +kernel
theorem dX4_spareVillagers_19 : decode cX4_spareVillagers 19 = .ok (.getfield 67, 3) := by decide +kernel
theorem dX4_spareVillagers_22 : decode cX4_spareVillagers 22 = .ok (.aload_n 0, 1) := by decide +kernel
theorem dX4_spareVillagers_23 : decode cX4_spareVillagers 23 = .ok (.invokevirtual 103, 3) := by decide +kernel
theorem dX4_spareVillagers_26 : decode cX4_spareVillagers 26 = .ok (.invokevirtual 175, 3) := by decide +kernel
theorem dX4_spareVillagers_29 : decode cX4_spareVillagers 29 = .ok (.isub, 1) := by decide +kernel
theorem dX4_spareVillagers_30 : decode cX4_spareVillagers 30 = .ok (.ireturn, 1) := by decide +kernel
set_option maxRecDepth 20000 in
theorem ggX4_lotToDraw_X4_isVillager : GoodIn wsX4_lotToDraw wsX4_isVillager := goodIn_r _ [7, 8, 42, 43, 44, 45, 46, 47, 48, 49, 50, 51, 52, 53, 54] (by decide +kernel) (by decide +kernel)
set_option maxRecDepth 20000 in
theorem gX4_lotToDraw_X4_isVillager : GoodIn wsX4_lotToDraw (wsV RX4 73 RX4 yX4_isVillager wsX4_isVillager) := goodIn_app (goodIn_of _ (by decide +kernel)) ggX4_lotToDraw_X4_isVillager
set_option maxRecDepth 20000 in
theorem ggX4_lotToDraw_X0_hasSeat : GoodIn wsX4_lotToDraw wsX0_hasSeat := goodIn_r _ [13, 14, 55, 56] (by decide +kernel) (by decide +kernel)
set_option maxRecDepth 20000 in
theorem gX4_lotToDraw_X0_hasSeat : GoodIn wsX4_lotToDraw (wsV RX4 94 RX0 yX0_hasSeat wsX0_hasSeat) := goodIn_app (goodIn_of _ (by decide +kernel)) ggX4_lotToDraw_X0_hasSeat
set_option maxRecDepth 20000 in
theorem ggX4_lotToDraw_X4_isChanging : GoodIn wsX4_lotToDraw wsX4_isChanging := goodIn_r _ [18, 19, 42, 43, 44, 45, 46, 47, 48, 49, 50, 51, 52, 53, 54] (by decide +kernel) (by decide +kernel)
set_option maxRecDepth 20000 in
theorem gX4_lotToDraw_X4_isChanging : GoodIn wsX4_lotToDraw (wsV RX4 103 RX4 yX4_isChanging wsX4_isChanging) := goodIn_app (goodIn_of _ (by decide +kernel)) ggX4_lotToDraw_X4_isChanging
set_option maxRecDepth 20000 in
theorem ggX4_lotToDraw_X4_candidates : GoodIn wsX4_lotToDraw wsX4_candidates := goodIn_r _ [23, 8, 24, 25, 26, 6, 27, 1, 28, 29, 30, 12, 31, 32, 33, 34, 35, 14, 36, 42, 43, 44, 45, 46, 47, 48, 49, 50, 51, 52, 53, 54, 55, 56] (by decide +kernel) (by decide +kernel)
set_option maxRecDepth 20000 in
theorem gX4_lotToDraw_X4_candidates : GoodIn wsX4_lotToDraw (wsV RX4 109 RX4 yX4_candidates wsX4_candidates) := goodIn_app (goodIn_of _ (by decide +kernel)) ggX4_lotToDraw_X4_candidates
set_option maxRecDepth 20000 in
theorem ggX4_lotToDraw_X0_has : GoodIn wsX4_lotToDraw wsX0_has := goodIn_r _ [31, 32, 33, 34, 12, 35, 14, 36, 55, 56] (by decide +kernel) (by decide +kernel)
set_option maxRecDepth 20000 in
theorem gX4_lotToDraw_X0_has : GoodIn wsX4_lotToDraw (wsV RX4 183 RX0 yX0_has wsX0_has) := goodIn_app (goodIn_of _ (by decide +kernel)) ggX4_lotToDraw_X0_has
set_option maxRecDepth 20000 in
theorem ggX4_lotToDraw_X4_candidatesBefore : GoodIn wsX4_lotToDraw wsX4_candidatesBefore := goodIn_r _ [27, 1, 28, 29, 30, 12, 31, 32, 33, 34, 35, 14, 36, 42, 43, 44, 45, 46, 47, 48, 49, 50, 51, 52, 53, 54, 55, 56] (by decide +kernel) (by decide +kernel)
set_option maxRecDepth 20000 in
theorem gX4_lotToDraw_X4_candidatesBefore : GoodIn wsX4_lotToDraw (wsV RX4 186 RX4 yX4_candidatesBefore wsX4_candidatesBefore) := goodIn_app (goodIn_of _ (by decide +kernel)) ggX4_lotToDraw_X4_candidatesBefore
set_option maxRecDepth 20000 in
theorem ggX4_lotToDraw_X2_after : GoodIn wsX4_lotToDraw wsX2_after := goodIn_r _ [40, 41] (by decide +kernel) (by decide +kernel)
set_option maxRecDepth 20000 in
theorem gX4_lotToDraw_X2_after : GoodIn wsX4_lotToDraw (va_wsS RX4 189 yX2_after wsX2_after) := goodIn_app (goodIn_of _ (by decide +kernel)) ggX4_lotToDraw_X2_after
theorem dX4_lotToDraw_0 : decode cX4_lotToDraw 0 = .ok (.aload_n 0, 1) := by decide +kernel
theorem dX4_lotToDraw_1 : decode cX4_lotToDraw 1 = .ok (.iload_n 1, 1) := by decide +kernel
theorem dX4_lotToDraw_2 : decode cX4_lotToDraw 2 = .ok (.invokevirtual 73, 3) := by decide +kernel
theorem dX4_lotToDraw_5 : decode cX4_lotToDraw 5 = .ok (.ifCond .eq 14, 3) := by decide +kernel
theorem dX4_lotToDraw_8 : decode cX4_lotToDraw 8 = .ok (.aload_n 0, 1) := by decide +kernel
theorem dX4_lotToDraw_9 : decode cX4_lotToDraw 9 = .ok (.getfield 21, 3) := by decide +kernel
theorem dX4_lotToDraw_12 : decode cX4_lotToDraw 12 = .ok (.iload_n 2, 1) := by decide +kernel
theorem dX4_lotToDraw_13 : decode cX4_lotToDraw 13 = .ok (.invokevirtual 94, 3) := by decide +kernel
theorem dX4_lotToDraw_16 : decode cX4_lotToDraw 16 = .ok (.ifCond .ne 5, 3) := by decide +kernel
theorem dX4_lotToDraw_19 : decode cX4_lotToDraw 19 = .ok (.iconst (-1), 1) := by decide +kernel
theorem dX4_lotToDraw_20 : decode cX4_lotToDraw 20 = .ok (.ireturn, 1) := by decide +kernel
theorem dX4_lotToDraw_21 : decode cX4_lotToDraw 21 = .ok (.aload_n 0, 1) := by decide +kernel
theorem dX4_lotToDraw_22 : decode cX4_lotToDraw 22 = .ok (.invokevirtual 103, 3) := by decide +kernel
theorem dX4_lotToDraw_25 : decode cX4_lotToDraw 25 = .ok (.ifCond .eq 6, 3) := by decide +kernel
theorem dX4_lotToDraw_28 : decode cX4_lotToDraw 28 = .ok (.bipush (-2), 2) := by decide +kernel
theorem dX4_lotToDraw_30 : decode cX4_lotToDraw 30 = .ok (.ireturn, 1) := by decide +kernel
theorem dX4_lotToDraw_31 : decode cX4_lotToDraw 31 = .ok (.aload_n 0, 1) := by decide +kernel
theorem dX4_lotToDraw_32 : decode cX4_lotToDraw 32 = .ok (.invokevirtual 109, 3) := by decide +kernel
theorem dX4_lotToDraw_35 : decode cX4_lotToDraw 35 = .ok (.istore_n 3, 1) := by decide +kernel
theorem dX4_lotToDraw_36 : decode cX4_lotToDraw 36 = .ok (.aload_n 0, 1) := by decide +kernel
theorem dX4_lotToDraw_37 : decode cX4_lotToDraw 37 = .ok (.getfield 21, 3) := by decide +kernel
theorem dX4_lotToDraw_40 : decode cX4_lotToDraw 40 = .ok (.iload_n 1, 1) := by decide +kernel
theorem dX4_lotToDraw_41 : decode cX4_lotToDraw 41 = .ok (.invokevirtual 183, 3) := by decide +kernel
theorem dX4_lotToDraw_44 : decode cX4_lotToDraw 44 = .ok (.ifCond .ne 7, 3) := by decide +kernel
theorem dX4_lotToDraw_47 : decode cX4_lotToDraw 47 = .ok (.iload_n 3, 1) := by decide +kernel
theorem dX4_lotToDraw_48 : decode cX4_lotToDraw 48 = .ok (.ifCond .gt 6, 3) := by decide +kernel
theorem dX4_lotToDraw_51 : decode cX4_lotToDraw 51 = .ok (.bipush (-9), 2) := by decide +kernel
theorem dX4_lotToDraw_53 : decode cX4_lotToDraw 53 = .ok (.ireturn, 1) := by decide +kernel
theorem dX4_lotToDraw_54 : decode cX4_lotToDraw 54 = .ok (.aload_n 0, 1) := by decide +kernel
theorem dX4_lotToDraw_55 : decode cX4_lotToDraw 55 = .ok (.iload_n 1, 1) := by decide +kernel
theorem dX4_lotToDraw_56 : decode cX4_lotToDraw 56 = .ok (.invokevirtual 186, 3) := by decide +kernel
theorem dX4_lotToDraw_59 : decode cX4_lotToDraw 59 = .ok (.istore 4, 2) := by decide +kernel
theorem dX4_lotToDraw_61 : decode cX4_lotToDraw 61 = .ok (.iconst 0, 1) := by decide +kernel
theorem dX4_lotToDraw_62 : decode cX4_lotToDraw 62 = .ok (.istore 5, 2) := by decide +kernel
theorem dX4_lotToDraw_64 : decode cX4_lotToDraw 64 = .ok (.iload 5, 2) := by decide +kernel
theorem dX4_lotToDraw_66 : decode cX4_lotToDraw 66 = .ok (.ldc 89, 2) := by decide +kernel
theorem dX4_lotToDraw_68 : decode cX4_lotToDraw 68 = .ok (.if_icmp .ge 24, 3) := by decide +kernel
theorem dX4_lotToDraw_71 : decode cX4_lotToDraw 71 = .ok (.iload 5, 2) := by decide +kernel
theorem dX4_lotToDraw_73 : decode cX4_lotToDraw 73 = .ok (.invokestatic 189, 3) := by decide +kernel
theorem dX4_lotToDraw_76 : decode cX4_lotToDraw 76 = .ok (.iload_n 3, 1) := by decide +kernel
theorem dX4_lotToDraw_77 : decode cX4_lotToDraw 77 = .ok (.irem, 1) := by decide +kernel
theorem dX4_lotToDraw_78 : decode cX4_lotToDraw 78 = .ok (.iload 4, 2) := by decide +kernel
theorem dX4_lotToDraw_80 : decode cX4_lotToDraw 80 = .ok (.if_icmp .ne 6, 3) := by decide +kernel
theorem dX4_lotToDraw_83 : decode cX4_lotToDraw 83 = .ok (.iload 5, 2) := by decide +kernel
theorem dX4_lotToDraw_85 : decode cX4_lotToDraw 85 = .ok (.ireturn, 1) := by decide +kernel
theorem dX4_lotToDraw_86 : decode cX4_lotToDraw 86 = .ok (.iinc 5 1, 3) := by decide +kernel
theorem dX4_lotToDraw_89 : decode cX4_lotToDraw 89 = .ok (.goto (-25), 3) := by decide +kernel
theorem dX4_lotToDraw_92 : decode cX4_lotToDraw 92 = .ok (.bipush (-9), 2) := by decide +kernel
theorem dX4_lotToDraw_94 : decode cX4_lotToDraw 94 = .ok (.ireturn, 1) := by decide +kernel
theorem dX4_isVillager_0 : decode cX4_isVillager 0 = .ok (.iload_n 1, 1) := by decide +kernel
theorem dX4_isVillager_1 : decode cX4_isVillager 1 = .ok (.ifCond .lt 15, 3) := by decide +kernel
theorem dX4_isVillager_4 : decode cX4_isVillager 4 = .ok (.iload_n 1, 1) := by decide +kernel
theorem dX4_isVillager_5 : decode cX4_isVillager 5 = .ok (.aload_n 0, 1) := by decide +kernel
theorem dX4_isVillager_6 : decode cX4_isVillager 6 = .ok (.getfield 48, 3) := by decide +kernel
theorem dX4_isVillager_9 : decode cX4_isVillager 9 = .ok (.if_icmp .ge 7, 3) := by decide +kernel
theorem dX4_isVillager_12 : decode cX4_isVillager 12 = .ok (.iconst 1, 1) := by decide +kernel
theorem dX4_isVillager_13 : decode cX4_isVillager 13 = .ok (.goto 4, 3) := by decide +kernel
theorem dX4_isVillager_16 : decode cX4_isVillager 16 = .ok (.iconst 0, 1) := by decide +kernel
theorem dX4_isVillager_17 : decode cX4_isVillager 17 = .ok (.ireturn, 1) := by decide +kernel
theorem dX4_isEntry_0 : decode cX4_isEntry 0 = .ok (.iload_n 1, 1) := by decide +kernel
theorem dX4_isEntry_1 : decode cX4_isEntry 1 = .ok (.ifCond .lt 15, 3) := by decide +kernel
theorem dX4_isEntry_4 : decode cX4_isEntry 4 = .ok (.iload_n 1, 1) := by decide +kernel
theorem dX4_isEntry_5 : decode cX4_isEntry 5 = .ok (.aload_n 0, 1) := by decide +kernel
theorem dX4_isEntry_6 : decode cX4_isEntry 6 = .ok (.getfield 67, 3) := by decide +kernel
theorem dX4_isEntry_9 : decode cX4_isEntry 9 = .ok (.if_icmp .ge 7, 3) := by decide +kernel
theorem dX4_isEntry_12 : decode cX4_isEntry 12 = .ok (.iconst 1, 1) := by decide +kernel
theorem dX4_isEntry_13 : decode cX4_isEntry 13 = .ok (.goto 4, 3) := by decide +kernel
theorem dX4_isEntry_16 : decode cX4_isEntry 16 = .ok (.iconst 0, 1) := by decide +kernel
theorem dX4_isEntry_17 : decode cX4_isEntry 17 = .ok (.ireturn, 1) := by decide +kernel
theorem dX4_isChanging_0 : decode cX4_isChanging 0 = .ok (.aload_n 0, 1) := by decide +kernel
theorem dX4_isChanging_1 : decode cX4_isChanging 1 = .ok (.getfield 28, 3) := by decide +kernel
theorem dX4_isChanging_4 : decode cX4_isChanging 4 = .ok (.bipush (-9), 2) := by decide +kernel
theorem dX4_isChanging_6 : decode cX4_isChanging 6 = .ok (.if_icmp .eq 7, 3) := by decide +kernel
theorem dX4_isChanging_9 : decode cX4_isChanging 9 = .ok (.iconst 1, 1) := by decide +kernel
theorem dX4_isChanging_10 : decode cX4_isChanging 10 = .ok (.goto 4, 3) := by decide +kernel
theorem dX4_isChanging_13 : decode cX4_isChanging 13 = .ok (.iconst 0, 1) := by decide +kernel
theorem dX4_isChanging_14 : decode cX4_isChanging 14 = .ok (.ireturn, 1) := by decide +kernel
set_option maxRecDepth 20000 in
theorem ggX4_isElder_X0_has : GoodIn wsX4_isElder wsX0_has := goodIn_r _ [7, 8, 9, 10, 6, 11, 12, 13, 27, 28] (by decide +kernel) (by decide +kernel)
set_option maxRecDepth 20000 in
theorem gX4_isElder_X0_has : GoodIn wsX4_isElder (wsV RX4 183 RX0 yX0_has wsX0_has) := goodIn_app (goodIn_of _ (by decide +kernel)) ggX4_isElder_X0_has
theorem dX4_isElder_0 : decode cX4_isElder 0 = .ok (.aload_n 0, 1) := by decide +kernel
theorem dX4_isElder_1 : decode cX4_isElder 1 = .ok (.getfield 21, 3) := by decide +kernel
theorem dX4_isElder_4 : decode cX4_isElder 4 = .ok (.iload_n 1, 1) := by decide +kernel
theorem dX4_isElder_5 : decode cX4_isElder 5 = .ok (.invokevirtual 183, 3) := by decide +kernel
theorem dX4_isElder_8 : decode cX4_isElder 8 = .ok (.ifCond .ne 14, 3) := by decide +kernel
theorem dX4_isElder_11 : decode cX4_isElder 11 = .ok (.aload_n 0, 1) := by decide +kernel
theorem dX4_isElder_12 : decode cX4_isElder 12 = .ok (.getfield 25, 3) := by decide +kernel
theorem dX4_isElder_15 : decode cX4_isElder 15 = .ok (.iload_n 1, 1) := by decide +kernel
theorem dX4_isElder_16 : decode cX4_isElder 16 = .ok (.invokevirtual 183, 3) := by decide +kernel
theorem dX4_isElder_19 : decode cX4_isElder 19 = .ok (.ifCond .eq 7, 3) := by decide +kernel
theorem dX4_isElder_22 : decode cX4_isElder 22 = .ok (.iconst 1, 1) := by decide +kernel
theorem dX4_isElder_23 : decode cX4_isElder 23 = .ok (.goto 4, 3) := by decide +kernel
theorem dX4_isElder_26 : decode cX4_isElder 26 = .ok (.iconst 0, 1) := by decide +kernel
theorem dX4_isElder_27 : decode cX4_isElder 27 = .ok (.ireturn, 1) := by decide +kernel
set_option maxRecDepth 20000 in
theorem ggX4_mayAct_X4_isElder : GoodIn wsX4_mayAct wsX4_isElder := goodIn_r _ [5, 6, 7, 8, 9, 10, 11, 12, 13, 14, 15, 16, 17, 18, 29, 30, 31, 32, 33, 34, 35, 36, 37, 38, 39, 40, 41, 42, 43] (by decide +kernel) (by decide +kernel)
set_option maxRecDepth 20000 in
theorem gX4_mayAct_X4_isElder : GoodIn wsX4_mayAct (wsV RX4 126 RX4 yX4_isElder wsX4_isElder) := goodIn_app (goodIn_of _ (by decide +kernel)) ggX4_mayAct_X4_isElder
set_option maxRecDepth 20000 in
theorem ggX4_mayAct_X4_isPresent : GoodIn wsX4_mayAct wsX4_isPresent := goodIn_r _ [22, 23, 24, 25, 26, 4, 27, 28, 29, 30, 31, 32, 33, 34, 35, 36, 37, 38, 39, 40, 41] (by decide +kernel) (by decide +kernel)
set_option maxRecDepth 20000 in
theorem gX4_mayAct_X4_isPresent : GoodIn wsX4_mayAct (wsV RX4 192 RX4 yX4_isPresent wsX4_isPresent) := goodIn_app (goodIn_of _ (by decide +kernel)) ggX4_mayAct_X4_isPresent
theorem dX4_mayAct_0 : decode cX4_mayAct 0 = .ok (.aload_n 0, 1) := by decide +kernel
theorem dX4_mayAct_1 : decode cX4_mayAct 1 = .ok (.iload_n 1, 1) := by decide +kernel
theorem dX4_mayAct_2 : decode cX4_mayAct 2 = .ok (.invokevirtual 126, 3) := by decide +kernel
theorem dX4_mayAct_5 : decode cX4_mayAct 5 = .ok (.ifCond .eq 15, 3) := by decide +kernel
theorem dX4_mayAct_8 : decode cX4_mayAct 8 = .ok (.aload_n 0, 1) := by decide +kernel
theorem dX4_mayAct_9 : decode cX4_mayAct 9 = .ok (.iload_n 1, 1) := by decide +kernel
theorem dX4_mayAct_10 : decode cX4_mayAct 10 = .ok (.invokevirtual 192, 3) := by decide +kernel
theorem dX4_mayAct_13 : decode cX4_mayAct 13 = .ok (.ifCond .eq 7, 3) := by decide +kernel
theorem dX4_mayAct_16 : decode cX4_mayAct 16 = .ok (.iconst 1, 1) := by decide +kernel
theorem dX4_mayAct_17 : decode cX4_mayAct 17 = .ok (.goto 4, 3) := by decide +kernel
theorem dX4_mayAct_20 : decode cX4_mayAct 20 = .ok (.iconst 0, 1) := by decide +kernel
theorem dX4_mayAct_21 : decode cX4_mayAct 21 = .ok (.ireturn, 1) := by decide +kernel
set_option maxRecDepth 20000 in
theorem ggX4_isPresent_X4_isVillager : GoodIn wsX4_isPresent wsX4_isVillager := goodIn_r _ [6, 7, 8, 9, 10, 11, 12, 13, 14, 15, 16, 17, 18, 19, 20] (by decide +kernel) (by decide +kernel)
set_option maxRecDepth 20000 in
theorem gX4_isPresent_X4_isVillager : GoodIn wsX4_isPresent (wsV RX4 73 RX4 yX4_isVillager wsX4_isVillager) := goodIn_app (goodIn_of _ (by decide +kernel)) ggX4_isPresent_X4_isVillager
theorem dX4_isPresent_0 : decode cX4_isPresent 0 = .ok (.aload_n 0, 1) := by decide +kernel
theorem dX4_isPresent_1 : decode cX4_isPresent 1 = .ok (.iload_n 1, 1) := by decide +kernel
theorem dX4_isPresent_2 : decode cX4_isPresent 2 = .ok (.invokevirtual 73, 3) := by decide +kernel
theorem dX4_isPresent_5 : decode cX4_isPresent 5 = .ok (.ifCond .eq 17, 3) := by decide +kernel
theorem dX4_isPresent_8 : decode cX4_isPresent 8 = .ok (.aload_n 0, 1) := by decide +kernel
theorem dX4_isPresent_9 : decode cX4_isPresent 9 = .ok (.getfield 9, 3) := by decide +kernel
theorem dX4_isPresent_12 : decode cX4_isPresent 12 = .ok (.iload_n 1, 1) := by decide +kernel
theorem dX4_isPresent_13 : decode cX4_isPresent 13 = .ok (.iaload, 1) := by decide +kernel
theorem dX4_isPresent_14 : decode cX4_isPresent 14 = .ok (.iconst 1, 1) := by decide +kernel
theorem dX4_isPresent_15 : decode cX4_isPresent 15 = .ok (.if_icmp .ne 7, 3) := by decide +kernel
theorem dX4_isPresent_18 : decode cX4_isPresent 18 = .ok (.iconst 1, 1) := by decide +kernel
theorem dX4_isPresent_19 : decode cX4_isPresent 19 = .ok (.goto 4, 3) := by decide +kernel
theorem dX4_isPresent_22 : decode cX4_isPresent 22 = .ok (.iconst 0, 1) := by decide +kernel
theorem dX4_isPresent_23 : decode cX4_isPresent 23 = .ok (.ireturn, 1) := by decide +kernel
set_option maxRecDepth 20000 in
theorem ggX4_holds_X4_isVillager : GoodIn wsX4_holds wsX4_isVillager := goodIn_r _ [6, 7, 8, 9, 10, 11, 12, 13, 14, 15, 16, 17, 18, 19, 20] (by decide +kernel) (by decide +kernel)
set_option maxRecDepth 20000 in
theorem gX4_holds_X4_isVillager : GoodIn wsX4_holds (wsV RX4 73 RX4 yX4_isVillager wsX4_isVillager) := goodIn_app (goodIn_of _ (by decide +kernel)) ggX4_holds_X4_isVillager
theorem dX4_holds_0 : decode cX4_holds 0 = .ok (.aload_n 0, 1) := by decide +kernel
theorem dX4_holds_1 : decode cX4_holds 1 = .ok (.iload_n 1, 1) := by decide +kernel
theorem dX4_holds_2 : decode cX4_holds 2 = .ok (.invokevirtual 73, 3) := by decide +kernel
theorem dX4_holds_5 : decode cX4_holds 5 = .ok (.ifCond .eq 17, 3) := by decide +kernel
theorem dX4_holds_8 : decode cX4_holds 8 = .ok (.aload_n 0, 1) := by decide +kernel
theorem dX4_holds_9 : decode cX4_holds 9 = .ok (.getfield 15, 3) := by decide +kernel
theorem dX4_holds_12 : decode cX4_holds 12 = .ok (.iload_n 1, 1) := by decide +kernel
theorem dX4_holds_13 : decode cX4_holds 13 = .ok (.iaload, 1) := by decide +kernel
theorem dX4_holds_14 : decode cX4_holds 14 = .ok (.iload_n 2, 1) := by decide +kernel
theorem dX4_holds_15 : decode cX4_holds 15 = .ok (.if_icmp .le 7, 3) := by decide +kernel
theorem dX4_holds_18 : decode cX4_holds 18 = .ok (.iconst 1, 1) := by decide +kernel
theorem dX4_holds_19 : decode cX4_holds 19 = .ok (.goto 4, 3) := by decide +kernel
theorem dX4_holds_22 : decode cX4_holds 22 = .ok (.iconst 0, 1) := by decide +kernel
theorem dX4_holds_23 : decode cX4_holds 23 = .ok (.ireturn, 1) := by decide +kernel
theorem dX4_presentVillagers_0 : decode cX4_presentVillagers 0 = .ok (.iconst 0, 1) := by decide +kernel
theorem dX4_presentVillagers_1 : decode cX4_presentVillagers 1 = .ok (.istore_n 1, 1) := by decide +kernel
theorem dX4_presentVillagers_2 : decode cX4_presentVillagers 2 = .ok (.iconst 0, 1) := by decide +kernel
theorem dX4_presentVillagers_3 : decode cX4_presentVillagers 3 = .ok (.istore_n 2, 1) := by decide +kernel
theorem dX4_presentVillagers_4 : decode cX4_presentVillagers 4 = .ok (.iload_n 2, 1) := by decide +kernel
theorem dX4_presentVillagers_5 : decode cX4_presentVillagers 5 = .ok (.aload_n 0, 1) := by decide +kernel
theorem dX4_presentVillagers_6 : decode cX4_presentVillagers 6 = .ok (.getfield 48, 3) := by decide +kernel
theorem dX4_presentVillagers_9 : decode cX4_presentVillagers 9 = .ok (.if_icmp .ge 18, 3) := by decide +kernel
theorem dX4_presentVillagers_12 : decode cX4_presentVillagers 12 = .ok (.iload_n 1, 1) := by decide +kernel
theorem dX4_presentVillagers_13 : decode cX4_presentVillagers 13 = .ok (.aload_n 0, 1) := by decide +kernel
theorem dX4_presentVillagers_14 : decode cX4_presentVillagers 14 = .ok (.getfield 9, 3) := by decide +kernel
theorem dX4_presentVillagers_17 : decode cX4_presentVillagers 17 = .ok (.iload_n 2, 1) := by decide +kernel
theorem dX4_presentVillagers_18 : decode cX4_presentVillagers 18 = .ok (.iaload, 1) := by decide +kernel
theorem dX4_presentVillagers_19 : decode cX4_presentVillagers 19 = .ok (.iadd, 1) := by decide +kernel
theorem dX4_presentVillagers_20 : decode cX4_presentVillagers 20 = .ok (.istore_n 1, 1) := by decide +kernel
theorem dX4_presentVillagers_21 : decode cX4_presentVillagers 21 = .ok (.iinc 2 1, 3) := by decide +kernel
theorem dX4_presentVillagers_24 : decode cX4_presentVillagers 24 = .ok (.goto (-20), 3) := by decide +kernel
theorem dX4_presentVillagers_27 : decode cX4_presentVillagers 27 = .ok (.iload_n 1, 1) := by decide +kernel
theorem dX4_presentVillagers_28 : decode cX4_presentVillagers 28 = .ok (.ireturn, 1) := by decide +kernel
set_option maxRecDepth 20000 in
theorem ggX4_copies_X4_holds : GoodIn wsX4_copies wsX4_holds := goodIn_r _ [6, 7, 8, 9, 10, 5, 11, 1, 12, 13, 14, 15, 16, 17, 18, 19, 20, 21, 22, 23, 24] (by decide +kernel) (by decide +kernel)
set_option maxRecDepth 20000 in
theorem gX4_copies_X4_holds : GoodIn wsX4_copies (wsV RX4 195 RX4 yX4_holds wsX4_holds) := goodIn_app (goodIn_of _ (by decide +kernel)) ggX4_copies_X4_holds
theorem dX4_copies_0 : decode cX4_copies 0 = .ok (.iconst 0, 1) := by decide +kernel
theorem dX4_copies_1 : decode cX4_copies 1 = .ok (.istore_n 2, 1) := by decide +kernel
theorem dX4_copies_2 : decode cX4_copies 2 = .ok (.iconst 0, 1) := by decide +kernel
theorem dX4_copies_3 : decode cX4_copies 3 = .ok (.istore_n 3, 1) := by decide +kernel
theorem dX4_copies_4 : decode cX4_copies 4 = .ok (.iload_n 3, 1) := by decide +kernel
theorem dX4_copies_5 : decode cX4_copies 5 = .ok (.aload_n 0, 1) := by decide +kernel
theorem dX4_copies_6 : decode cX4_copies 6 = .ok (.getfield 48, 3) := by decide +kernel
theorem dX4_copies_9 : decode cX4_copies 9 = .ok (.if_icmp .ge 21, 3) := by decide +kernel
theorem dX4_copies_12 : decode cX4_copies 12 = .ok (.aload_n 0, 1) := by decide +kernel
theorem dX4_copies_13 : decode cX4_copies 13 = .ok (.iload_n 3, 1) := by decide +kernel
theorem dX4_copies_14 : decode cX4_copies 14 = .ok (.iload_n 1, 1) := by decide +kernel
theorem dX4_copies_15 : decode cX4_copies 15 = .ok (.invokevirtual 195, 3) := by decide +kernel
theorem dX4_copies_18 : decode cX4_copies 18 = .ok (.ifCond .eq 6, 3) := by decide +kernel
theorem dX4_copies_21 : decode cX4_copies 21 = .ok (.iinc 2 1, 3) := by decide +kernel
theorem dX4_copies_24 : decode cX4_copies 24 = .ok (.iinc 3 1, 3) := by decide +kernel
theorem dX4_copies_27 : decode cX4_copies 27 = .ok (.goto (-23), 3) := by decide +kernel
theorem dX4_copies_30 : decode cX4_copies 30 = .ok (.iload_n 2, 1) := by decide +kernel
theorem dX4_copies_31 : decode cX4_copies 31 = .ok (.ireturn, 1) := by decide +kernel
set_option maxRecDepth 20000 in
theorem ggX4_candidates_X4_candidatesBefore : GoodIn wsX4_candidates wsX4_candidatesBefore := goodIn_r _ [6, 7, 8, 9, 10, 11, 12, 13, 14, 15, 16, 17, 18, 19, 20, 21, 22, 23, 24, 25, 26, 27, 28, 29, 30, 31, 32, 33] (by decide +kernel) (by decide +kernel)
set_option maxRecDepth 20000 in
theorem gX4_candidates_X4_candidatesBefore : GoodIn wsX4_candidates (wsV RX4 186 RX4 yX4_candidatesBefore wsX4_candidatesBefore) := goodIn_app (goodIn_of _ (by decide +kernel)) ggX4_candidates_X4_candidatesBefore
theorem dX4_candidates_0 : decode cX4_candidates 0 = .ok (.aload_n 0, 1) := by decide +kernel
theorem dX4_candidates_1 : decode cX4_candidates 1 = .ok (.aload_n 0, 1) := by decide +kernel
theorem dX4_candidates_2 : decode cX4_candidates 2 = .ok (.getfield 48, 3) := by decide +kernel
theorem dX4_candidates_5 : decode cX4_candidates 5 = .ok (.invokevirtual 186, 3) := by decide +kernel
theorem dX4_candidates_8 : decode cX4_candidates 8 = .ok (.ireturn, 1) := by decide +kernel
set_option maxRecDepth 20000 in
theorem ggX4_candidatesBefore_X0_has : GoodIn wsX4_candidatesBefore wsX0_has := goodIn_r _ [6, 7, 8, 9, 5, 10, 11, 12, 26, 27] (by decide +kernel) (by decide +kernel)
set_option maxRecDepth 20000 in
theorem gX4_candidatesBefore_X0_has : GoodIn wsX4_candidatesBefore (wsV RX4 183 RX0 yX0_has wsX0_has) := goodIn_app (goodIn_of _ (by decide +kernel)) ggX4_candidatesBefore_X0_has
theorem dX4_candidatesBefore_0 : decode cX4_candidatesBefore 0 = .ok (.iconst 0, 1) := by decide +kernel
theorem dX4_candidatesBefore_1 : decode cX4_candidatesBefore 1 = .ok (.istore_n 2, 1) := by decide +kernel
theorem dX4_candidatesBefore_2 : decode cX4_candidatesBefore 2 = .ok (.iconst 0, 1) := by decide +kernel
theorem dX4_candidatesBefore_3 : decode cX4_candidatesBefore 3 = .ok (.istore_n 3, 1) := by decide +kernel
theorem dX4_candidatesBefore_4 : decode cX4_candidatesBefore 4 = .ok (.iload_n 3, 1) := by decide +kernel
theorem dX4_candidatesBefore_5 : decode cX4_candidatesBefore 5 = .ok (.iload_n 1, 1) := by decide +kernel
theorem dX4_candidatesBefore_6 : decode cX4_candidatesBefore 6 = .ok (.if_icmp .ge 23, 3) := by decide +kernel
theorem dX4_candidatesBefore_9 : decode cX4_candidatesBefore 9 = .ok (.aload_n 0, 1) := by decide +kernel
theorem dX4_candidatesBefore_10 : decode cX4_candidatesBefore 10 = .ok (.getfield 21, 3) := by decide +kernel
theorem dX4_candidatesBefore_13 : decode cX4_candidatesBefore 13 = .ok (.iload_n 3, 1) := by decide +kernel
theorem dX4_candidatesBefore_14 : decode cX4_candidatesBefore 14 = .ok (.invokevirtual 183, 3) := by decide +kernel
theorem dX4_candidatesBefore_17 : decode cX4_candidatesBefore 17 = .ok (.ifCond .ne 6, 3) := by decide +kernel
theorem dX4_candidatesBefore_20 : decode cX4_candidatesBefore 20 = .ok (.iinc 2 1, 3) := by decide +kernel
theorem dX4_candidatesBefore_23 : decode cX4_candidatesBefore 23 = .ok (.iinc 3 1, 3) := by decide +kernel
theorem dX4_candidatesBefore_26 : decode cX4_candidatesBefore 26 = .ok (.goto (-22), 3) := by decide +kernel
theorem dX4_candidatesBefore_29 : decode cX4_candidatesBefore 29 = .ok (.iload_n 2, 1) := by decide +kernel
theorem dX4_candidatesBefore_30 : decode cX4_candidatesBefore 30 = .ok (.ireturn, 1) := by decide +kernel
set_option maxRecDepth 20000 in
theorem ggX4_drawnWith_X4_candidates : GoodIn wsX4_drawnWith wsX4_candidates := goodIn_r _ [7, 1, 8, 9, 10, 6, 11, 2, 12, 13, 14, 15, 16, 17, 18, 19, 20, 21, 22, 28, 29, 30, 31, 32, 33, 34, 35, 36, 37, 38, 39, 40, 41, 42] (by decide +kernel) (by decide +kernel)
set_option maxRecDepth 20000 in
theorem gX4_drawnWith_X4_candidates : GoodIn wsX4_drawnWith (wsV RX4 109 RX4 yX4_candidates wsX4_candidates) := goodIn_app (goodIn_of _ (by decide +kernel)) ggX4_drawnWith_X4_candidates
set_option maxRecDepth 20000 in
theorem ggX4_drawnWith_X2_after : GoodIn wsX4_drawnWith wsX2_after := goodIn_r _ [26, 27] (by decide +kernel) (by decide +kernel)
set_option maxRecDepth 20000 in
theorem gX4_drawnWith_X2_after : GoodIn wsX4_drawnWith (va_wsS RX4 189 yX2_after wsX2_after) := goodIn_app (goodIn_of _ (by decide +kernel)) ggX4_drawnWith_X2_after
set_option maxRecDepth 20000 in
theorem ggX4_drawnWith_X0_has : GoodIn wsX4_drawnWith wsX0_has := goodIn_r _ [16, 17, 18, 19, 15, 20, 21, 22, 41, 42] (by decide +kernel) (by decide +kernel)
set_option maxRecDepth 20000 in
theorem gX4_drawnWith_X0_has : GoodIn wsX4_drawnWith (wsV RX4 183 RX0 yX0_has wsX0_has) := goodIn_app (goodIn_of _ (by decide +kernel)) ggX4_drawnWith_X0_has
theorem dX4_drawnWith_0 : decode cX4_drawnWith 0 = .ok (.aload_n 0, 1) := by decide +kernel
theorem dX4_drawnWith_1 : decode cX4_drawnWith 1 = .ok (.invokevirtual 109, 3) := by decide +kernel
theorem dX4_drawnWith_4 : decode cX4_drawnWith 4 = .ok (.istore_n 2, 1) := by decide +kernel
theorem dX4_drawnWith_5 : decode cX4_drawnWith 5 = .ok (.iload_n 2, 1) := by decide +kernel
theorem dX4_drawnWith_6 : decode cX4_drawnWith 6 = .ok (.ifCond .gt 6, 3) := by decide +kernel
theorem dX4_drawnWith_9 : decode cX4_drawnWith 9 = .ok (.bipush (-9), 2) := by decide +kernel
theorem dX4_drawnWith_11 : decode cX4_drawnWith 11 = .ok (.ireturn, 1) := by decide +kernel
theorem dX4_drawnWith_12 : decode cX4_drawnWith 12 = .ok (.iload_n 1, 1) := by decide +kernel
theorem dX4_drawnWith_13 : decode cX4_drawnWith 13 = .ok (.invokestatic 189, 3) := by decide +kernel
theorem dX4_drawnWith_16 : decode cX4_drawnWith 16 = .ok (.iload_n 2, 1) := by decide +kernel
theorem dX4_drawnWith_17 : decode cX4_drawnWith 17 = .ok (.irem, 1) := by decide +kernel
theorem dX4_drawnWith_18 : decode cX4_drawnWith 18 = .ok (.istore_n 3, 1) := by decide +kernel
theorem dX4_drawnWith_19 : decode cX4_drawnWith 19 = .ok (.iconst 0, 1) := by decide +kernel
theorem dX4_drawnWith_20 : decode cX4_drawnWith 20 = .ok (.istore 4, 2) := by decide +kernel
theorem dX4_drawnWith_22 : decode cX4_drawnWith 22 = .ok (.iload 4, 2) := by decide +kernel
theorem dX4_drawnWith_24 : decode cX4_drawnWith 24 = .ok (.aload_n 0, 1) := by decide +kernel
theorem dX4_drawnWith_25 : decode cX4_drawnWith 25 = .ok (.getfield 48, 3) := by decide +kernel
theorem dX4_drawnWith_28 : decode cX4_drawnWith 28 = .ok (.if_icmp .ge 31, 3) := by decide +kernel
theorem dX4_drawnWith_31 : decode cX4_drawnWith 31 = .ok (.aload_n 0, 1) := by decide +kernel
theorem dX4_drawnWith_32 : decode cX4_drawnWith 32 = .ok (.getfield 21, 3) := by decide +kernel
theorem dX4_drawnWith_35 : decode cX4_drawnWith 35 = .ok (.iload 4, 2) := by decide +kernel
theorem dX4_drawnWith_37 : decode cX4_drawnWith 37 = .ok (.invokevirtual 183, 3) := by decide +kernel
theorem dX4_drawnWith_40 : decode cX4_drawnWith 40 = .ok (.ifCond .ne 13, 3) := by decide +kernel
theorem dX4_drawnWith_43 : decode cX4_drawnWith 43 = .ok (.iload_n 3, 1) := by decide +kernel
theorem dX4_drawnWith_44 : decode cX4_drawnWith 44 = .ok (.ifCond .ne 6, 3) := by decide +kernel
theorem dX4_drawnWith_47 : decode cX4_drawnWith 47 = .ok (.iload 4, 2) := by decide +kernel
theorem dX4_drawnWith_49 : decode cX4_drawnWith 49 = .ok (.ireturn, 1) := by decide +kernel
theorem dX4_drawnWith_50 : decode cX4_drawnWith 50 = .ok (.iinc 3 (-1), 3) := by decide +kernel
theorem dX4_drawnWith_53 : decode cX4_drawnWith 53 = .ok (.iinc 4 1, 3) := by decide +kernel
theorem dX4_drawnWith_56 : decode cX4_drawnWith 56 = .ok (.goto (-34), 3) := by decide +kernel
theorem dX4_drawnWith_59 : decode cX4_drawnWith 59 = .ok (.bipush (-9), 2) := by decide +kernel
theorem dX4_drawnWith_61 : decode cX4_drawnWith 61 = .ok (.ireturn, 1) := by decide +kernel
theorem dX4_addEntry_0 : decode cX4_addEntry 0 = .ok (.aload_n 0, 1) := by decide +kernel
theorem dX4_addEntry_1 : decode cX4_addEntry 1 = .ok (.getfield 39, 3) := by decide +kernel
theorem dX4_addEntry_4 : decode cX4_addEntry 4 = .ok (.aload_n 0, 1) := by decide +kernel
theorem dX4_addEntry_5 : decode cX4_addEntry 5 = .ok (.getfield 67, 3) := by decide +kernel
theorem dX4_addEntry_8 : decode cX4_addEntry 8 = .ok (.iload_n 2, 1) := by decide +kernel
theorem dX4_addEntry_9 : decode cX4_addEntry 9 = .ok (.iastore, 1) := by decide +kernel
theorem dX4_addEntry_10 : decode cX4_addEntry 10 = .ok (.aload_n 0, 1) := by decide +kernel
theorem dX4_addEntry_11 : decode cX4_addEntry 11 = .ok (.getfield 42, 3) := by decide +kernel
theorem dX4_addEntry_14 : decode cX4_addEntry 14 = .ok (.aload_n 0, 1) := by decide +kernel
theorem dX4_addEntry_15 : decode cX4_addEntry 15 = .ok (.getfield 67, 3) := by decide +kernel
theorem dX4_addEntry_18 : decode cX4_addEntry 18 = .ok (.aload_n 0, 1) := by decide +kernel
theorem dX4_addEntry_19 : decode cX4_addEntry 19 = .ok (.getfield 61, 3) := by decide +kernel
theorem dX4_addEntry_22 : decode cX4_addEntry 22 = .ok (.iastore, 1) := by decide +kernel
theorem dX4_addEntry_23 : decode cX4_addEntry 23 = .ok (.aload_n 0, 1) := by decide +kernel
theorem dX4_addEntry_24 : decode cX4_addEntry 24 = .ok (.getfield 45, 3) := by decide +kernel
theorem dX4_addEntry_27 : decode cX4_addEntry 27 = .ok (.aload_n 0, 1) := by decide +kernel
theorem dX4_addEntry_28 : decode cX4_addEntry 28 = .ok (.getfield 67, 3) := by decide +kernel
theorem dX4_addEntry_31 : decode cX4_addEntry 31 = .ok (.iload_n 1, 1) := by decide +kernel
theorem dX4_addEntry_32 : decode cX4_addEntry 32 = .ok (.iastore, 1) := by decide +kernel
theorem dX4_addEntry_33 : decode cX4_addEntry 33 = .ok (.aload_n 0, 1) := by decide +kernel
theorem dX4_addEntry_34 : decode cX4_addEntry 34 = .ok (.dup, 1) := by decide +kernel
theorem dX4_addEntry_35 : decode cX4_addEntry 35 = .ok (.getfield 67, 3) := by decide +kernel
theorem dX4_addEntry_38 : decode cX4_addEntry 38 = .ok (.iconst 1, 1) := by decide +kernel
theorem dX4_addEntry_39 : decode cX4_addEntry 39 = .ok (.iadd, 1) := by decide +kernel
theorem dX4_addEntry_40 : decode cX4_addEntry 40 = .ok (.putfield 67, 3) := by decide +kernel
theorem dX4_addEntry_43 : decode cX4_addEntry 43 = .ok (.aload_n 0, 1) := by decide +kernel
theorem dX4_addEntry_44 : decode cX4_addEntry 44 = .ok (.getfield 15, 3) := by decide +kernel
theorem dX4_addEntry_47 : decode cX4_addEntry 47 = .ok (.iload_n 1, 1) := by decide +kernel
theorem dX4_addEntry_48 : decode cX4_addEntry 48 = .ok (.aload_n 0, 1) := by decide +kernel
theorem dX4_addEntry_49 : decode cX4_addEntry 49 = .ok (.getfield 67, 3) := by decide +kernel
theorem dX4_addEntry_52 : decode cX4_addEntry 52 = .ok (.iastore, 1) := by decide +kernel
theorem dX4_addEntry_53 : decode cX4_addEntry 53 = .ok (.return_, 1) := by decide +kernel
set_option maxRecDepth 20000 in
theorem ggX4_agree_X4_isSupported : GoodIn wsX4_agree wsX4_isSupported := goodIn_r _ [8, 9, 10, 11, 12, 13, 7, 14, 15, 16, 17, 18, 19, 20, 21, 22, 23, 24, 25, 26, 27, 28, 29, 30, 31, 32, 33, 34, 35, 36, 37, 38, 39, 40, 41, 42, 43, 44, 45, 46, 47, 48, 49, 50, 51, 52, 3, 53, 54, 55, 56, 70, 71, 72, 73, 74, 75, 76, 77, 78, 79, 80, 81, 82, 83, 84] (by decide +kernel) (by decide +kernel)
set_option maxRecDepth 20000 in
theorem gX4_agree_X4_isSupported : GoodIn wsX4_agree (wsV RX4 179 RX4 yX4_isSupported wsX4_isSupported) := goodIn_app (goodIn_of _ (by decide +kernel)) ggX4_agree_X4_isSupported
set_option maxRecDepth 20000 in
theorem ggX4_agree_X4_endChange : GoodIn wsX4_agree wsX4_endChange := goodIn_r _ [60, 10, 9, 3, 61, 62, 63, 64, 18, 65, 20, 25, 66, 67, 68, 69, 70, 71, 72, 73, 74, 75, 76, 77, 78, 79, 80, 81, 82, 83, 84] (by decide +kernel) (by decide +kernel)
set_option maxRecDepth 20000 in
theorem gX4_agree_X4_endChange : GoodIn wsX4_agree (wsV RX4 199 RX4 yX4_endChange wsX4_endChange) := goodIn_app (goodIn_of _ (by decide +kernel)) ggX4_agree_X4_endChange
theorem dX4_agree_0 : decode cX4_agree 0 = .ok (.aload_n 0, 1) := by decide +kernel
theorem dX4_agree_1 : decode cX4_agree 1 = .ok (.getfield 70, 3) := by decide +kernel
theorem dX4_agree_4 : decode cX4_agree 4 = .ok (.istore_n 1, 1) := by decide +kernel
theorem dX4_agree_5 : decode cX4_agree 5 = .ok (.aload_n 0, 1) := by decide +kernel
theorem dX4_agree_6 : decode cX4_agree 6 = .ok (.getfield 70, 3) := by decide +kernel
theorem dX4_agree_9 : decode cX4_agree 9 = .ok (.aload_n 0, 1) := by decide +kernel
theorem dX4_agree_10 : decode cX4_agree 10 = .ok (.getfield 67, 3) := by decide +kernel
theorem dX4_agree_13 : decode cX4_agree 13 = .ok (.if_icmp .ge 43, 3) := by decide +kernel
theorem dX4_agree_16 : decode cX4_agree 16 = .ok (.aload_n 0, 1) := by decide +kernel
theorem dX4_agree_17 : decode cX4_agree 17 = .ok (.aload_n 0, 1) := by decide +kernel
theorem dX4_agree_18 : decode cX4_agree 18 = .ok (.getfield 70, 3) := by decide +kernel
theorem dX4_agree_21 : decode cX4_agree 21 = .ok (.iconst 0, 1) := by decide +kernel
theorem dX4_agree_22 : decode cX4_agree 22 = .ok (.invokevirtual 179, 3) := by decide +kernel
theorem dX4_agree_25 : decode cX4_agree 25 = .ok (.ifCond .eq 31, 3) := by decide +kernel
theorem dX4_agree_28 : decode cX4_agree 28 = .ok (.aload_n 0, 1) := by decide +kernel
theorem dX4_agree_29 : decode cX4_agree 29 = .ok (.getfield 70, 3) := by decide +kernel
theorem dX4_agree_32 : decode cX4_agree 32 = .ok (.aload_n 0, 1) := by decide +kernel
theorem dX4_agree_33 : decode cX4_agree 33 = .ok (.getfield 28, 3) := by decide +kernel
theorem dX4_agree_36 : decode cX4_agree 36 = .ok (.if_icmp .ne 7, 3) := by decide +kernel
theorem dX4_agree_39 : decode cX4_agree 39 = .ok (.aload_n 0, 1) := by decide +kernel
theorem dX4_agree_40 : decode cX4_agree 40 = .ok (.invokevirtual 199, 3) := by decide +kernel
theorem dX4_agree_43 : decode cX4_agree 43 = .ok (.aload_n 0, 1) := by decide +kernel
theorem dX4_agree_44 : decode cX4_agree 44 = .ok (.dup, 1) := by decide +kernel
theorem dX4_agree_45 : decode cX4_agree 45 = .ok (.getfield 70, 3) := by decide +kernel
theorem dX4_agree_48 : decode cX4_agree 48 = .ok (.iconst 1, 1) := by decide +kernel
theorem dX4_agree_49 : decode cX4_agree 49 = .ok (.iadd, 1) := by decide +kernel
theorem dX4_agree_50 : decode cX4_agree 50 = .ok (.putfield 70, 3) := by decide +kernel
theorem dX4_agree_53 : decode cX4_agree 53 = .ok (.goto (-48), 3) := by decide +kernel
theorem dX4_agree_56 : decode cX4_agree 56 = .ok (.aload_n 0, 1) := by decide +kernel
theorem dX4_agree_57 : decode cX4_agree 57 = .ok (.getfield 70, 3) := by decide +kernel
theorem dX4_agree_60 : decode cX4_agree 60 = .ok (.iload_n 1, 1) := by decide +kernel
theorem dX4_agree_61 : decode cX4_agree 61 = .ok (.isub, 1) := by decide +kernel
theorem dX4_agree_62 : decode cX4_agree 62 = .ok (.ireturn, 1) := by decide +kernel
set_option maxRecDepth 20000 in
theorem ggX4_endChange_X0_copyFrom : GoodIn wsX4_endChange wsX0_copyFrom := goodIn_r _ [9, 10, 11, 12, 13, 14, 15, 29, 30] (by decide +kernel) (by decide +kernel)
set_option maxRecDepth 20000 in
theorem gX4_endChange_X0_copyFrom : GoodIn wsX4_endChange (wsV RX4 57 RX0 yX0_copyFrom wsX0_copyFrom) := goodIn_app (goodIn_of _ (by decide +kernel)) ggX4_endChange_X0_copyFrom
theorem dX4_endChange_0 : decode cX4_endChange 0 = .ok (.aload_n 0, 1) := by decide +kernel
theorem dX4_endChange_1 : decode cX4_endChange 1 = .ok (.getfield 21, 3) := by decide +kernel
theorem dX4_endChange_4 : decode cX4_endChange 4 = .ok (.aload_n 0, 1) := by decide +kernel
theorem dX4_endChange_5 : decode cX4_endChange 5 = .ok (.getfield 25, 3) := by decide +kernel
theorem dX4_endChange_8 : decode cX4_endChange 8 = .ok (.invokevirtual 57, 3) := by decide +kernel
theorem dX4_endChange_11 : decode cX4_endChange 11 = .ok (.aload_n 0, 1) := by decide +kernel
theorem dX4_endChange_12 : decode cX4_endChange 12 = .ok (.bipush (-9), 2) := by decide +kernel
theorem dX4_endChange_14 : decode cX4_endChange 14 = .ok (.putfield 28, 3) := by decide +kernel
theorem dX4_endChange_17 : decode cX4_endChange 17 = .ok (.aload_n 0, 1) := by decide +kernel
theorem dX4_endChange_18 : decode cX4_endChange 18 = .ok (.dup, 1) := by decide +kernel
theorem dX4_endChange_19 : decode cX4_endChange 19 = .ok (.getfield 61, 3) := by decide +kernel
theorem dX4_endChange_22 : decode cX4_endChange 22 = .ok (.iconst 1, 1) := by decide +kernel
theorem dX4_endChange_23 : decode cX4_endChange 23 = .ok (.iadd, 1) := by decide +kernel
theorem dX4_endChange_24 : decode cX4_endChange 24 = .ok (.putfield 61, 3) := by decide +kernel
theorem dX4_endChange_27 : decode cX4_endChange 27 = .ok (.return_, 1) := by decide +kernel
set_option maxRecDepth 20000 in
theorem ggX4_oldCounts_X4_isChanging : GoodIn wsX4_oldCounts wsX4_isChanging := goodIn_r _ [6, 1, 7, 8, 9, 10, 11, 12, 13, 14, 15, 16, 17, 18, 19] (by decide +kernel) (by decide +kernel)
set_option maxRecDepth 20000 in
theorem gX4_oldCounts_X4_isChanging : GoodIn wsX4_oldCounts (wsV RX4 103 RX4 yX4_isChanging wsX4_isChanging) := goodIn_app (goodIn_of _ (by decide +kernel)) ggX4_oldCounts_X4_isChanging
theorem dX4_oldCounts_0 : decode cX4_oldCounts 0 = .ok (.aload_n 0, 1) := by decide +kernel
theorem dX4_oldCounts_1 : decode cX4_oldCounts 1 = .ok (.invokevirtual 103, 3) := by decide +kernel
theorem dX4_oldCounts_4 : decode cX4_oldCounts 4 = .ok (.ifCond .eq 15, 3) := by decide +kernel
theorem dX4_oldCounts_7 : decode cX4_oldCounts 7 = .ok (.iload_n 1, 1) := by decide +kernel
theorem dX4_oldCounts_8 : decode cX4_oldCounts 8 = .ok (.aload_n 0, 1) := by decide +kernel
theorem dX4_oldCounts_9 : decode cX4_oldCounts 9 = .ok (.getfield 28, 3) := by decide +kernel
theorem dX4_oldCounts_12 : decode cX4_oldCounts 12 = .ok (.if_icmp .gt 7, 3) := by decide +kernel
theorem dX4_oldCounts_15 : decode cX4_oldCounts 15 = .ok (.iconst 1, 1) := by decide +kernel
theorem dX4_oldCounts_16 : decode cX4_oldCounts 16 = .ok (.goto 4, 3) := by decide +kernel
theorem dX4_oldCounts_19 : decode cX4_oldCounts 19 = .ok (.iconst 0, 1) := by decide +kernel
theorem dX4_oldCounts_20 : decode cX4_oldCounts 20 = .ok (.ireturn, 1) := by decide +kernel
set_option maxRecDepth 20000 in
theorem ggX4_isSupported_X4_holders : GoodIn wsX4_isSupported wsX4_holders := goodIn_r _ [7, 8, 9, 10, 11, 12, 13, 14, 15, 16, 17, 18, 19, 20, 21, 22, 23, 24, 25, 6, 26, 27, 28, 29, 30, 31, 32, 33, 34, 35, 36, 37, 64, 65, 51, 52, 53, 54, 55, 56, 57, 58, 59, 60, 61, 62, 63] (by decide +kernel) (by decide +kernel)
set_option maxRecDepth 20000 in
theorem gX4_isSupported_X4_holders : GoodIn wsX4_isSupported (wsV RX4 165 RX4 yX4_holders wsX4_holders) := goodIn_app (goodIn_of _ (by decide +kernel)) ggX4_isSupported_X4_holders
set_option maxRecDepth 20000 in
theorem ggX4_isSupported_X0_majority : GoodIn wsX4_isSupported wsX0_majority := goodIn_r _ [41, 13, 64, 65] (by decide +kernel) (by decide +kernel)
set_option maxRecDepth 20000 in
theorem gX4_isSupported_X0_majority : GoodIn wsX4_isSupported (wsV RX4 202 RX0 yX0_majority wsX0_majority) := goodIn_app (goodIn_of _ (by decide +kernel)) ggX4_isSupported_X0_majority
set_option maxRecDepth 20000 in
theorem ggX4_isSupported_X4_oldCounts : GoodIn wsX4_isSupported wsX4_oldCounts := goodIn_r _ [45, 46, 47, 48, 49, 6, 50, 51, 52, 53, 54, 55, 56, 57, 58, 59, 60, 61, 62, 63] (by decide +kernel) (by decide +kernel)
set_option maxRecDepth 20000 in
theorem gX4_isSupported_X4_oldCounts : GoodIn wsX4_isSupported (wsV RX4 172 RX4 yX4_oldCounts wsX4_oldCounts) := goodIn_app (goodIn_of _ (by decide +kernel)) ggX4_isSupported_X4_oldCounts
theorem dX4_isSupported_0 : decode cX4_isSupported 0 = .ok (.aload_n 0, 1) := by decide +kernel
theorem dX4_isSupported_1 : decode cX4_isSupported 1 = .ok (.aload_n 0, 1) := by decide +kernel
theorem dX4_isSupported_2 : decode cX4_isSupported 2 = .ok (.getfield 25, 3) := by decide +kernel
theorem dX4_isSupported_5 : decode cX4_isSupported 5 = .ok (.iload_n 1, 1) := by decide +kernel
theorem dX4_isSupported_6 : decode cX4_isSupported 6 = .ok (.iload_n 2, 1) := by decide +kernel
theorem dX4_isSupported_7 : decode cX4_isSupported 7 = .ok (.invokevirtual 165, 3) := by decide +kernel
theorem dX4_isSupported_10 : decode cX4_isSupported 10 = .ok (.aload_n 0, 1) := by decide +kernel
theorem dX4_isSupported_11 : decode cX4_isSupported 11 = .ok (.getfield 25, 3) := by decide +kernel
theorem dX4_isSupported_14 : decode cX4_isSupported 14 = .ok (.invokevirtual 202, 3) := by decide +kernel
theorem dX4_isSupported_17 : decode cX4_isSupported 17 = .ok (.if_icmp .ge 5, 3) := by decide +kernel
theorem dX4_isSupported_20 : decode cX4_isSupported 20 = .ok (.iconst 0, 1) := by decide +kernel
theorem dX4_isSupported_21 : decode cX4_isSupported 21 = .ok (.ireturn, 1) := by decide +kernel
theorem dX4_isSupported_22 : decode cX4_isSupported 22 = .ok (.aload_n 0, 1) := by decide +kernel
theorem dX4_isSupported_23 : decode cX4_isSupported 23 = .ok (.iload_n 1, 1) := by decide +kernel
theorem dX4_isSupported_24 : decode cX4_isSupported 24 = .ok (.invokevirtual 172, 3) := by decide +kernel
theorem dX4_isSupported_27 : decode cX4_isSupported 27 = .ok (.ifCond .eq 23, 3) := by decide +kernel
theorem dX4_isSupported_30 : decode cX4_isSupported 30 = .ok (.aload_n 0, 1) := by decide +kernel
theorem dX4_isSupported_31 : decode cX4_isSupported 31 = .ok (.aload_n 0, 1) := by decide +kernel
theorem dX4_isSupported_32 : decode cX4_isSupported 32 = .ok (.getfield 21, 3) := by decide +kernel
theorem dX4_isSupported_35 : decode cX4_isSupported 35 = .ok (.iload_n 1, 1) := by decide +kernel
theorem dX4_isSupported_36 : decode cX4_isSupported 36 = .ok (.iload_n 2, 1) := by decide +kernel
theorem dX4_isSupported_37 : decode cX4_isSupported 37 = .ok (.invokevirtual 165, 3) := by decide +kernel
theorem dX4_isSupported_40 : decode cX4_isSupported 40 = .ok (.aload_n 0, 1) := by decide +kernel
theorem dX4_isSupported_41 : decode cX4_isSupported 41 = .ok (.getfield 21, 3) := by decide +kernel
theorem dX4_isSupported_44 : decode cX4_isSupported 44 = .ok (.invokevirtual 202, 3) := by decide +kernel
theorem dX4_isSupported_47 : decode cX4_isSupported 47 = .ok (.if_icmp .lt 7, 3) := by decide +kernel
theorem dX4_isSupported_50 : decode cX4_isSupported 50 = .ok (.iconst 1, 1) := by decide +kernel
theorem dX4_isSupported_51 : decode cX4_isSupported 51 = .ok (.goto 4, 3) := by decide +kernel
theorem dX4_isSupported_54 : decode cX4_isSupported 54 = .ok (.iconst 0, 1) := by decide +kernel
theorem dX4_isSupported_55 : decode cX4_isSupported 55 = .ok (.ireturn, 1) := by decide +kernel
set_option maxRecDepth 20000 in
theorem ggX4_holders_X0_size : GoodIn wsX4_holders wsX0_size := goodIn_r _ [5, 6, 32, 33] (by decide +kernel) (by decide +kernel)
set_option maxRecDepth 20000 in
theorem gX4_holders_X0_size : GoodIn wsX4_holders (wsV RX4 147 RX0 yX0_size wsX0_size) := goodIn_app (goodIn_of _ (by decide +kernel)) ggX4_holders_X0_size
set_option maxRecDepth 20000 in
theorem ggX4_holders_X0_elderOn : GoodIn wsX4_holders wsX0_elderOn := goodIn_r _ [10, 11, 12, 13, 14, 4, 15, 6, 32, 33] (by decide +kernel) (by decide +kernel)
set_option maxRecDepth 20000 in
theorem gX4_holders_X0_elderOn : GoodIn wsX4_holders (wsV RX4 132 RX0 yX0_elderOn wsX0_elderOn) := goodIn_app (goodIn_of _ (by decide +kernel)) ggX4_holders_X0_elderOn
set_option maxRecDepth 20000 in
theorem ggX4_holders_X4_holds : GoodIn wsX4_holders wsX4_holds := goodIn_r _ [20, 21, 22, 23, 24, 19, 25, 26, 34, 35, 36, 37, 38, 39, 40, 41, 42, 43, 44, 45, 46] (by decide +kernel) (by decide +kernel)
set_option maxRecDepth 20000 in
theorem gX4_holders_X4_holds : GoodIn wsX4_holders (wsV RX4 195 RX4 yX4_holds wsX4_holds) := goodIn_app (goodIn_of _ (by decide +kernel)) ggX4_holders_X4_holds
set_option maxRecDepth 20000 in
theorem ggX4_holders_X4_isPresent : GoodIn wsX4_holders wsX4_isPresent := goodIn_r _ [30, 31, 22, 23, 24, 19, 25, 26, 34, 35, 36, 37, 38, 39, 40, 41, 42, 43, 44, 45, 46] (by decide +kernel) (by decide +kernel)
set_option maxRecDepth 20000 in
theorem gX4_holders_X4_isPresent : GoodIn wsX4_holders (wsV RX4 192 RX4 yX4_isPresent wsX4_isPresent) := goodIn_app (goodIn_of _ (by decide +kernel)) ggX4_holders_X4_isPresent
theorem dX4_holders_0 : decode cX4_holders 0 = .ok (.iconst 0, 1) := by decide +kernel
theorem dX4_holders_1 : decode cX4_holders 1 = .ok (.istore 4, 2) := by decide +kernel
theorem dX4_holders_3 : decode cX4_holders 3 = .ok (.iconst 0, 1) := by decide +kernel
theorem dX4_holders_4 : decode cX4_holders 4 = .ok (.istore 5, 2) := by decide +kernel
theorem dX4_holders_6 : decode cX4_holders 6 = .ok (.iload 5, 2) := by decide +kernel
theorem dX4_holders_8 : decode cX4_holders 8 = .ok (.aload_n 1, 1) := by decide +kernel
theorem dX4_holders_9 : decode cX4_holders 9 = .ok (.invokevirtual 147, 3) := by decide +kernel
theorem dX4_holders_12 : decode cX4_holders 12 = .ok (.if_icmp .ge 43, 3) := by decide +kernel
theorem dX4_holders_15 : decode cX4_holders 15 = .ok (.aload_n 1, 1) := by decide +kernel
theorem dX4_holders_16 : decode cX4_holders 16 = .ok (.iload 5, 2) := by decide +kernel
theorem dX4_holders_18 : decode cX4_holders 18 = .ok (.invokevirtual 132, 3) := by decide +kernel
theorem dX4_holders_21 : decode cX4_holders 21 = .ok (.istore 6, 2) := by decide +kernel
theorem dX4_holders_23 : decode cX4_holders 23 = .ok (.aload_n 0, 1) := by decide +kernel
theorem dX4_holders_24 : decode cX4_holders 24 = .ok (.iload 6, 2) := by decide +kernel
theorem dX4_holders_26 : decode cX4_holders 26 = .ok (.iload_n 2, 1) := by decide +kernel
theorem dX4_holders_27 : decode cX4_holders 27 = .ok (.invokevirtual 195, 3) := by decide +kernel
theorem dX4_holders_30 : decode cX4_holders 30 = .ok (.ifCond .ne 16, 3) := by decide +kernel
theorem dX4_holders_33 : decode cX4_holders 33 = .ok (.iload_n 3, 1) := by decide +kernel
theorem dX4_holders_34 : decode cX4_holders 34 = .ok (.ifCond .eq 15, 3) := by decide +kernel
theorem dX4_holders_37 : decode cX4_holders 37 = .ok (.aload_n 0, 1) := by decide +kernel
theorem dX4_holders_38 : decode cX4_holders 38 = .ok (.iload 6, 2) := by decide +kernel
theorem dX4_holders_40 : decode cX4_holders 40 = .ok (.invokevirtual 192, 3) := by decide +kernel
theorem dX4_holders_43 : decode cX4_holders 43 = .ok (.ifCond .eq 6, 3) := by decide +kernel
theorem dX4_holders_46 : decode cX4_holders 46 = .ok (.iinc 4 1, 3) := by decide +kernel
theorem dX4_holders_49 : decode cX4_holders 49 = .ok (.iinc 5 1, 3) := by decide +kernel
theorem dX4_holders_52 : decode cX4_holders 52 = .ok (.goto (-46), 3) := by decide +kernel
theorem dX4_holders_55 : decode cX4_holders 55 = .ok (.iload 4, 2) := by decide +kernel
theorem dX4_holders_57 : decode cX4_holders 57 = .ok (.ireturn, 1) := by decide +kernel
set_option maxRecDepth 20000 in
theorem ggX4_fewestToSecond_X4_lacking : GoodIn wsX4_fewestToSecond wsX4_lacking := goodIn_r _ [11, 12, 13, 5, 14, 15, 16, 17, 18, 19, 20, 21, 22, 23, 10, 24, 25, 26, 27, 28, 29, 30, 31, 32, 33, 34, 35, 36, 37, 38, 39, 40, 41, 42, 43, 44, 45, 46, 47, 48, 49, 50, 51, 52, 78, 79, 65, 66, 67, 68, 69, 70, 71, 72, 73, 74, 75, 76, 77] (by decide +kernel) (by decide +kernel)
set_option maxRecDepth 20000 in
theorem gX4_fewestToSecond_X4_lacking : GoodIn wsX4_fewestToSecond (wsV RX4 205 RX4 yX4_lacking wsX4_lacking) := goodIn_app (goodIn_of _ (by decide +kernel)) ggX4_fewestToSecond_X4_lacking
set_option maxRecDepth 20000 in
theorem ggX4_fewestToSecond_X4_commonWithout : GoodIn wsX4_fewestToSecond wsX4_commonWithout := goodIn_r _ [56, 2, 1, 25, 26, 27, 18, 28, 20, 29, 30, 31, 32, 33, 34, 35, 36, 37, 57, 58, 59, 60, 61, 62, 63, 64, 38, 39, 40, 10, 41, 42, 43, 44, 45, 46, 47, 65, 66, 67, 68, 69, 70, 71, 72, 73, 74, 75, 76, 77, 78, 79] (by decide +kernel) (by decide +kernel)
set_option maxRecDepth 20000 in
theorem gX4_fewestToSecond_X4_commonWithout : GoodIn wsX4_fewestToSecond (wsV RX4 212 RX4 yX4_commonWithout wsX4_commonWithout) := goodIn_app (goodIn_of _ (by decide +kernel)) ggX4_fewestToSecond_X4_commonWithout
theorem dX4_fewestToSecond_0 : decode cX4_fewestToSecond 0 = .ok (.aload_n 0, 1) := by decide +kernel
theorem dX4_fewestToSecond_1 : decode cX4_fewestToSecond 1 = .ok (.aload_n 0, 1) := by decide +kernel
theorem dX4_fewestToSecond_2 : decode cX4_fewestToSecond 2 = .ok (.getfield 25, 3) := by decide +kernel
theorem dX4_fewestToSecond_5 : decode cX4_fewestToSecond 5 = .ok (.iload_n 1, 1) := by decide +kernel
theorem dX4_fewestToSecond_6 : decode cX4_fewestToSecond 6 = .ok (.invokevirtual 205, 3) := by decide +kernel
theorem dX4_fewestToSecond_9 : decode cX4_fewestToSecond 9 = .ok (.istore_n 3, 1) := by decide +kernel
theorem dX4_fewestToSecond_10 : decode cX4_fewestToSecond 10 = .ok (.iload_n 2, 1) := by decide +kernel
theorem dX4_fewestToSecond_11 : decode cX4_fewestToSecond 11 = .ok (.ifCond .ne 5, 3) := by decide +kernel
theorem dX4_fewestToSecond_14 : decode cX4_fewestToSecond 14 = .ok (.iload_n 3, 1) := by decide +kernel
theorem dX4_fewestToSecond_15 : decode cX4_fewestToSecond 15 = .ok (.ireturn, 1) := by decide +kernel
theorem dX4_fewestToSecond_16 : decode cX4_fewestToSecond 16 = .ok (.aload_n 0, 1) := by decide +kernel
theorem dX4_fewestToSecond_17 : decode cX4_fewestToSecond 17 = .ok (.aload_n 0, 1) := by decide +kernel
theorem dX4_fewestToSecond_18 : decode cX4_fewestToSecond 18 = .ok (.getfield 21, 3) := by decide +kernel
theorem dX4_fewestToSecond_21 : decode cX4_fewestToSecond 21 = .ok (.iload_n 1, 1) := by decide +kernel
theorem dX4_fewestToSecond_22 : decode cX4_fewestToSecond 22 = .ok (.invokevirtual 205, 3) := by decide +kernel
theorem dX4_fewestToSecond_25 : decode cX4_fewestToSecond 25 = .ok (.istore 4, 2) := by decide +kernel
theorem dX4_fewestToSecond_27 : decode cX4_fewestToSecond 27 = .ok (.iload 4, 2) := by decide +kernel
theorem dX4_fewestToSecond_29 : decode cX4_fewestToSecond 29 = .ok (.iload_n 3, 1) := by decide +kernel
theorem dX4_fewestToSecond_30 : decode cX4_fewestToSecond 30 = .ok (.invokestatic 209, 3) := by decide +kernel
theorem dX4_fewestToSecond_33 : decode cX4_fewestToSecond 33 = .ok (.aload_n 0, 1) := by decide +kernel
theorem dX4_fewestToSecond_34 : decode cX4_fewestToSecond 34 = .ok (.iload_n 1, 1) := by decide +kernel
theorem dX4_fewestToSecond_35 : decode cX4_fewestToSecond 35 = .ok (.invokevirtual 212, 3) := by decide +kernel
theorem dX4_fewestToSecond_38 : decode cX4_fewestToSecond 38 = .ok (.invokestatic 209, 3) := by decide +kernel
theorem dX4_fewestToSecond_41 : decode cX4_fewestToSecond 41 = .ok (.istore 5, 2) := by decide +kernel
theorem dX4_fewestToSecond_43 : decode cX4_fewestToSecond 43 = .ok (.iload 4, 2) := by decide +kernel
theorem dX4_fewestToSecond_45 : decode cX4_fewestToSecond 45 = .ok (.iload_n 3, 1) := by decide +kernel
theorem dX4_fewestToSecond_46 : decode cX4_fewestToSecond 46 = .ok (.iadd, 1) := by decide +kernel
theorem dX4_fewestToSecond_47 : decode cX4_fewestToSecond 47 = .ok (.iload 5, 2) := by decide +kernel
theorem dX4_fewestToSecond_49 : decode cX4_fewestToSecond 49 = .ok (.isub, 1) := by decide +kernel
theorem dX4_fewestToSecond_50 : decode cX4_fewestToSecond 50 = .ok (.ireturn, 1) := by decide +kernel
set_option maxRecDepth 20000 in
theorem ggX4_lacking_X0_majority : GoodIn wsX4_lacking wsX0_majority := goodIn_r _ [9, 10, 44, 45] (by decide +kernel) (by decide +kernel)
set_option maxRecDepth 20000 in
theorem gX4_lacking_X0_majority : GoodIn wsX4_lacking (wsV RX4 202 RX0 yX0_majority wsX0_majority) := goodIn_app (goodIn_of _ (by decide +kernel)) ggX4_lacking_X0_majority
set_option maxRecDepth 20000 in
theorem ggX4_lacking_X4_holders : GoodIn wsX4_lacking wsX4_holders := goodIn_r _ [15, 16, 17, 18, 8, 19, 10, 20, 21, 22, 23, 24, 25, 26, 27, 28, 29, 30, 31, 14, 32, 33, 34, 35, 36, 37, 38, 39, 40, 41, 42, 43, 44, 45, 46, 47, 48, 49, 50, 51, 52, 53, 54, 55, 56, 57, 58] (by decide +kernel) (by decide +kernel)
set_option maxRecDepth 20000 in
theorem gX4_lacking_X4_holders : GoodIn wsX4_lacking (wsV RX4 165 RX4 yX4_holders wsX4_holders) := goodIn_app (goodIn_of _ (by decide +kernel)) ggX4_lacking_X4_holders
theorem dX4_lacking_0 : decode cX4_lacking 0 = .ok (.iconst 0, 1) := by decide +kernel
theorem dX4_lacking_1 : decode cX4_lacking 1 = .ok (.aload_n 1, 1) := by decide +kernel
theorem dX4_lacking_2 : decode cX4_lacking 2 = .ok (.invokevirtual 202, 3) := by decide +kernel
theorem dX4_lacking_5 : decode cX4_lacking 5 = .ok (.aload_n 0, 1) := by decide +kernel
theorem dX4_lacking_6 : decode cX4_lacking 6 = .ok (.aload_n 1, 1) := by decide +kernel
theorem dX4_lacking_7 : decode cX4_lacking 7 = .ok (.iload_n 2, 1) := by decide +kernel
theorem dX4_lacking_8 : decode cX4_lacking 8 = .ok (.iconst 0, 1) := by decide +kernel
theorem dX4_lacking_9 : decode cX4_lacking 9 = .ok (.invokevirtual 165, 3) := by decide +kernel
theorem dX4_lacking_12 : decode cX4_lacking 12 = .ok (.isub, 1) := by decide +kernel
theorem dX4_lacking_13 : decode cX4_lacking 13 = .ok (.invokestatic 141, 3) := by decide +kernel
theorem dX4_lacking_16 : decode cX4_lacking 16 = .ok (.ireturn, 1) := by decide +kernel
set_option maxRecDepth 20000 in
theorem ggX4_commonWithout_X0_size : GoodIn wsX4_commonWithout wsX0_size := goodIn_r _ [7, 8, 50, 51] (by decide +kernel) (by decide +kernel)
set_option maxRecDepth 20000 in
theorem gX4_commonWithout_X0_size : GoodIn wsX4_commonWithout (wsV RX4 147 RX0 yX0_size wsX0_size) := goodIn_app (goodIn_of _ (by decide +kernel)) ggX4_commonWithout_X0_size
set_option maxRecDepth 20000 in
theorem ggX4_commonWithout_X0_elderOn : GoodIn wsX4_commonWithout wsX0_elderOn := goodIn_r _ [12, 13, 14, 15, 16, 6, 17, 8, 50, 51] (by decide +kernel) (by decide +kernel)
set_option maxRecDepth 20000 in
theorem gX4_commonWithout_X0_elderOn : GoodIn wsX4_commonWithout (wsV RX4 132 RX0 yX0_elderOn wsX0_elderOn) := goodIn_app (goodIn_of _ (by decide +kernel)) ggX4_commonWithout_X0_elderOn
set_option maxRecDepth 20000 in
theorem ggX4_commonWithout_X0_has : GoodIn wsX4_commonWithout wsX0_has := goodIn_r _ [21, 22, 23, 24, 6, 25, 8, 13, 50, 51] (by decide +kernel) (by decide +kernel)
set_option maxRecDepth 20000 in
theorem gX4_commonWithout_X0_has : GoodIn wsX4_commonWithout (wsV RX4 183 RX0 yX0_has wsX0_has) := goodIn_app (goodIn_of _ (by decide +kernel)) ggX4_commonWithout_X0_has
set_option maxRecDepth 20000 in
theorem ggX4_commonWithout_X4_holds : GoodIn wsX4_commonWithout wsX4_holds := goodIn_r _ [30, 31, 32, 33, 34, 29, 35, 36, 37, 38, 39, 40, 41, 42, 43, 44, 45, 46, 47, 48, 49] (by decide +kernel) (by decide +kernel)
set_option maxRecDepth 20000 in
theorem gX4_commonWithout_X4_holds : GoodIn wsX4_commonWithout (wsV RX4 195 RX4 yX4_holds wsX4_holds) := goodIn_app (goodIn_of _ (by decide +kernel)) ggX4_commonWithout_X4_holds
theorem dX4_commonWithout_0 : decode cX4_commonWithout 0 = .ok (.iconst 0, 1) := by decide +kernel
theorem dX4_commonWithout_1 : decode cX4_commonWithout 1 = .ok (.istore_n 2, 1) := by decide +kernel
theorem dX4_commonWithout_2 : decode cX4_commonWithout 2 = .ok (.iconst 0, 1) := by decide +kernel
theorem dX4_commonWithout_3 : decode cX4_commonWithout 3 = .ok (.istore_n 3, 1) := by decide +kernel
theorem dX4_commonWithout_4 : decode cX4_commonWithout 4 = .ok (.iload_n 3, 1) := by decide +kernel
theorem dX4_commonWithout_5 : decode cX4_commonWithout 5 = .ok (.aload_n 0, 1) := by decide +kernel
theorem dX4_commonWithout_6 : decode cX4_commonWithout 6 = .ok (.getfield 21, 3) := by decide +kernel
theorem dX4_commonWithout_9 : decode cX4_commonWithout 9 = .ok (.invokevirtual 147, 3) := by decide +kernel
theorem dX4_commonWithout_12 : decode cX4_commonWithout 12 = .ok (.if_icmp .ge 44, 3) := by decide +kernel
theorem dX4_commonWithout_15 : decode cX4_commonWithout 15 = .ok (.aload_n 0, 1) := by decide +kernel
theorem dX4_commonWithout_16 : decode cX4_commonWithout 16 = .ok (.getfield 21, 3) := by decide +kernel
theorem dX4_commonWithout_19 : decode cX4_commonWithout 19 = .ok (.iload_n 3, 1) := by decide +kernel
theorem dX4_commonWithout_20 : decode cX4_commonWithout 20 = .ok (.invokevirtual 132, 3) := by decide +kernel
theorem dX4_commonWithout_23 : decode cX4_commonWithout 23 = .ok (.istore 4, 2) := by decide +kernel
theorem dX4_commonWithout_25 : decode cX4_commonWithout 25 = .ok (.aload_n 0, 1) := by decide +kernel
theorem dX4_commonWithout_26 : decode cX4_commonWithout 26 = .ok (.getfield 25, 3) := by decide +kernel
theorem dX4_commonWithout_29 : decode cX4_commonWithout 29 = .ok (.iload 4, 2) := by decide +kernel
theorem dX4_commonWithout_31 : decode cX4_commonWithout 31 = .ok (.invokevirtual 183, 3) := by decide +kernel
theorem dX4_commonWithout_34 : decode cX4_commonWithout 34 = .ok (.ifCond .eq 16, 3) := by decide +kernel
theorem dX4_commonWithout_37 : decode cX4_commonWithout 37 = .ok (.aload_n 0, 1) := by decide +kernel
theorem dX4_commonWithout_38 : decode cX4_commonWithout 38 = .ok (.iload 4, 2) := by decide +kernel
theorem dX4_commonWithout_40 : decode cX4_commonWithout 40 = .ok (.iload_n 1, 1) := by decide +kernel
theorem dX4_commonWithout_41 : decode cX4_commonWithout 41 = .ok (.invokevirtual 195, 3) := by decide +kernel
theorem dX4_commonWithout_44 : decode cX4_commonWithout 44 = .ok (.ifCond .ne 6, 3) := by decide +kernel
theorem dX4_commonWithout_47 : decode cX4_commonWithout 47 = .ok (.iinc 2 1, 3) := by decide +kernel
theorem dX4_commonWithout_50 : decode cX4_commonWithout 50 = .ok (.iinc 3 1, 3) := by decide +kernel
theorem dX4_commonWithout_53 : decode cX4_commonWithout 53 = .ok (.goto (-49), 3) := by decide +kernel
theorem dX4_commonWithout_56 : decode cX4_commonWithout 56 = .ok (.iload_n 2, 1) := by decide +kernel
theorem dX4_commonWithout_57 : decode cX4_commonWithout 57 = .ok (.ireturn, 1) := by decide +kernel
set_option maxRecDepth 20000 in
theorem ggX5_init_X4_init : GoodIn wsX5_init wsX4_init := goodIn_r _ [17, 18, 2, 3, 19, 20, 21, 22, 23, 24, 25, 26, 27, 28, 29, 30, 31, 32, 33, 34, 35, 36, 37, 38, 39, 40, 41, 42, 43, 44, 45, 46, 47, 58, 59, 60, 61, 62, 63, 64, 65, 66, 67, 68, 69, 70, 83, 84, 85, 86, 87, 88, 89, 90, 91] (by decide +kernel) (by decide +kernel)
set_option maxRecDepth 20000 in
theorem gX5_init_X4_init_n9 : GoodIn wsX5_init (wsX4_init) := ggX5_init_X4_init
set_option maxRecDepth 20000 in
theorem ggX5_init_X1_init : GoodIn wsX5_init wsX1_init := goodIn_r _ [50, 51, 2, 3, 52, 53, 5, 6, 16, 17, 18, 19, 20, 21, 22, 23, 24, 25, 26, 27, 28, 29, 30, 31, 32, 33, 34, 35, 36, 37, 38, 39, 40, 41, 42, 43, 44, 45, 46, 47, 74, 75, 76, 58, 59, 60, 61, 62, 63, 64, 65, 66, 67, 68, 69, 70, 83, 84, 85, 86, 87, 88, 89, 90, 91] (by decide +kernel) (by decide +kernel)
set_option maxRecDepth 20000 in
theorem gX5_init_X1_init : GoodIn wsX5_init (wsX1_init) := ggX5_init_X1_init
set_option maxRecDepth 20000 in
theorem ggX5_init_X3_init : GoodIn wsX5_init wsX3_init := goodIn_r _ [55, 56, 2, 3, 19, 57, 77, 78, 79, 80, 81, 82] (by decide +kernel) (by decide +kernel)
set_option maxRecDepth 20000 in
theorem gX5_init_X3_init_n25 : GoodIn wsX5_init (wsX3_init) := ggX5_init_X3_init
end
section
theorem dX5_init_0 : decode cX5_init 0 = .ok (.aload_n 0, 1) := by decide +kernel
theorem dX5_init_1 : decode cX5_init 1 = .ok (.invokespecial 1, 3) := by decide +kernel
theorem dX5_init_4 : decode cX5_init 4 = .ok (.aload_n 0, 1) := by decide +kernel
theorem dX5_init_5 : decode cX5_init 5 = .ok (.new 7, 3) := by decide +kernel
theorem dX5_init_8 : decode cX5_init 8 = .ok (.dup, 1) := by decide +kernel
theorem dX5_init_9 : decode cX5_init 9 = .ok (.invokespecial 9, 3) := by decide +kernel
theorem dX5_init_12 : decode cX5_init 12 = .ok (.putfield 10, 3) := by decide +kernel
theorem dX5_init_15 : decode cX5_init 15 = .ok (.aload_n 0, 1) := by decide +kernel
theorem dX5_init_16 : decode cX5_init 16 = .ok (.new 16, 3) := by decide +kernel
theorem dX5_init_19 : decode cX5_init 19 = .ok (.dup, 1) := by decide +kernel
theorem dX5_init_20 : decode cX5_init 20 = .ok (.invokespecial 18, 3) := by decide +kernel
theorem dX5_init_23 : decode cX5_init 23 = .ok (.putfield 19, 3) := by decide +kernel
theorem dX5_init_26 : decode cX5_init 26 = .ok (.aload_n 0, 1) := by decide +kernel
theorem dX5_init_27 : decode cX5_init 27 = .ok (.new 23, 3) := by decide +kernel
theorem dX5_init_30 : decode cX5_init 30 = .ok (.dup, 1) := by decide +kernel
theorem dX5_init_31 : decode cX5_init 31 = .ok (.invokespecial 25, 3) := by decide +kernel
theorem dX5_init_34 : decode cX5_init 34 = .ok (.putfield 26, 3) := by decide +kernel
theorem dX5_init_37 : decode cX5_init 37 = .ok (.return_, 1) := by decide +kernel
set_option maxRecDepth 20000 in
theorem ggX5_come_X1_note : GoodIn wsX5_come wsX1_note := goodIn_r _ [7, 8, 9, 10, 11, 12, 13, 14, 15, 16, 17, 18, 19, 20, 21, 22, 23, 24, 25, 26, 27, 28, 29, 30, 31, 32, 33, 34, 35, 36, 37, 38, 39, 40, 41, 42, 43, 44, 45, 46, 47, 48, 49, 50, 51, 52, 74, 75, 76, 77, 78, 79, 80, 81, 82, 83, 84, 85, 86, 87, 88, 89, 90, 91, 92, 93, 94, 95, 96, 97, 98] (by decide +kernel) (by decide +kernel)
set_option maxRecDepth 20000 in
theorem gX5_come_X1_note : GoodIn wsX5_come (wsV RX5 30 RX1 yX1_note wsX1_note) := goodIn_app (goodIn_of _ (by decide +kernel)) ggX5_come_X1_note
set_option maxRecDepth 20000 in
theorem ggX5_come_X4_letCome : GoodIn wsX5_come wsX4_letCome := goodIn_r _ [56, 15, 16, 21, 77, 78, 79, 80, 81, 82, 83, 84, 85, 86, 87, 88, 89] (by decide +kernel) (by decide +kernel)
set_option maxRecDepth 20000 in
theorem gX5_come_X4_letCome : GoodIn wsX5_come (wsV RX5 34 RX4 yX4_letCome wsX4_letCome) := goodIn_app (goodIn_of _ (by decide +kernel)) ggX5_come_X4_letCome
set_option maxRecDepth 20000 in
theorem ggX5_come_X5_kept : GoodIn wsX5_come wsX5_kept := goodIn_r _ [61, 1, 62, 63, 64, 6, 65, 9, 66, 67, 68, 69, 70, 71, 72, 73, 74, 75, 76] (by decide +kernel) (by decide +kernel)
set_option maxRecDepth 20000 in
theorem gX5_come_X5_kept : GoodIn wsX5_come (wsV RX5 38 RX5 yX5_kept wsX5_kept) := goodIn_app (goodIn_of _ (by decide +kernel)) ggX5_come_X5_kept
theorem dX5_come_0 : decode cX5_come 0 = .ok (.aload_n 0, 1) := by decide +kernel
theorem dX5_come_1 : decode cX5_come 1 = .ok (.getfield 19, 3) := by decide +kernel
theorem dX5_come_4 : decode cX5_come 4 = .ok (.aload_n 0, 1) := by decide +kernel
theorem dX5_come_5 : decode cX5_come 5 = .ok (.getfield 10, 3) := by decide +kernel
theorem dX5_come_8 : decode cX5_come 8 = .ok (.invokevirtual 30, 3) := by decide +kernel
theorem dX5_come_11 : decode cX5_come 11 = .ok (.aload_n 0, 1) := by decide +kernel
theorem dX5_come_12 : decode cX5_come 12 = .ok (.aload_n 0, 1) := by decide +kernel
theorem dX5_come_13 : decode cX5_come 13 = .ok (.getfield 10, 3) := by decide +kernel
theorem dX5_come_16 : decode cX5_come 16 = .ok (.invokevirtual 34, 3) := by decide +kernel
theorem dX5_come_19 : decode cX5_come 19 = .ok (.invokevirtual 38, 3) := by decide +kernel
theorem dX5_come_22 : decode cX5_come 22 = .ok (.ireturn, 1) := by decide +kernel
set_option maxRecDepth 20000 in
theorem ggX5_attend_X1_note : GoodIn wsX5_attend wsX1_note := goodIn_r _ [7, 8, 9, 10, 11, 12, 13, 14, 15, 16, 17, 18, 19, 20, 21, 22, 23, 24, 25, 26, 27, 28, 29, 30, 31, 32, 33, 34, 35, 36, 37, 38, 39, 40, 41, 42, 43, 44, 45, 46, 47, 48, 49, 50, 51, 52, 82, 83, 84, 85, 86, 87, 88, 89, 90, 91, 92, 93, 94, 95, 96, 97, 98, 99, 100, 101, 102, 103, 104, 105, 106] (by decide +kernel) (by decide +kernel)
set_option maxRecDepth 20000 in
theorem gX5_attend_X1_note : GoodIn wsX5_attend (wsV RX5 30 RX1 yX1_note wsX1_note) := goodIn_app (goodIn_of _ (by decide +kernel)) ggX5_attend_X1_note
set_option maxRecDepth 20000 in
theorem ggX5_attend_X4_letAttend : GoodIn wsX5_attend wsX4_letAttend := goodIn_r _ [56, 16, 57, 58, 59, 13, 60, 15, 61, 62, 63, 64, 85, 86, 87, 88, 89, 90, 91, 92, 93, 94, 95, 96, 97] (by decide +kernel) (by decide +kernel)
set_option maxRecDepth 20000 in
theorem gX5_attend_X4_letAttend : GoodIn wsX5_attend (wsV RX5 42 RX4 yX4_letAttend wsX4_letAttend) := goodIn_app (goodIn_of _ (by decide +kernel)) ggX5_attend_X4_letAttend
set_option maxRecDepth 20000 in
theorem ggX5_attend_X5_kept : GoodIn wsX5_attend wsX5_kept := goodIn_r _ [69, 1, 70, 71, 72, 6, 73, 9, 74, 75, 76, 77, 78, 79, 80, 81, 82, 83, 84] (by decide +kernel) (by decide +kernel)
set_option maxRecDepth 20000 in
theorem gX5_attend_X5_kept : GoodIn wsX5_attend (wsV RX5 38 RX5 yX5_kept wsX5_kept) := goodIn_app (goodIn_of _ (by decide +kernel)) ggX5_attend_X5_kept
theorem dX5_attend_0 : decode cX5_attend 0 = .ok (.aload_n 0, 1) := by decide +kernel
theorem dX5_attend_1 : decode cX5_attend 1 = .ok (.getfield 19, 3) := by decide +kernel
theorem dX5_attend_4 : decode cX5_attend 4 = .ok (.aload_n 0, 1) := by decide +kernel
theorem dX5_attend_5 : decode cX5_attend 5 = .ok (.getfield 10, 3) := by decide +kernel
theorem dX5_attend_8 : decode cX5_attend 8 = .ok (.invokevirtual 30, 3) := by decide +kernel
theorem dX5_attend_11 : decode cX5_attend 11 = .ok (.aload_n 0, 1) := by decide +kernel
theorem dX5_attend_12 : decode cX5_attend 12 = .ok (.aload_n 0, 1) := by decide +kernel
theorem dX5_attend_13 : decode cX5_attend 13 = .ok (.getfield 10, 3) := by decide +kernel
theorem dX5_attend_16 : decode cX5_attend 16 = .ok (.iload_n 1, 1) := by decide +kernel
theorem dX5_attend_17 : decode cX5_attend 17 = .ok (.iload_n 2, 1) := by decide +kernel
theorem dX5_attend_18 : decode cX5_attend 18 = .ok (.invokevirtual 42, 3) := by decide +kernel
theorem dX5_attend_21 : decode cX5_attend 21 = .ok (.invokevirtual 38, 3) := by decide +kernel
theorem dX5_attend_24 : decode cX5_attend 24 = .ok (.ireturn, 1) := by decide +kernel
set_option maxRecDepth 20000 in
theorem ggX5_found_X1_note : GoodIn wsX5_found wsX1_note := goodIn_r _ [7, 8, 9, 10, 11, 12, 13, 14, 15, 16, 17, 18, 19, 20, 21, 22, 23, 24, 25, 26, 27, 28, 29, 30, 31, 32, 33, 34, 35, 36, 37, 38, 39, 40, 41, 42, 43, 44, 45, 46, 47, 48, 49, 50, 51, 52, 83, 84, 85, 86, 87, 88, 89, 90, 91, 92, 93, 94, 95, 96, 97, 98, 99, 100, 101, 102, 103, 104, 105, 106, 107] (by decide +kernel) (by decide +kernel)
set_option maxRecDepth 20000 in
theorem gX5_found_X1_note : GoodIn wsX5_found (wsV RX5 30 RX1 yX1_note wsX1_note) := goodIn_app (goodIn_of _ (by decide +kernel)) ggX5_found_X1_note
set_option maxRecDepth 20000 in
theorem ggX5_found_X4_setFirstCouncil : GoodIn wsX5_found wsX4_setFirstCouncil := goodIn_r _ [56, 22, 15, 23, 57, 58, 59, 35, 60, 37, 61, 62, 63, 64, 65, 66, 67, 68, 38, 32, 33, 34, 36, 39, 18, 19, 20, 86, 87, 88, 89, 90, 91, 92, 93, 94, 95, 96, 97, 98, 99, 100] (by decide +kernel) (by decide +kernel)
set_option maxRecDepth 20000 in
theorem gX5_found_X4_setFirstCouncil : GoodIn wsX5_found (wsV RX5 46 RX4 yX4_setFirstCouncil wsX4_setFirstCouncil) := goodIn_app (goodIn_of _ (by decide +kernel)) ggX5_found_X4_setFirstCouncil
set_option maxRecDepth 20000 in
theorem ggX5_found_X5_kept : GoodIn wsX5_found wsX5_kept := goodIn_r _ [73, 1, 74, 75, 76, 6, 77, 9, 78, 79, 66, 67, 68, 80, 81, 82, 83, 84, 85] (by decide +kernel) (by decide +kernel)
set_option maxRecDepth 20000 in
theorem gX5_found_X5_kept : GoodIn wsX5_found (wsV RX5 38 RX5 yX5_kept wsX5_kept) := goodIn_app (goodIn_of _ (by decide +kernel)) ggX5_found_X5_kept
theorem dX5_found_0 : decode cX5_found 0 = .ok (.aload_n 0, 1) := by decide +kernel
theorem dX5_found_1 : decode cX5_found 1 = .ok (.getfield 19, 3) := by decide +kernel
theorem dX5_found_4 : decode cX5_found 4 = .ok (.aload_n 0, 1) := by decide +kernel
theorem dX5_found_5 : decode cX5_found 5 = .ok (.getfield 10, 3) := by decide +kernel
theorem dX5_found_8 : decode cX5_found 8 = .ok (.invokevirtual 30, 3) := by decide +kernel
theorem dX5_found_11 : decode cX5_found 11 = .ok (.aload_n 0, 1) := by decide +kernel
theorem dX5_found_12 : decode cX5_found 12 = .ok (.aload_n 0, 1) := by decide +kernel
theorem dX5_found_13 : decode cX5_found 13 = .ok (.getfield 10, 3) := by decide +kernel
theorem dX5_found_16 : decode cX5_found 16 = .ok (.iload_n 1, 1) := by decide +kernel
theorem dX5_found_17 : decode cX5_found 17 = .ok (.invokevirtual 46, 3) := by decide +kernel
theorem dX5_found_20 : decode cX5_found 20 = .ok (.invokevirtual 38, 3) := by decide +kernel
theorem dX5_found_23 : decode cX5_found 23 = .ok (.ireturn, 1) := by decide +kernel
set_option maxRecDepth 20000 in
theorem ggX5_setLot_X1_note : GoodIn wsX5_setLot wsX1_note := goodIn_r _ [7, 8, 9, 10, 11, 12, 13, 14, 15, 16, 17, 18, 19, 20, 21, 22, 23, 24, 25, 26, 27, 28, 29, 30, 31, 32, 33, 34, 35, 36, 37, 38, 39, 40, 41, 42, 43, 44, 45, 46, 47, 48, 49, 50, 51, 52, 79, 80, 81, 82, 83, 84, 85, 86, 87, 88, 89, 90, 91, 92, 93, 94, 95, 96, 97, 98, 99, 100, 101, 102, 103] (by decide +kernel) (by decide +kernel)
set_option maxRecDepth 20000 in
theorem gX5_setLot_X1_note : GoodIn wsX5_setLot (wsV RX5 30 RX1 yX1_note wsX1_note) := goodIn_app (goodIn_of _ (by decide +kernel)) ggX5_setLot_X1_note
set_option maxRecDepth 20000 in
theorem ggX5_setLot_X4_setLotState : GoodIn wsX5_setLot wsX4_setLotState := goodIn_r _ [56, 57, 26, 58, 59, 60, 43, 61, 45, 82, 83, 84, 85, 86, 87, 88, 89, 90, 91, 92, 93, 94, 97, 98, 99, 100, 101, 102, 103] (by decide +kernel) (by decide +kernel)
set_option maxRecDepth 20000 in
theorem gX5_setLot_X4_setLotState : GoodIn wsX5_setLot (wsV RX5 49 RX4 yX4_setLotState wsX4_setLotState) := goodIn_app (goodIn_of _ (by decide +kernel)) ggX5_setLot_X4_setLotState
set_option maxRecDepth 20000 in
theorem ggX5_setLot_X5_kept : GoodIn wsX5_setLot wsX5_kept := goodIn_r _ [66, 1, 67, 68, 69, 6, 70, 9, 71, 72, 73, 74, 75, 76, 77, 78, 79, 80, 81] (by decide +kernel) (by decide +kernel)
set_option maxRecDepth 20000 in
theorem gX5_setLot_X5_kept : GoodIn wsX5_setLot (wsV RX5 38 RX5 yX5_kept wsX5_kept) := goodIn_app (goodIn_of _ (by decide +kernel)) ggX5_setLot_X5_kept
theorem dX5_setLot_0 : decode cX5_setLot 0 = .ok (.aload_n 0, 1) := by decide +kernel
theorem dX5_setLot_1 : decode cX5_setLot 1 = .ok (.getfield 19, 3) := by decide +kernel
theorem dX5_setLot_4 : decode cX5_setLot 4 = .ok (.aload_n 0, 1) := by decide +kernel
theorem dX5_setLot_5 : decode cX5_setLot 5 = .ok (.getfield 10, 3) := by decide +kernel
theorem dX5_setLot_8 : decode cX5_setLot 8 = .ok (.invokevirtual 30, 3) := by decide +kernel
theorem dX5_setLot_11 : decode cX5_setLot 11 = .ok (.aload_n 0, 1) := by decide +kernel
theorem dX5_setLot_12 : decode cX5_setLot 12 = .ok (.aload_n 0, 1) := by decide +kernel
theorem dX5_setLot_13 : decode cX5_setLot 13 = .ok (.getfield 10, 3) := by decide +kernel
theorem dX5_setLot_16 : decode cX5_setLot 16 = .ok (.iload_n 1, 1) := by decide +kernel
theorem dX5_setLot_17 : decode cX5_setLot 17 = .ok (.invokevirtual 49, 3) := by decide +kernel
theorem dX5_setLot_20 : decode cX5_setLot 20 = .ok (.invokevirtual 38, 3) := by decide +kernel
theorem dX5_setLot_23 : decode cX5_setLot 23 = .ok (.ireturn, 1) := by decide +kernel
set_option maxRecDepth 20000 in
theorem ggX5_change_X1_note : GoodIn wsX5_change wsX1_note := goodIn_r _ [7, 8, 9, 10, 11, 12, 13, 14, 15, 16, 17, 18, 19, 20, 21, 22, 23, 24, 25, 26, 27, 28, 29, 30, 31, 32, 33, 34, 35, 36, 37, 38, 39, 40, 41, 42, 43, 44, 45, 46, 47, 48, 49, 50, 51, 52, 176, 177, 178, 179, 180, 181, 182, 183, 184, 185, 186, 187, 188, 189, 190, 191, 192, 193, 194, 195, 196, 197, 198, 199, 200] (by decide +kernel) (by decide +kernel)
set_option maxRecDepth 20000 in
theorem gX5_change_X1_note : GoodIn wsX5_change (wsV RX5 30 RX1 yX1_note wsX1_note) := goodIn_app (goodIn_of _ (by decide +kernel)) ggX5_change_X1_note
set_option maxRecDepth 20000 in
theorem ggX5_change_X4_beginChange : GoodIn wsX5_change wsX4_beginChange := goodIn_r _ [56, 22, 26, 21, 27, 23, 25, 57, 58, 59, 13, 60, 15, 61, 62, 63, 35, 64, 37, 65, 66, 67, 43, 68, 45, 69, 70, 71, 72, 73, 74, 75, 76, 77, 78, 79, 80, 81, 82, 83, 84, 85, 86, 87, 88, 38, 89, 90, 91, 92, 93, 94, 95, 96, 97, 98, 99, 100, 101, 102, 103, 104, 105, 106, 107, 108, 16, 109, 110, 111, 112, 46, 47, 49, 50, 51, 52, 113, 114, 115, 116, 117, 118, 119, 120, 121, 122, 29, 30, 24, 31, 123, 124, 125, 126, 28, 127, 128, 129, 130, 131, 132, 133, 134, 135, 136, 137, 138, 139, 140, 141, 142, 143, 144, 145, 146, 147, 148, 149, 150, 151, 152, 153, 154, 155, 156, 157, 158, 32, 33, 34, 36, 39, 18, 19, 20, 179, 180, 181, 182, 183, 184, 185, 186, 187, 188, 189, 190, 191, 192, 193, 194, 195, 196, 197, 198, 199, 200] (by decide +kernel) (by decide +kernel)
set_option maxRecDepth 20000 in
theorem gX5_change_X4_beginChange : GoodIn wsX5_change (wsV RX5 52 RX4 yX4_beginChange wsX4_beginChange) := goodIn_app (goodIn_of _ (by decide +kernel)) ggX5_change_X4_beginChange
set_option maxRecDepth 20000 in
theorem ggX5_change_X5_kept : GoodIn wsX5_change wsX5_kept := goodIn_r _ [163, 1, 164, 165, 166, 6, 167, 9, 168, 169, 170, 171, 172, 173, 174, 175, 176, 177, 178] (by decide +kernel) (by decide +kernel)
set_option maxRecDepth 20000 in
theorem gX5_change_X5_kept : GoodIn wsX5_change (wsV RX5 38 RX5 yX5_kept wsX5_kept) := goodIn_app (goodIn_of _ (by decide +kernel)) ggX5_change_X5_kept
theorem dX5_change_0 : decode cX5_change 0 = .ok (.aload_n 0, 1) := by decide +kernel
theorem dX5_change_1 : decode cX5_change 1 = .ok (.getfield 19, 3) := by decide +kernel
theorem dX5_change_4 : decode cX5_change 4 = .ok (.aload_n 0, 1) := by decide +kernel
theorem dX5_change_5 : decode cX5_change 5 = .ok (.getfield 10, 3) := by decide +kernel
theorem dX5_change_8 : decode cX5_change 8 = .ok (.invokevirtual 30, 3) := by decide +kernel
theorem dX5_change_11 : decode cX5_change 11 = .ok (.aload_n 0, 1) := by decide +kernel
theorem dX5_change_12 : decode cX5_change 12 = .ok (.aload_n 0, 1) := by decide +kernel
theorem dX5_change_13 : decode cX5_change 13 = .ok (.getfield 10, 3) := by decide +kernel
theorem dX5_change_16 : decode cX5_change 16 = .ok (.iload_n 1, 1) := by decide +kernel
theorem dX5_change_17 : decode cX5_change 17 = .ok (.iload_n 2, 1) := by decide +kernel
theorem dX5_change_18 : decode cX5_change 18 = .ok (.invokevirtual 52, 3) := by decide +kernel
theorem dX5_change_21 : decode cX5_change 21 = .ok (.invokevirtual 38, 3) := by decide +kernel
theorem dX5_change_24 : decode cX5_change 24 = .ok (.ireturn, 1) := by decide +kernel
set_option maxRecDepth 20000 in
theorem ggX5_forge_X1_note : GoodIn wsX5_forge wsX1_note := goodIn_r _ [7, 8, 9, 10, 11, 12, 13, 14, 15, 16, 17, 18, 19, 20, 21, 22, 23, 24, 25, 26, 27, 28, 29, 30, 31, 32, 33, 34, 35, 36, 37, 38, 39, 40, 41, 42, 43, 44, 45, 46, 47, 48, 49, 50, 51, 52, 150, 151, 152, 153, 154, 155, 156, 157, 158, 159, 160, 161, 162, 163, 164, 165, 166, 167, 168, 169, 170, 171, 172, 173, 174] (by decide +kernel) (by decide +kernel)
set_option maxRecDepth 20000 in
theorem gX5_forge_X1_note : GoodIn wsX5_forge (wsV RX5 30 RX1 yX1_note wsX1_note) := goodIn_app (goodIn_of _ (by decide +kernel)) ggX5_forge_X1_note
set_option maxRecDepth 20000 in
theorem ggX5_forge_X4_forgeLot : GoodIn wsX5_forge wsX4_forgeLot := goodIn_r _ [56, 26, 23, 57, 58, 59, 13, 60, 15, 61, 62, 63, 64, 25, 65, 66, 67, 68, 22, 69, 70, 71, 35, 72, 73, 74, 75, 76, 37, 38, 77, 78, 79, 43, 80, 46, 52, 81, 82, 83, 84, 85, 86, 87, 88, 89, 90, 91, 92, 93, 94, 95, 96, 51, 97, 98, 99, 100, 28, 27, 101, 102, 103, 104, 105, 106, 107, 108, 109, 110, 111, 112, 113, 114, 115, 116, 21, 117, 118, 119, 120, 16, 121, 122, 123, 124, 125, 126, 127, 128, 129, 130, 131, 132, 24, 32, 33, 34, 36, 39, 18, 19, 20, 153, 154, 155, 156, 157, 158, 159, 160, 161, 162, 163, 164, 165, 166, 167, 168, 169, 170, 171, 172, 173, 174] (by decide +kernel) (by decide +kernel)
set_option maxRecDepth 20000 in
theorem gX5_forge_X4_forgeLot : GoodIn wsX5_forge (wsV RX5 55 RX4 yX4_forgeLot wsX4_forgeLot) := goodIn_app (goodIn_of _ (by decide +kernel)) ggX5_forge_X4_forgeLot
set_option maxRecDepth 20000 in
theorem ggX5_forge_X5_kept : GoodIn wsX5_forge wsX5_kept := goodIn_r _ [137, 1, 138, 139, 140, 6, 141, 9, 142, 143, 144, 145, 146, 147, 148, 149, 150, 151, 152] (by decide +kernel) (by decide +kernel)
set_option maxRecDepth 20000 in
theorem gX5_forge_X5_kept : GoodIn wsX5_forge (wsV RX5 38 RX5 yX5_kept wsX5_kept) := goodIn_app (goodIn_of _ (by decide +kernel)) ggX5_forge_X5_kept
theorem dX5_forge_0 : decode cX5_forge 0 = .ok (.aload_n 0, 1) := by decide +kernel
theorem dX5_forge_1 : decode cX5_forge 1 = .ok (.getfield 19, 3) := by decide +kernel
theorem dX5_forge_4 : decode cX5_forge 4 = .ok (.aload_n 0, 1) := by decide +kernel
theorem dX5_forge_5 : decode cX5_forge 5 = .ok (.getfield 10, 3) := by decide +kernel
theorem dX5_forge_8 : decode cX5_forge 8 = .ok (.invokevirtual 30, 3) := by decide +kernel
theorem dX5_forge_11 : decode cX5_forge 11 = .ok (.aload_n 0, 1) := by decide +kernel
theorem dX5_forge_12 : decode cX5_forge 12 = .ok (.aload_n 0, 1) := by decide +kernel
theorem dX5_forge_13 : decode cX5_forge 13 = .ok (.getfield 10, 3) := by decide +kernel
theorem dX5_forge_16 : decode cX5_forge 16 = .ok (.iload_n 1, 1) := by decide +kernel
theorem dX5_forge_17 : decode cX5_forge 17 = .ok (.invokevirtual 55, 3) := by decide +kernel
theorem dX5_forge_20 : decode cX5_forge 20 = .ok (.invokevirtual 38, 3) := by decide +kernel
theorem dX5_forge_23 : decode cX5_forge 23 = .ok (.ireturn, 1) := by decide +kernel
set_option maxRecDepth 20000 in
theorem ggX5_propose_X1_note : GoodIn wsX5_propose wsX1_note := goodIn_r _ [7, 8, 9, 10, 11, 12, 13, 14, 15, 16, 17, 18, 19, 20, 21, 22, 23, 24, 25, 26, 27, 28, 29, 30, 31, 32, 33, 34, 35, 36, 37, 38, 39, 40, 41, 42, 43, 44, 45, 46, 47, 48, 49, 50, 51, 52, 146, 147, 148, 149, 150, 151, 152, 153, 154, 155, 156, 157, 158, 159, 160, 161, 162, 163, 164, 165, 166, 167, 168, 169, 170] (by decide +kernel) (by decide +kernel)
set_option maxRecDepth 20000 in
theorem gX5_propose_X1_note : GoodIn wsX5_propose (wsV RX5 30 RX1 yX1_note wsX1_note) := goodIn_app (goodIn_of _ (by decide +kernel)) ggX5_propose_X1_note
set_option maxRecDepth 20000 in
theorem ggX5_propose_X4_proposeEntry : GoodIn wsX5_propose wsX4_proposeEntry := goodIn_r _ [56, 21, 27, 57, 58, 59, 13, 60, 15, 61, 62, 63, 64, 65, 66, 67, 68, 22, 23, 69, 70, 71, 35, 72, 73, 74, 75, 76, 37, 38, 77, 78, 79, 80, 16, 81, 82, 83, 84, 29, 30, 24, 31, 85, 86, 87, 88, 28, 25, 89, 90, 91, 92, 93, 94, 95, 96, 97, 98, 99, 100, 101, 102, 103, 104, 105, 106, 107, 108, 109, 110, 111, 112, 113, 114, 115, 116, 117, 118, 119, 120, 121, 122, 123, 124, 125, 126, 127, 128, 32, 33, 34, 36, 39, 18, 19, 20, 149, 150, 151, 152, 153, 154, 155, 156, 157, 158, 159, 160, 161, 162, 163] (by decide +kernel) (by decide +kernel)
set_option maxRecDepth 20000 in
theorem gX5_propose_X4_proposeEntry : GoodIn wsX5_propose (wsV RX5 58 RX4 yX4_proposeEntry wsX4_proposeEntry) := goodIn_app (goodIn_of _ (by decide +kernel)) ggX5_propose_X4_proposeEntry
set_option maxRecDepth 20000 in
theorem ggX5_propose_X5_kept : GoodIn wsX5_propose wsX5_kept := goodIn_r _ [133, 1, 134, 135, 136, 6, 137, 9, 138, 139, 140, 141, 142, 143, 144, 145, 146, 147, 148] (by decide +kernel) (by decide +kernel)
set_option maxRecDepth 20000 in
theorem gX5_propose_X5_kept : GoodIn wsX5_propose (wsV RX5 38 RX5 yX5_kept wsX5_kept) := goodIn_app (goodIn_of _ (by decide +kernel)) ggX5_propose_X5_kept
theorem dX5_propose_0 : decode cX5_propose 0 = .ok (.aload_n 0, 1) := by decide +kernel
theorem dX5_propose_1 : decode cX5_propose 1 = .ok (.getfield 19, 3) := by decide +kernel
theorem dX5_propose_4 : decode cX5_propose 4 = .ok (.aload_n 0, 1) := by decide +kernel
theorem dX5_propose_5 : decode cX5_propose 5 = .ok (.getfield 10, 3) := by decide +kernel
theorem dX5_propose_8 : decode cX5_propose 8 = .ok (.invokevirtual 30, 3) := by decide +kernel
theorem dX5_propose_11 : decode cX5_propose 11 = .ok (.aload_n 0, 1) := by decide +kernel
theorem dX5_propose_12 : decode cX5_propose 12 = .ok (.aload_n 0, 1) := by decide +kernel
theorem dX5_propose_13 : decode cX5_propose 13 = .ok (.getfield 10, 3) := by decide +kernel
theorem dX5_propose_16 : decode cX5_propose 16 = .ok (.iload_n 1, 1) := by decide +kernel
theorem dX5_propose_17 : decode cX5_propose 17 = .ok (.iload_n 2, 1) := by decide +kernel
theorem dX5_propose_18 : decode cX5_propose 18 = .ok (.invokevirtual 58, 3) := by decide +kernel
theorem dX5_propose_21 : decode cX5_propose 21 = .ok (.invokevirtual 38, 3) := by decide +kernel
theorem dX5_propose_24 : decode cX5_propose 24 = .ok (.ireturn, 1) := by decide +kernel
set_option maxRecDepth 20000 in
theorem ggX5_second_X1_note : GoodIn wsX5_second wsX1_note := goodIn_r _ [7, 8, 9, 10, 11, 12, 13, 14, 15, 16, 17, 18, 19, 20, 21, 22, 23, 24, 25, 26, 27, 28, 29, 30, 31, 32, 33, 34, 35, 36, 37, 38, 39, 40, 41, 42, 43, 44, 45, 46, 47, 48, 49, 50, 51, 52, 146, 147, 148, 149, 150, 151, 152, 153, 154, 155, 156, 157, 158, 159, 160, 161, 162, 163, 164, 165, 166, 167, 168, 169, 170] (by decide +kernel) (by decide +kernel)
set_option maxRecDepth 20000 in
theorem gX5_second_X1_note : GoodIn wsX5_second (wsV RX5 30 RX1 yX1_note wsX1_note) := goodIn_app (goodIn_of _ (by decide +kernel)) ggX5_second_X1_note
set_option maxRecDepth 20000 in
theorem ggX5_second_X4_secondEntry : GoodIn wsX5_second wsX4_secondEntry := goodIn_r _ [56, 21, 57, 58, 59, 13, 60, 15, 61, 62, 63, 64, 27, 65, 66, 67, 68, 69, 70, 71, 72, 22, 23, 73, 74, 75, 35, 76, 77, 78, 79, 80, 37, 38, 81, 82, 83, 84, 16, 85, 86, 87, 88, 28, 25, 89, 90, 91, 92, 93, 94, 95, 96, 97, 98, 99, 100, 101, 102, 103, 104, 105, 106, 107, 108, 109, 110, 111, 112, 113, 114, 115, 116, 117, 118, 119, 120, 121, 122, 123, 124, 125, 126, 127, 128, 24, 32, 33, 34, 36, 39, 18, 19, 20, 149, 150, 151, 152, 153, 154, 155, 156, 157, 158, 159, 160, 161, 162, 163] (by decide +kernel) (by decide +kernel)
set_option maxRecDepth 20000 in
theorem gX5_second_X4_secondEntry : GoodIn wsX5_second (wsV RX5 61 RX4 yX4_secondEntry wsX4_secondEntry) := goodIn_app (goodIn_of _ (by decide +kernel)) ggX5_second_X4_secondEntry
set_option maxRecDepth 20000 in
theorem ggX5_second_X5_kept : GoodIn wsX5_second wsX5_kept := goodIn_r _ [133, 1, 134, 135, 136, 6, 137, 9, 138, 139, 140, 141, 142, 143, 144, 145, 146, 147, 148] (by decide +kernel) (by decide +kernel)
set_option maxRecDepth 20000 in
theorem gX5_second_X5_kept : GoodIn wsX5_second (wsV RX5 38 RX5 yX5_kept wsX5_kept) := goodIn_app (goodIn_of _ (by decide +kernel)) ggX5_second_X5_kept
theorem dX5_second_0 : decode cX5_second 0 = .ok (.aload_n 0, 1) := by decide +kernel
theorem dX5_second_1 : decode cX5_second 1 = .ok (.getfield 19, 3) := by decide +kernel
theorem dX5_second_4 : decode cX5_second 4 = .ok (.aload_n 0, 1) := by decide +kernel
theorem dX5_second_5 : decode cX5_second 5 = .ok (.getfield 10, 3) := by decide +kernel
theorem dX5_second_8 : decode cX5_second 8 = .ok (.invokevirtual 30, 3) := by decide +kernel
theorem dX5_second_11 : decode cX5_second 11 = .ok (.aload_n 0, 1) := by decide +kernel
theorem dX5_second_12 : decode cX5_second 12 = .ok (.aload_n 0, 1) := by decide +kernel
theorem dX5_second_13 : decode cX5_second 13 = .ok (.getfield 10, 3) := by decide +kernel
theorem dX5_second_16 : decode cX5_second 16 = .ok (.iload_n 1, 1) := by decide +kernel
theorem dX5_second_17 : decode cX5_second 17 = .ok (.iload_n 2, 1) := by decide +kernel
theorem dX5_second_18 : decode cX5_second 18 = .ok (.invokevirtual 61, 3) := by decide +kernel
theorem dX5_second_21 : decode cX5_second 21 = .ok (.invokevirtual 38, 3) := by decide +kernel
theorem dX5_second_24 : decode cX5_second 24 = .ok (.ireturn, 1) := by decide +kernel
set_option maxRecDepth 20000 in
theorem ggX5_learn_X1_note : GoodIn wsX5_learn wsX1_note := goodIn_r _ [7, 8, 9, 10, 11, 12, 13, 14, 15, 16, 17, 18, 19, 20, 21, 22, 23, 24, 25, 26, 27, 28, 29, 30, 31, 32, 33, 34, 35, 36, 37, 38, 39, 40, 41, 42, 43, 44, 45, 46, 47, 48, 49, 50, 51, 52, 81, 82, 83, 84, 85, 86, 87, 88, 89, 90, 91, 92, 93, 94, 95, 96, 97, 98, 99, 100, 101, 102, 103, 104, 105] (by decide +kernel) (by decide +kernel)
set_option maxRecDepth 20000 in
theorem gX5_learn_X1_note : GoodIn wsX5_learn (wsV RX5 30 RX1 yX1_note wsX1_note) := goodIn_app (goodIn_of _ (by decide +kernel)) ggX5_learn_X1_note
set_option maxRecDepth 20000 in
theorem ggX5_learn_X4_learnEntries : GoodIn wsX5_learn wsX4_learnEntries := goodIn_r _ [56, 16, 28, 21, 57, 58, 59, 60, 61, 62, 63, 13, 64, 15, 84, 85, 86, 87, 88, 89, 90, 91, 92, 93, 94, 95, 96] (by decide +kernel) (by decide +kernel)
set_option maxRecDepth 20000 in
theorem gX5_learn_X4_learnEntries : GoodIn wsX5_learn (wsV RX5 64 RX4 yX4_learnEntries wsX4_learnEntries) := goodIn_app (goodIn_of _ (by decide +kernel)) ggX5_learn_X4_learnEntries
set_option maxRecDepth 20000 in
theorem ggX5_learn_X5_kept : GoodIn wsX5_learn wsX5_kept := goodIn_r _ [69, 1, 70, 71, 72, 6, 73, 9, 74, 75, 76, 59, 77, 78, 79, 80, 81, 82, 83] (by decide +kernel) (by decide +kernel)
set_option maxRecDepth 20000 in
theorem gX5_learn_X5_kept : GoodIn wsX5_learn (wsV RX5 38 RX5 yX5_kept wsX5_kept) := goodIn_app (goodIn_of _ (by decide +kernel)) ggX5_learn_X5_kept
theorem dX5_learn_0 : decode cX5_learn 0 = .ok (.aload_n 0, 1) := by decide +kernel
theorem dX5_learn_1 : decode cX5_learn 1 = .ok (.getfield 19, 3) := by decide +kernel
theorem dX5_learn_4 : decode cX5_learn 4 = .ok (.aload_n 0, 1) := by decide +kernel
theorem dX5_learn_5 : decode cX5_learn 5 = .ok (.getfield 10, 3) := by decide +kernel
theorem dX5_learn_8 : decode cX5_learn 8 = .ok (.invokevirtual 30, 3) := by decide +kernel
theorem dX5_learn_11 : decode cX5_learn 11 = .ok (.aload_n 0, 1) := by decide +kernel
theorem dX5_learn_12 : decode cX5_learn 12 = .ok (.aload_n 0, 1) := by decide +kernel
theorem dX5_learn_13 : decode cX5_learn 13 = .ok (.getfield 10, 3) := by decide +kernel
theorem dX5_learn_16 : decode cX5_learn 16 = .ok (.iload_n 1, 1) := by decide +kernel
theorem dX5_learn_17 : decode cX5_learn 17 = .ok (.invokevirtual 64, 3) := by decide +kernel
theorem dX5_learn_20 : decode cX5_learn 20 = .ok (.invokevirtual 38, 3) := by decide +kernel
theorem dX5_learn_23 : decode cX5_learn 23 = .ok (.ireturn, 1) := by decide +kernel
set_option maxRecDepth 20000 in
theorem ggX5_undo_X1_stepBack : GoodIn wsX5_undo wsX1_stepBack := goodIn_r _ [7, 8, 9, 10, 11, 12, 6, 13, 14, 15, 16, 17, 18, 19, 20, 21, 22, 23, 24, 25, 26, 27, 28, 29, 30, 31, 32, 33, 34, 35, 36, 37, 38, 39, 40, 41, 42, 43, 44, 45, 46, 47, 48, 49, 50, 51, 52, 53, 54, 55, 56, 57, 61, 62, 63, 64, 65, 66, 67, 68, 69, 70, 71, 72, 73, 74, 75, 76, 77, 78, 79, 80, 81, 82, 83, 84, 85] (by decide +kernel) (by decide +kernel)
set_option maxRecDepth 20000 in
theorem gX5_undo_X1_stepBack : GoodIn wsX5_undo (wsV RX5 67 RX1 yX1_stepBack wsX1_stepBack) := goodIn_app (goodIn_of _ (by decide +kernel)) ggX5_undo_X1_stepBack
theorem dX5_undo_0 : decode cX5_undo 0 = .ok (.aload_n 0, 1) := by decide +kernel
theorem dX5_undo_1 : decode cX5_undo 1 = .ok (.getfield 19, 3) := by decide +kernel
theorem dX5_undo_4 : decode cX5_undo 4 = .ok (.aload_n 0, 1) := by decide +kernel
theorem dX5_undo_5 : decode cX5_undo 5 = .ok (.getfield 10, 3) := by decide +kernel
theorem dX5_undo_8 : decode cX5_undo 8 = .ok (.invokevirtual 67, 3) := by decide +kernel
theorem dX5_undo_11 : decode cX5_undo 11 = .ok (.ireturn, 1) := by decide +kernel
set_option maxRecDepth 20000 in
theorem ggX5_append_X3_add : GoodIn wsX5_append wsX3_add := goodIn_r _ [6, 7, 8, 12, 13, 14, 15, 16, 17] (by decide +kernel) (by decide +kernel)
set_option maxRecDepth 20000 in
theorem gX5_append_X3_add : GoodIn wsX5_append (wsV RX5 71 RX3 yX3_add wsX3_add) := goodIn_app (goodIn_of _ (by decide +kernel)) ggX5_append_X3_add
theorem dX5_append_0 : decode cX5_append 0 = .ok (.aload_n 0, 1) := by decide +kernel
theorem dX5_append_1 : decode cX5_append 1 = .ok (.getfield 26, 3) := by decide +kernel
theorem dX5_append_4 : decode cX5_append 4 = .ok (.iload_n 1, 1) := by decide +kernel
theorem dX5_append_5 : decode cX5_append 5 = .ok (.invokevirtual 71, 3) := by decide +kernel
theorem dX5_append_8 : decode cX5_append 8 = .ok (.ireturn, 1) := by decide +kernel
set_option maxRecDepth 20000 in
theorem ggX5_clearText_X3_clear : GoodIn wsX5_clearText wsX3_clear := goodIn_r _ [6, 7, 11, 12, 13, 14, 15, 16] (by decide +kernel) (by decide +kernel)
set_option maxRecDepth 20000 in
theorem gX5_clearText_X3_clear : GoodIn wsX5_clearText (wsV RX5 74 RX3 yX3_clear wsX3_clear) := goodIn_app (goodIn_of _ (by decide +kernel)) ggX5_clearText_X3_clear
theorem dX5_clearText_0 : decode cX5_clearText 0 = .ok (.aload_n 0, 1) := by decide +kernel
theorem dX5_clearText_1 : decode cX5_clearText 1 = .ok (.getfield 26, 3) := by decide +kernel
theorem dX5_clearText_4 : decode cX5_clearText 4 = .ok (.invokevirtual 74, 3) := by decide +kernel
theorem dX5_clearText_7 : decode cX5_clearText 7 = .ok (.ireturn, 1) := by decide +kernel
set_option maxRecDepth 20000 in
theorem ggX5_run_X1_note : GoodIn wsX5_run wsX1_note := goodIn_r _ [8, 9, 10, 11, 12, 13, 14, 15, 16, 17, 18, 19, 20, 21, 22, 23, 24, 25, 26, 27, 28, 29, 30, 31, 32, 33, 34, 35, 36, 37, 38, 39, 40, 41, 42, 43, 44, 45, 46, 47, 48, 49, 50, 51, 52, 53, 236, 237, 238, 239, 240, 241, 242, 243, 244, 245, 246, 247, 248, 249, 250, 251, 252, 253, 254, 255, 256, 257, 258, 259, 260] (by decide +kernel) (by decide +kernel)
set_option maxRecDepth 20000 in
theorem gX5_run_X1_note : GoodIn wsX5_run (wsV RX5 30 RX1 yX1_note wsX1_note) := goodIn_app (goodIn_of _ (by decide +kernel)) ggX5_run_X1_note
set_option maxRecDepth 20000 in
theorem ggX5_run_X3_rewind : GoodIn wsX5_run wsX3_rewind := goodIn_r _ [58, 59, 261, 262, 263, 264, 265, 266] (by decide +kernel) (by decide +kernel)
set_option maxRecDepth 20000 in
theorem gX5_run_X3_rewind : GoodIn wsX5_run (wsV RX5 77 RX3 yX3_rewind wsX3_rewind) := goodIn_app (goodIn_of _ (by decide +kernel)) ggX5_run_X3_rewind
set_option maxRecDepth 20000 in
theorem ggX5_run_X3_isRead : GoodIn wsX5_run wsX3_isRead := goodIn_r _ [63, 59, 64, 261, 262, 263, 264, 265, 266] (by decide +kernel) (by decide +kernel)
set_option maxRecDepth 20000 in
theorem gX5_run_X3_isRead : GoodIn wsX5_run (wsV RX5 80 RX3 yX3_isRead wsX3_isRead) := goodIn_app (goodIn_of _ (by decide +kernel)) ggX5_run_X3_isRead
set_option maxRecDepth 20000 in
theorem ggX5_run_X3_place : GoodIn wsX5_run wsX3_place := goodIn_r _ [68, 59, 261, 262, 263, 264, 265, 266] (by decide +kernel) (by decide +kernel)
set_option maxRecDepth 20000 in
theorem gX5_run_X3_place : GoodIn wsX5_run (wsV RX5 84 RX3 yX3_place wsX3_place) := goodIn_app (goodIn_of _ (by decide +kernel)) ggX5_run_X3_place
set_option maxRecDepth 20000 in
theorem ggX5_run_X3_readCommand : GoodIn wsX5_run wsX3_readCommand := goodIn_r _ [72, 73, 59, 74, 75, 76, 77, 78, 57, 79, 64, 80, 81, 82, 83, 84, 85, 86, 87, 88, 89, 90, 91, 261, 262, 263, 264, 265, 266] (by decide +kernel) (by decide +kernel)
set_option maxRecDepth 20000 in
theorem gX5_run_X3_readCommand : GoodIn wsX5_run (wsV RX5 87 RX3 yX3_readCommand wsX3_readCommand) := goodIn_app (goodIn_of _ (by decide +kernel)) ggX5_run_X3_readCommand
set_option maxRecDepth 20000 in
theorem ggX5_run_X5_failedRun : GoodIn wsX5_run wsX5_failedRun := goodIn_r _ [96, 1, 2, 97, 98, 99, 7, 100, 9, 10, 11, 12, 13, 14, 15, 16, 17, 18, 19, 20, 21, 22, 23, 24, 25, 26, 27, 28, 29, 30, 31, 32, 33, 34, 35, 36, 37, 38, 39, 40, 41, 42, 43, 44, 45, 46, 47, 48, 49, 50, 51, 52, 53, 233, 234, 235, 236, 237, 238, 239, 240, 241, 242, 243, 244, 245, 246, 247, 248, 249, 250, 251, 252, 253, 254, 255, 256, 257, 258, 259, 260] (by decide +kernel) (by decide +kernel)
set_option maxRecDepth 20000 in
theorem gX5_run_X5_failedRun : GoodIn wsX5_run (wsV RX5 90 RX5 yX5_failedRun wsX5_failedRun) := goodIn_app (goodIn_of _ (by decide +kernel)) ggX5_run_X5_failedRun
set_option maxRecDepth 20000 in
theorem ggX5_run_X3_letter : GoodIn wsX5_run wsX3_letter := goodIn_r _ [104, 73, 261, 262, 263, 264, 265, 266] (by decide +kernel) (by decide +kernel)
set_option maxRecDepth 20000 in
theorem gX5_run_X3_letter : GoodIn wsX5_run (wsV RX5 93 RX3 yX3_letter wsX3_letter) := goodIn_app (goodIn_of _ (by decide +kernel)) ggX5_run_X3_letter
set_option maxRecDepth 20000 in
theorem ggX5_run_X3_villagerRead : GoodIn wsX5_run wsX3_villagerRead := goodIn_r _ [108, 74, 261, 262, 263, 264, 265, 266] (by decide +kernel) (by decide +kernel)
set_option maxRecDepth 20000 in
theorem gX5_run_X3_villagerRead : GoodIn wsX5_run (wsV RX5 96 RX3 yX3_villagerRead wsX3_villagerRead) := goodIn_app (goodIn_of _ (by decide +kernel)) ggX5_run_X3_villagerRead
set_option maxRecDepth 20000 in
theorem ggX5_run_X3_numberRead : GoodIn wsX5_run wsX3_numberRead := goodIn_r _ [112, 75, 261, 262, 263, 264, 265, 266] (by decide +kernel) (by decide +kernel)
set_option maxRecDepth 20000 in
theorem gX5_run_X3_numberRead : GoodIn wsX5_run (wsV RX5 99 RX3 yX3_numberRead wsX3_numberRead) := goodIn_app (goodIn_of _ (by decide +kernel)) ggX5_run_X3_numberRead
set_option maxRecDepth 20000 in
theorem ggX5_run_X5_callCommand : GoodIn wsX5_run wsX5_callCommand := goodIn_r _ [116, 2, 117, 118, 119, 14, 120, 22, 28, 121, 122, 123, 124, 16, 125, 126, 127, 128, 129, 130, 131, 132, 23, 24, 133, 134, 135, 36, 136, 137, 138, 139, 140, 38, 39, 141, 142, 143, 144, 17, 145, 146, 147, 148, 30, 31, 25, 32, 149, 150, 151, 152, 29, 26, 153, 154, 155, 156, 157, 158, 159, 160, 161, 162, 163, 164, 165, 166, 167, 168, 169, 170, 171, 172, 173, 174, 175, 176, 177, 178, 179, 180, 181, 182, 183, 184, 185, 186, 187, 188, 189, 190, 191, 192, 33, 34, 35, 37, 40, 19, 20, 21, 193, 194, 195, 196, 197, 198, 199, 200, 201, 202, 203, 204, 205, 206, 207, 208, 209, 210, 211, 212, 213, 214, 215, 216, 233, 234, 235, 239, 240, 241, 242, 243, 244, 245, 246, 247, 248, 249, 250, 251, 252, 253] (by decide +kernel) (by decide +kernel)
set_option maxRecDepth 20000 in
theorem gX5_run_X5_callCommand : GoodIn wsX5_run (wsV RX5 102 RX5 yX5_callCommand wsX5_callCommand) := goodIn_app (goodIn_of _ (by decide +kernel)) ggX5_run_X5_callCommand
set_option maxRecDepth 20000 in
theorem ggX5_run_X3_clear : GoodIn wsX5_run wsX3_clear := goodIn_r _ [220, 64, 261, 262, 263, 264, 265, 266] (by decide +kernel) (by decide +kernel)
set_option maxRecDepth 20000 in
theorem gX5_run_X3_clear : GoodIn wsX5_run (wsV RX5 74 RX3 yX3_clear wsX3_clear) := goodIn_app (goodIn_of _ (by decide +kernel)) ggX5_run_X3_clear
set_option maxRecDepth 20000 in
theorem ggX5_run_X5_kept : GoodIn wsX5_run wsX5_kept := goodIn_r _ [224, 1, 225, 226, 227, 7, 228, 10, 229, 230, 231, 207, 232, 233, 234, 235, 236, 237, 238] (by decide +kernel) (by decide +kernel)
set_option maxRecDepth 20000 in
theorem gX5_run_X5_kept : GoodIn wsX5_run (wsV RX5 38 RX5 yX5_kept wsX5_kept) := goodIn_app (goodIn_of _ (by decide +kernel)) ggX5_run_X5_kept
theorem dX5_run_0 : decode cX5_run 0 = .ok (.aload_n 0, 1) := by decide +kernel
theorem dX5_run_1 : decode cX5_run 1 = .ok (.getfield 19, 3) := by decide +kernel
theorem dX5_run_4 : decode cX5_run 4 = .ok (.aload_n 0, 1) := by decide +kernel
theorem dX5_run_5 : decode cX5_run 5 = .ok (.getfield 10, 3) := by decide +kernel
theorem dX5_run_8 : decode cX5_run 8 = .ok (.invokevirtual 30, 3) := by decide +kernel
theorem dX5_run_11 : decode cX5_run 11 = .ok (.aload_n 0, 1) := by decide +kernel
theorem dX5_run_12 : decode cX5_run 12 = .ok (.getfield 26, 3) := by decide +kernel
theorem dX5_run_15 : decode cX5_run 15 = .ok (.invokevirtual 77, 3) := by decide +kernel
theorem dX5_run_18 : decode cX5_run 18 = .ok (.iconst 0, 1) := by decide +kernel
theorem dX5_run_19 : decode cX5_run 19 = .ok (.istore_n 1, 1) := by decide +kernel
theorem dX5_run_20 : decode cX5_run 20 = .ok (.iload_n 1, 1) := by decide +kernel
theorem dX5_run_21 : decode cX5_run 21 = .ok (.bipush 60, 2) := by decide +kernel
theorem dX5_run_23 : decode cX5_run 23 = .ok (.if_icmp .ge 83, 3) := by decide +kernel
theorem dX5_run_26 : decode cX5_run 26 = .ok (.aload_n 0, 1) := by decide +kernel
theorem dX5_run_27 : decode cX5_run 27 = .ok (.getfield 26, 3) := by decide +kernel
theorem dX5_run_30 : decode cX5_run 30 = .ok (.invokevirtual 80, 3) := by decide +kernel
theorem dX5_run_33 : decode cX5_run 33 = .ok (.ifCond .ne 73, 3) := by decide +kernel
theorem dX5_run_36 : decode cX5_run 36 = .ok (.aload_n 0, 1) := by decide +kernel
theorem dX5_run_37 : decode cX5_run 37 = .ok (.getfield 26, 3) := by decide +kernel
theorem dX5_run_40 : decode cX5_run 40 = .ok (.invokevirtual 84, 3) := by decide +kernel
theorem dX5_run_43 : decode cX5_run 43 = .ok (.istore_n 2, 1) := by decide +kernel
theorem dX5_run_44 : decode cX5_run 44 = .ok (.aload_n 0, 1) := by decide +kernel
theorem dX5_run_45 : decode cX5_run 45 = .ok (.getfield 26, 3) := by decide +kernel
theorem dX5_run_48 : decode cX5_run 48 = .ok (.invokevirtual 87, 3) := by decide +kernel
theorem dX5_run_51 : decode cX5_run 51 = .ok (.ifCond .ne 15, 3) := by decide +kernel
theorem dX5_run_54 : decode cX5_run 54 = .ok (.aload_n 0, 1) := by decide +kernel
theorem dX5_run_55 : decode cX5_run 55 = .ok (.aload_n 0, 1) := by decide +kernel
theorem dX5_run_56 : decode cX5_run 56 = .ok (.getfield 26, 3) := by decide +kernel
theorem dX5_run_59 : decode cX5_run 59 = .ok (.invokevirtual 84, 3) := by decide +kernel
theorem dX5_run_62 : decode cX5_run 62 = .ok (.invokevirtual 90, 3) := by decide +kernel
theorem dX5_run_65 : decode cX5_run 65 = .ok (.ireturn, 1) := by decide +kernel
theorem dX5_run_66 : decode cX5_run 66 = .ok (.aload_n 0, 1) := by decide +kernel
theorem dX5_run_67 : decode cX5_run 67 = .ok (.aload_n 0, 1) := by decide +kernel
theorem dX5_run_68 : decode cX5_run 68 = .ok (.getfield 26, 3) := by decide +kernel
theorem dX5_run_71 : decode cX5_run 71 = .ok (.invokevirtual 93, 3) := by decide +kernel
theorem dX5_run_74 : decode cX5_run 74 = .ok (.aload_n 0, 1) := by decide +kernel
theorem dX5_run_75 : decode cX5_run 75 = .ok (.getfield 26, 3) := by decide +kernel
theorem dX5_run_78 : decode cX5_run 78 = .ok (.invokevirtual 96, 3) := by decide +kernel
theorem dX5_run_81 : decode cX5_run 81 = .ok (.aload_n 0, 1) := by decide +kernel
theorem dX5_run_82 : decode cX5_run 82 = .ok (.getfield 26, 3) := by decide +kernel
theorem dX5_run_85 : decode cX5_run 85 = .ok (.invokevirtual 99, 3) := by decide +kernel
theorem dX5_run_88 : decode cX5_run 88 = .ok (.invokevirtual 102, 3) := by decide +kernel
theorem dX5_run_91 : decode cX5_run 91 = .ok (.ifCond .ge 9, 3) := by decide +kernel
theorem dX5_run_94 : decode cX5_run 94 = .ok (.aload_n 0, 1) := by decide +kernel
theorem dX5_run_95 : decode cX5_run 95 = .ok (.iload_n 2, 1) := by decide +kernel
theorem dX5_run_96 : decode cX5_run 96 = .ok (.invokevirtual 90, 3) := by decide +kernel
theorem dX5_run_99 : decode cX5_run 99 = .ok (.ireturn, 1) := by decide +kernel
theorem dX5_run_100 : decode cX5_run 100 = .ok (.iinc 1 1, 3) := by decide +kernel
theorem dX5_run_103 : decode cX5_run 103 = .ok (.goto (-83), 3) := by decide +kernel
theorem dX5_run_106 : decode cX5_run 106 = .ok (.aload_n 0, 1) := by decide +kernel
theorem dX5_run_107 : decode cX5_run 107 = .ok (.getfield 26, 3) := by decide +kernel
theorem dX5_run_110 : decode cX5_run 110 = .ok (.invokevirtual 74, 3) := by decide +kernel
theorem dX5_run_113 : decode cX5_run 113 = .ok (.pop, 1) := by decide +kernel
theorem dX5_run_114 : decode cX5_run 114 = .ok (.aload_n 0, 1) := by decide +kernel
theorem dX5_run_115 : decode cX5_run 115 = .ok (.iload_n 1, 1) := by decide +kernel
theorem dX5_run_116 : decode cX5_run 116 = .ok (.invokevirtual 38, 3) := by decide +kernel
theorem dX5_run_119 : decode cX5_run 119 = .ok (.ireturn, 1) := by decide +kernel
set_option maxRecDepth 20000 in
theorem ggX5_count_X1_length : GoodIn wsX5_count wsX1_length := goodIn_r _ [8, 9, 67, 68, 69] (by decide +kernel) (by decide +kernel)
set_option maxRecDepth 20000 in
theorem gX5_count_X1_length : GoodIn wsX5_count (wsV RX5 106 RX1 yX1_length wsX1_length) := goodIn_app (goodIn_of _ (by decide +kernel)) ggX5_count_X1_length
set_option maxRecDepth 20000 in
theorem ggX5_count_X3_length : GoodIn wsX5_count wsX3_length := goodIn_r _ [14, 15, 70, 71, 72, 73, 74, 75] (by decide +kernel) (by decide +kernel)
set_option maxRecDepth 20000 in
theorem gX5_count_X3_length : GoodIn wsX5_count (wsV RX5 109 RX3 yX3_length wsX3_length) := goodIn_app (goodIn_of _ (by decide +kernel)) ggX5_count_X3_length
set_option maxRecDepth 20000 in
theorem ggX5_count_X4_tally : GoodIn wsX5_count wsX4_tally := goodIn_r _ [20, 21, 22, 23, 24, 25, 26, 27, 28, 29, 19, 30, 31, 32, 33, 34, 35, 36, 37, 38, 39, 40, 41, 42, 43, 44, 45, 46, 47, 48, 49, 50, 51, 52, 53, 54, 55, 56, 57, 58, 59, 60, 61, 62, 63, 76, 77, 78, 79, 80, 81, 82, 83, 84, 85, 86, 87, 88, 89, 90, 91, 92, 93, 94, 95, 96, 97] (by decide +kernel) (by decide +kernel)
set_option maxRecDepth 20000 in
theorem gX5_count_X4_tally : GoodIn wsX5_count (wsV RX5 110 RX4 yX4_tally wsX4_tally) := goodIn_app (goodIn_of _ (by decide +kernel)) ggX5_count_X4_tally
theorem dX5_count_0 : decode cX5_count 0 = .ok (.iload_n 1, 1) := by decide +kernel
theorem dX5_count_1 : decode cX5_count 1 = .ok (.lookupswitch 43 #[(10, 27), (11, 35)], 27) := by decide +kernel
theorem dX5_count_28 : decode cX5_count 28 = .ok (.aload_n 0, 1) := by decide +kernel
theorem dX5_count_29 : decode cX5_count 29 = .ok (.getfield 19, 3) := by decide +kernel
theorem dX5_count_32 : decode cX5_count 32 = .ok (.invokevirtual 106, 3) := by decide +kernel
theorem dX5_count_35 : decode cX5_count 35 = .ok (.ireturn, 1) := by decide +kernel
theorem dX5_count_36 : decode cX5_count 36 = .ok (.aload_n 0, 1) := by decide +kernel
theorem dX5_count_37 : decode cX5_count 37 = .ok (.getfield 26, 3) := by decide +kernel
theorem dX5_count_40 : decode cX5_count 40 = .ok (.invokevirtual 109, 3) := by decide +kernel
theorem dX5_count_43 : decode cX5_count 43 = .ok (.ireturn, 1) := by decide +kernel
theorem dX5_count_44 : decode cX5_count 44 = .ok (.aload_n 0, 1) := by decide +kernel
theorem dX5_count_45 : decode cX5_count 45 = .ok (.getfield 10, 3) := by decide +kernel
theorem dX5_count_48 : decode cX5_count 48 = .ok (.iload_n 1, 1) := by decide +kernel
theorem dX5_count_49 : decode cX5_count 49 = .ok (.invokevirtual 110, 3) := by decide +kernel
theorem dX5_count_52 : decode cX5_count 52 = .ok (.ireturn, 1) := by decide +kernel
set_option maxRecDepth 20000 in
theorem ggX5_elder_X4_elderOf : GoodIn wsX5_elder wsX4_elderOf := goodIn_r _ [6, 7, 8, 9, 10, 11, 12, 13, 14, 15, 16, 17, 18, 19, 20, 21, 22, 23, 5, 24, 25, 29, 30, 31, 32, 33, 34, 35, 36, 37, 38, 39, 40, 41, 42, 43] (by decide +kernel) (by decide +kernel)
set_option maxRecDepth 20000 in
theorem gX5_elder_X4_elderOf : GoodIn wsX5_elder (wsV RX5 113 RX4 yX4_elderOf wsX4_elderOf) := goodIn_app (goodIn_of _ (by decide +kernel)) ggX5_elder_X4_elderOf
theorem dX5_elder_0 : decode cX5_elder 0 = .ok (.aload_n 0, 1) := by decide +kernel
theorem dX5_elder_1 : decode cX5_elder 1 = .ok (.getfield 10, 3) := by decide +kernel
theorem dX5_elder_4 : decode cX5_elder 4 = .ok (.iload_n 1, 1) := by decide +kernel
theorem dX5_elder_5 : decode cX5_elder 5 = .ok (.iload_n 2, 1) := by decide +kernel
theorem dX5_elder_6 : decode cX5_elder 6 = .ok (.invokevirtual 113, 3) := by decide +kernel
theorem dX5_elder_9 : decode cX5_elder 9 = .ok (.ireturn, 1) := by decide +kernel
set_option maxRecDepth 20000 in
theorem ggX5_villager_X4_aboutVillager : GoodIn wsX5_villager wsX4_aboutVillager := goodIn_r _ [6, 7, 8, 9, 10, 11, 12, 13, 14, 5, 15, 16, 17, 18, 19, 20, 21, 22, 23, 24, 25, 26, 27, 28, 29, 30, 34, 35, 36, 37, 38, 39, 40, 41, 42, 43, 44, 45, 46, 47, 48, 49, 50, 51, 52, 53, 54, 55] (by decide +kernel) (by decide +kernel)
set_option maxRecDepth 20000 in
theorem gX5_villager_X4_aboutVillager : GoodIn wsX5_villager (wsV RX5 116 RX4 yX4_aboutVillager wsX4_aboutVillager) := goodIn_app (goodIn_of _ (by decide +kernel)) ggX5_villager_X4_aboutVillager
theorem dX5_villager_0 : decode cX5_villager 0 = .ok (.aload_n 0, 1) := by decide +kernel
theorem dX5_villager_1 : decode cX5_villager 1 = .ok (.getfield 10, 3) := by decide +kernel
theorem dX5_villager_4 : decode cX5_villager 4 = .ok (.iload_n 1, 1) := by decide +kernel
theorem dX5_villager_5 : decode cX5_villager 5 = .ok (.iload_n 2, 1) := by decide +kernel
theorem dX5_villager_6 : decode cX5_villager 6 = .ok (.invokevirtual 116, 3) := by decide +kernel
theorem dX5_villager_9 : decode cX5_villager 9 = .ok (.ireturn, 1) := by decide +kernel
set_option maxRecDepth 20000 in
theorem ggX5_entry_X4_aboutEntry : GoodIn wsX5_entry wsX4_aboutEntry := goodIn_r _ [6, 7, 8, 9, 10, 11, 12, 13, 14, 15, 5, 16, 17, 18, 19, 20, 21, 22, 23, 24, 25, 26, 27, 28, 29, 30, 31, 32, 33, 34, 35, 36, 37, 38, 39, 40, 41, 42, 43, 44, 45, 46, 47, 48, 49, 50, 51, 52, 53, 54, 55, 59, 60, 61, 62, 63, 64, 65, 66, 67, 68, 69, 70, 71, 72, 73] (by decide +kernel) (by decide +kernel)
set_option maxRecDepth 20000 in
theorem gX5_entry_X4_aboutEntry : GoodIn wsX5_entry (wsV RX5 119 RX4 yX4_aboutEntry wsX4_aboutEntry) := goodIn_app (goodIn_of _ (by decide +kernel)) ggX5_entry_X4_aboutEntry
theorem dX5_entry_0 : decode cX5_entry 0 = .ok (.aload_n 0, 1) := by decide +kernel
theorem dX5_entry_1 : decode cX5_entry 1 = .ok (.getfield 10, 3) := by decide +kernel
theorem dX5_entry_4 : decode cX5_entry 4 = .ok (.iload_n 1, 1) := by decide +kernel
theorem dX5_entry_5 : decode cX5_entry 5 = .ok (.iload_n 2, 1) := by decide +kernel
theorem dX5_entry_6 : decode cX5_entry 6 = .ok (.invokevirtual 119, 3) := by decide +kernel
theorem dX5_entry_9 : decode cX5_entry 9 = .ok (.ireturn, 1) := by decide +kernel
set_option maxRecDepth 20000 in
theorem ggX5_draw_X4_aboutDraw : GoodIn wsX5_draw wsX4_aboutDraw := goodIn_r _ [6, 7, 8, 9, 10, 11, 12, 13, 14, 15, 16, 17, 18, 19, 20, 21, 22, 26, 27, 28, 29, 30, 31, 32, 33, 34, 35, 36, 37, 38, 39, 40, 41, 42, 43, 44, 45] (by decide +kernel) (by decide +kernel)
set_option maxRecDepth 20000 in
theorem gX5_draw_X4_aboutDraw : GoodIn wsX5_draw (wsV RX5 122 RX4 yX4_aboutDraw wsX4_aboutDraw) := goodIn_app (goodIn_of _ (by decide +kernel)) ggX5_draw_X4_aboutDraw
theorem dX5_draw_0 : decode cX5_draw 0 = .ok (.aload_n 0, 1) := by decide +kernel
theorem dX5_draw_1 : decode cX5_draw 1 = .ok (.getfield 10, 3) := by decide +kernel
theorem dX5_draw_4 : decode cX5_draw 4 = .ok (.iload_n 1, 1) := by decide +kernel
theorem dX5_draw_5 : decode cX5_draw 5 = .ok (.iload_n 2, 1) := by decide +kernel
theorem dX5_draw_6 : decode cX5_draw 6 = .ok (.invokevirtual 122, 3) := by decide +kernel
theorem dX5_draw_9 : decode cX5_draw 9 = .ok (.ireturn, 1) := by decide +kernel
set_option maxRecDepth 20000 in
theorem ggX5_missing_X4_missingElders : GoodIn wsX5_missing wsX4_missingElders := goodIn_r _ [6, 7, 8, 9, 10, 5, 11, 12, 13, 14, 15, 16, 17, 18, 19, 20, 21, 22, 23, 24, 25, 26, 27, 28, 29, 30, 31, 32, 33, 34, 35, 36, 37, 38, 39, 40, 41, 42, 43, 44, 45, 46, 47, 48, 49, 50, 51, 52, 53, 54, 55, 56, 57, 58, 59, 60, 61, 62, 63, 64, 65, 66, 67, 68, 69, 70, 71, 72, 73, 74, 75, 76, 77, 78, 79, 80, 81, 82, 83, 84, 85, 86, 87, 88, 92, 93, 94, 95, 96, 97, 98, 99, 100, 101, 102, 103, 104, 105, 106] (by decide +kernel) (by decide +kernel)
set_option maxRecDepth 20000 in
theorem gX5_missing_X4_missingElders : GoodIn wsX5_missing (wsV RX5 125 RX4 yX4_missingElders wsX4_missingElders) := goodIn_app (goodIn_of _ (by decide +kernel)) ggX5_missing_X4_missingElders
theorem dX5_missing_0 : decode cX5_missing 0 = .ok (.aload_n 0, 1) := by decide +kernel
theorem dX5_missing_1 : decode cX5_missing 1 = .ok (.getfield 10, 3) := by decide +kernel
theorem dX5_missing_4 : decode cX5_missing 4 = .ok (.iload_n 1, 1) := by decide +kernel
theorem dX5_missing_5 : decode cX5_missing 5 = .ok (.invokevirtual 125, 3) := by decide +kernel
theorem dX5_missing_8 : decode cX5_missing 8 = .ok (.ireturn, 1) := by decide +kernel
set_option maxRecDepth 20000 in
theorem ggX5_reachable_X4_reachableEntries : GoodIn wsX5_reachable wsX4_reachableEntries := goodIn_r _ [6, 7, 8, 9, 10, 11, 5, 12, 13, 14, 15, 16, 17, 18, 19, 20, 21, 22, 23, 24, 25, 26, 27, 28, 29, 30, 31, 32, 33, 34, 35, 36, 37, 38, 39, 40, 41, 42, 43, 44, 45, 46, 47, 48, 49, 50, 51, 52, 53, 54, 55, 56, 57, 58, 59, 60, 61, 65, 66, 67, 68, 69, 70, 71, 72, 73, 74, 75, 76, 77, 78, 79] (by decide +kernel) (by decide +kernel)
set_option maxRecDepth 20000 in
theorem gX5_reachable_X4_reachableEntries : GoodIn wsX5_reachable (wsV RX5 128 RX4 yX4_reachableEntries wsX4_reachableEntries) := goodIn_app (goodIn_of _ (by decide +kernel)) ggX5_reachable_X4_reachableEntries
theorem dX5_reachable_0 : decode cX5_reachable 0 = .ok (.aload_n 0, 1) := by decide +kernel
theorem dX5_reachable_1 : decode cX5_reachable 1 = .ok (.getfield 10, 3) := by decide +kernel
theorem dX5_reachable_4 : decode cX5_reachable 4 = .ok (.invokevirtual 128, 3) := by decide +kernel
theorem dX5_reachable_7 : decode cX5_reachable 7 = .ok (.ireturn, 1) := by decide +kernel
set_option maxRecDepth 20000 in
theorem ggX5_nextDrawn_X4_drawnNext : GoodIn wsX5_nextDrawn wsX4_drawnNext := goodIn_r _ [6, 7, 8, 9, 10, 11, 12, 13, 14, 15, 16, 17, 5, 18, 19, 20, 21, 22, 23, 24, 25, 26, 27, 28, 29, 30, 31, 32, 33, 34, 35, 36, 37, 38, 39, 40, 41, 42, 43, 44, 45, 46, 47, 48, 49, 50, 51, 55, 56, 57, 58, 59, 60, 61, 62, 63, 64, 65, 66, 67, 68, 69, 70, 71, 72, 73, 74, 75, 76] (by decide +kernel) (by decide +kernel)
set_option maxRecDepth 20000 in
theorem gX5_nextDrawn_X4_drawnNext : GoodIn wsX5_nextDrawn (wsV RX5 131 RX4 yX4_drawnNext wsX4_drawnNext) := goodIn_app (goodIn_of _ (by decide +kernel)) ggX5_nextDrawn_X4_drawnNext
theorem dX5_nextDrawn_0 : decode cX5_nextDrawn 0 = .ok (.aload_n 0, 1) := by decide +kernel
theorem dX5_nextDrawn_1 : decode cX5_nextDrawn 1 = .ok (.getfield 10, 3) := by decide +kernel
theorem dX5_nextDrawn_4 : decode cX5_nextDrawn 4 = .ok (.iload_n 1, 1) := by decide +kernel
theorem dX5_nextDrawn_5 : decode cX5_nextDrawn 5 = .ok (.invokevirtual 131, 3) := by decide +kernel
theorem dX5_nextDrawn_8 : decode cX5_nextDrawn 8 = .ok (.ireturn, 1) := by decide +kernel
set_option maxRecDepth 20000 in
theorem ggX5_spare_X4_spareVillagers : GoodIn wsX5_spare wsX4_spareVillagers := goodIn_r _ [6, 7, 8, 9, 10, 11, 12, 13, 14, 15, 16, 17, 18, 5, 19, 20, 21, 22, 23, 24, 25, 26, 27, 28, 29, 30, 31, 32, 33, 34, 35, 36, 37, 38, 39, 40, 41, 42, 43, 44, 45, 46, 47, 48, 49, 50, 51, 52, 53, 54, 55, 56, 57, 58, 59, 60, 61, 62, 63, 64, 65, 66, 67, 68, 69, 70, 71, 72, 73, 74, 75, 76, 77, 78, 79, 80, 81, 82, 83, 87, 88, 89, 90, 91, 92, 93, 94, 95, 96, 97, 98, 99, 100, 101] (by decide +kernel) (by decide +kernel)
set_option maxRecDepth 20000 in
theorem gX5_spare_X4_spareVillagers : GoodIn wsX5_spare (wsV RX5 134 RX4 yX4_spareVillagers wsX4_spareVillagers) := goodIn_app (goodIn_of _ (by decide +kernel)) ggX5_spare_X4_spareVillagers
theorem dX5_spare_0 : decode cX5_spare 0 = .ok (.aload_n 0, 1) := by decide +kernel
theorem dX5_spare_1 : decode cX5_spare 1 = .ok (.getfield 10, 3) := by decide +kernel
theorem dX5_spare_4 : decode cX5_spare 4 = .ok (.invokevirtual 134, 3) := by decide +kernel
theorem dX5_spare_7 : decode cX5_spare 7 = .ok (.ireturn, 1) := by decide +kernel
set_option maxRecDepth 20000 in
theorem ggX5_lotFor_X4_lotToDraw : GoodIn wsX5_lotFor wsX4_lotToDraw := goodIn_r _ [6, 7, 8, 9, 10, 11, 5, 12, 13, 14, 15, 16, 17, 18, 19, 20, 21, 22, 23, 24, 25, 26, 27, 28, 29, 30, 31, 32, 33, 34, 35, 36, 37, 38, 39, 40, 41, 42, 43, 44, 45, 46, 50, 51, 52, 53, 54, 55, 56, 57, 58, 59, 60, 61, 62, 63, 64] (by decide +kernel) (by decide +kernel)
set_option maxRecDepth 20000 in
theorem gX5_lotFor_X4_lotToDraw : GoodIn wsX5_lotFor (wsV RX5 137 RX4 yX4_lotToDraw wsX4_lotToDraw) := goodIn_app (goodIn_of _ (by decide +kernel)) ggX5_lotFor_X4_lotToDraw
theorem dX5_lotFor_0 : decode cX5_lotFor 0 = .ok (.aload_n 0, 1) := by decide +kernel
theorem dX5_lotFor_1 : decode cX5_lotFor 1 = .ok (.getfield 10, 3) := by decide +kernel
theorem dX5_lotFor_4 : decode cX5_lotFor 4 = .ok (.iload_n 1, 1) := by decide +kernel
theorem dX5_lotFor_5 : decode cX5_lotFor 5 = .ok (.iload_n 2, 1) := by decide +kernel
theorem dX5_lotFor_6 : decode cX5_lotFor 6 = .ok (.invokevirtual 137, 3) := by decide +kernel
theorem dX5_lotFor_9 : decode cX5_lotFor 9 = .ok (.ireturn, 1) := by decide +kernel
set_option maxRecDepth 20000 in
theorem ggX5_kept_X1_keep : GoodIn wsX5_kept wsX1_keep := goodIn_r _ [6, 7, 8, 9, 10, 11, 12, 16, 17, 18] (by decide +kernel) (by decide +kernel)
set_option maxRecDepth 20000 in
theorem gX5_kept_X1_keep : GoodIn wsX5_kept (wsV RX5 140 RX1 yX1_keep wsX1_keep) := goodIn_app (goodIn_of _ (by decide +kernel)) ggX5_kept_X1_keep
theorem dX5_kept_0 : decode cX5_kept 0 = .ok (.iload_n 1, 1) := by decide +kernel
theorem dX5_kept_1 : decode cX5_kept 1 = .ok (.ifCond .lt 10, 3) := by decide +kernel
theorem dX5_kept_4 : decode cX5_kept 4 = .ok (.aload_n 0, 1) := by decide +kernel
theorem dX5_kept_5 : decode cX5_kept 5 = .ok (.getfield 19, 3) := by decide +kernel
theorem dX5_kept_8 : decode cX5_kept 8 = .ok (.invokevirtual 140, 3) := by decide +kernel
theorem dX5_kept_11 : decode cX5_kept 11 = .ok (.iload_n 1, 1) := by decide +kernel
theorem dX5_kept_12 : decode cX5_kept 12 = .ok (.ireturn, 1) := by decide +kernel
set_option maxRecDepth 20000 in
theorem ggX5_failedRun_X1_restore : GoodIn wsX5_failedRun wsX1_restore := goodIn_r _ [7, 8, 9, 10, 11, 12, 13, 14, 15, 16, 17, 18, 19, 20, 21, 22, 23, 24, 25, 26, 27, 28, 29, 30, 31, 32, 33, 34, 35, 36, 37, 38, 39, 40, 41, 42, 43, 44, 45, 46, 47, 48, 49, 50, 51, 52, 56, 57, 58, 59, 60, 61, 62, 63, 64, 65, 66, 67, 68, 69, 70, 71, 72, 73, 74, 75, 76, 77, 78, 79, 80] (by decide +kernel) (by decide +kernel)
set_option maxRecDepth 20000 in
theorem gX5_failedRun_X1_restore : GoodIn wsX5_failedRun (wsV RX5 143 RX1 yX1_restore wsX1_restore) := goodIn_app (goodIn_of _ (by decide +kernel)) ggX5_failedRun_X1_restore
theorem dX5_failedRun_0 : decode cX5_failedRun 0 = .ok (.aload_n 0, 1) := by decide +kernel
theorem dX5_failedRun_1 : decode cX5_failedRun 1 = .ok (.getfield 19, 3) := by decide +kernel
theorem dX5_failedRun_4 : decode cX5_failedRun 4 = .ok (.aload_n 0, 1) := by decide +kernel
theorem dX5_failedRun_5 : decode cX5_failedRun 5 = .ok (.getfield 10, 3) := by decide +kernel
theorem dX5_failedRun_8 : decode cX5_failedRun 8 = .ok (.invokevirtual 143, 3) := by decide +kernel
theorem dX5_failedRun_11 : decode cX5_failedRun 11 = .ok (.sipush (-1000), 3) := by decide +kernel
theorem dX5_failedRun_14 : decode cX5_failedRun 14 = .ok (.iload_n 1, 1) := by decide +kernel
theorem dX5_failedRun_15 : decode cX5_failedRun 15 = .ok (.isub, 1) := by decide +kernel
theorem dX5_failedRun_16 : decode cX5_failedRun 16 = .ok (.ireturn, 1) := by decide +kernel
set_option maxRecDepth 20000 in
theorem ggX5_callCommand_X4_proposeEntry : GoodIn wsX5_callCommand wsX4_proposeEntry := goodIn_r _ [6, 7, 8, 9, 10, 11, 5, 12, 13, 14, 15, 16, 17, 18, 19, 20, 21, 22, 23, 24, 25, 26, 27, 28, 29, 30, 31, 32, 33, 34, 35, 36, 37, 38, 39, 40, 41, 42, 43, 44, 45, 46, 47, 48, 49, 50, 51, 52, 53, 54, 55, 56, 57, 58, 59, 60, 61, 62, 63, 64, 65, 66, 67, 68, 69, 70, 71, 72, 73, 74, 75, 76, 77, 78, 79, 80, 81, 82, 83, 84, 85, 86, 87, 88, 89, 90, 91, 92, 93, 94, 95, 96, 97, 98, 99, 100, 101, 129, 130, 131, 132, 133, 134, 135, 136, 137, 138, 139, 140, 141, 142, 143] (by decide +kernel) (by decide +kernel)
set_option maxRecDepth 20000 in
theorem gX5_callCommand_X4_proposeEntry : GoodIn wsX5_callCommand (wsV RX5 58 RX4 yX4_proposeEntry wsX4_proposeEntry) := goodIn_app (goodIn_of _ (by decide +kernel)) ggX5_callCommand_X4_proposeEntry
set_option maxRecDepth 20000 in
theorem ggX5_callCommand_X4_secondEntry : GoodIn wsX5_callCommand wsX4_secondEntry := goodIn_r _ [105, 7, 9, 10, 11, 5, 12, 13, 106, 107, 108, 109, 8, 14, 15, 16, 17, 18, 19, 20, 21, 22, 23, 24, 25, 26, 27, 28, 29, 30, 31, 32, 33, 34, 35, 36, 37, 38, 39, 48, 49, 50, 51, 52, 53, 54, 55, 56, 57, 58, 59, 60, 61, 62, 63, 64, 65, 66, 67, 68, 69, 70, 71, 72, 73, 74, 75, 76, 77, 78, 79, 80, 81, 82, 83, 84, 85, 86, 87, 88, 89, 90, 91, 92, 93, 46, 94, 95, 96, 97, 98, 99, 100, 101, 129, 130, 131, 132, 133, 134, 135, 136, 137, 138, 139, 140, 141, 142, 143] (by decide +kernel) (by decide +kernel)
set_option maxRecDepth 20000 in
theorem gX5_callCommand_X4_secondEntry : GoodIn wsX5_callCommand (wsV RX5 61 RX4 yX4_secondEntry wsX4_secondEntry) := goodIn_app (goodIn_of _ (by decide +kernel)) ggX5_callCommand_X4_secondEntry
set_option maxRecDepth 20000 in
theorem ggX5_callCommand_X4_learnEntries : GoodIn wsX5_callCommand wsX4_learnEntries := goodIn_r _ [113, 39, 52, 7, 114, 115, 116, 117, 9, 10, 11, 5, 12, 13, 129, 130, 131, 132, 133, 134, 135, 136, 137, 138, 139, 140, 141] (by decide +kernel) (by decide +kernel)
set_option maxRecDepth 20000 in
theorem gX5_callCommand_X4_learnEntries : GoodIn wsX5_callCommand (wsV RX5 64 RX4 yX4_learnEntries wsX4_learnEntries) := goodIn_app (goodIn_of _ (by decide +kernel)) ggX5_callCommand_X4_learnEntries
set_option maxRecDepth 20000 in
theorem ggX5_callCommand_X4_letAttend : GoodIn wsX5_callCommand wsX4_letAttend := goodIn_r _ [121, 39, 9, 10, 11, 5, 12, 13, 122, 123, 124, 125, 129, 130, 131, 132, 133, 134, 135, 136, 137, 138, 139, 140, 141] (by decide +kernel) (by decide +kernel)
set_option maxRecDepth 20000 in
theorem gX5_callCommand_X4_letAttend : GoodIn wsX5_callCommand (wsV RX5 42 RX4 yX4_letAttend wsX4_letAttend) := goodIn_app (goodIn_of _ (by decide +kernel)) ggX5_callCommand_X4_letAttend
theorem dX5_callCommand_0 : decode cX5_callCommand 0 = .ok (.iload_n 1, 1) := by decide +kernel
theorem dX5_callCommand_1 : decode cX5_callCommand 1 = .ok (.lookupswitch 100 #[(98, 90), (103, 80), (108, 71), (112, 51), (115, 61)], 51) := by decide +kernel
theorem dX5_callCommand_52 : decode cX5_callCommand 52 = .ok (.aload_n 0, 1) := by decide +kernel
theorem dX5_callCommand_53 : decode cX5_callCommand 53 = .ok (.getfield 10, 3) := by decide +kernel
theorem dX5_callCommand_56 : decode cX5_callCommand 56 = .ok (.iload_n 2, 1) := by decide +kernel
theorem dX5_callCommand_57 : decode cX5_callCommand 57 = .ok (.iload_n 3, 1) := by decide +kernel
theorem dX5_callCommand_58 : decode cX5_callCommand 58 = .ok (.invokevirtual 58, 3) := by decide +kernel
theorem dX5_callCommand_61 : decode cX5_callCommand 61 = .ok (.ireturn, 1) := by decide +kernel
theorem dX5_callCommand_62 : decode cX5_callCommand 62 = .ok (.aload_n 0, 1) := by decide +kernel
theorem dX5_callCommand_63 : decode cX5_callCommand 63 = .ok (.getfield 10, 3) := by decide +kernel
theorem dX5_callCommand_66 : decode cX5_callCommand 66 = .ok (.iload_n 2, 1) := by decide +kernel
theorem dX5_callCommand_67 : decode cX5_callCommand 67 = .ok (.iload_n 3, 1) := by decide +kernel
theorem dX5_callCommand_68 : decode cX5_callCommand 68 = .ok (.invokevirtual 61, 3) := by decide +kernel
theorem dX5_callCommand_71 : decode cX5_callCommand 71 = .ok (.ireturn, 1) := by decide +kernel
theorem dX5_callCommand_72 : decode cX5_callCommand 72 = .ok (.aload_n 0, 1) := by decide +kernel
theorem dX5_callCommand_73 : decode cX5_callCommand 73 = .ok (.getfield 10, 3) := by decide +kernel
theorem dX5_callCommand_76 : decode cX5_callCommand 76 = .ok (.iload_n 2, 1) := by decide +kernel
theorem dX5_callCommand_77 : decode cX5_callCommand 77 = .ok (.invokevirtual 64, 3) := by decide +kernel
theorem dX5_callCommand_80 : decode cX5_callCommand 80 = .ok (.ireturn, 1) := by decide +kernel
theorem dX5_callCommand_81 : decode cX5_callCommand 81 = .ok (.aload_n 0, 1) := by decide +kernel
theorem dX5_callCommand_82 : decode cX5_callCommand 82 = .ok (.getfield 10, 3) := by decide +kernel
theorem dX5_callCommand_85 : decode cX5_callCommand 85 = .ok (.iload_n 2, 1) := by decide +kernel
theorem dX5_callCommand_86 : decode cX5_callCommand 86 = .ok (.iconst 0, 1) := by decide +kernel
theorem dX5_callCommand_87 : decode cX5_callCommand 87 = .ok (.invokevirtual 42, 3) := by decide +kernel
theorem dX5_callCommand_90 : decode cX5_callCommand 90 = .ok (.ireturn, 1) := by decide +kernel
theorem dX5_callCommand_91 : decode cX5_callCommand 91 = .ok (.aload_n 0, 1) := by decide +kernel
theorem dX5_callCommand_92 : decode cX5_callCommand 92 = .ok (.getfield 10, 3) := by decide +kernel
theorem dX5_callCommand_95 : decode cX5_callCommand 95 = .ok (.iload_n 2, 1) := by decide +kernel
theorem dX5_callCommand_96 : decode cX5_callCommand 96 = .ok (.iconst 1, 1) := by decide +kernel
theorem dX5_callCommand_97 : decode cX5_callCommand 97 = .ok (.invokevirtual 42, 3) := by decide +kernel
theorem dX5_callCommand_100 : decode cX5_callCommand 100 = .ok (.ireturn, 1) := by decide +kernel
theorem dX5_callCommand_101 : decode cX5_callCommand 101 = .ok (.iconst (-1), 1) := by decide +kernel
theorem dX5_callCommand_102 : decode cX5_callCommand 102 = .ok (.ireturn, 1) := by decide +kernel
end
section
theorem dX6_init_0 : decode cX6_init 0 = .ok (.aload_n 0, 1) := by decide +kernel
theorem dX6_init_1 : decode cX6_init 1 = .ok (.invokespecial 1, 3) := by decide +kernel
theorem dX6_init_4 : decode cX6_init 4 = .ok (.aload_n 0, 1) := by decide +kernel
theorem dX6_init_5 : decode cX6_init 5 = .ok (.sipush 522, 3) := by decide +kernel
theorem dX6_init_8 : decode cX6_init 8 = .ok (.newarray .int, 2) := by decide +kernel
theorem dX6_init_10 : decode cX6_init 10 = .ok (.putfield 7, 3) := by decide +kernel
theorem dX6_init_13 : decode cX6_init 13 = .ok (.aload_n 0, 1) := by decide +kernel
theorem dX6_init_14 : decode cX6_init 14 = .ok (.sipush 2610, 3) := by decide +kernel
theorem dX6_init_17 : decode cX6_init 17 = .ok (.newarray .int, 2) := by decide +kernel
theorem dX6_init_19 : decode cX6_init 19 = .ok (.putfield 13, 3) := by decide +kernel
theorem dX6_init_22 : decode cX6_init 22 = .ok (.aload_n 0, 1) := by decide +kernel
theorem dX6_init_23 : decode cX6_init 23 = .ok (.sipush 522, 3) := by decide +kernel
theorem dX6_init_26 : decode cX6_init 26 = .ok (.newarray .int, 2) := by decide +kernel
theorem dX6_init_28 : decode cX6_init 28 = .ok (.putfield 16, 3) := by decide +kernel
theorem dX6_init_31 : decode cX6_init 31 = .ok (.aload_n 0, 1) := by decide +kernel
theorem dX6_init_32 : decode cX6_init 32 = .ok (.bipush 60, 2) := by decide +kernel
theorem dX6_init_34 : decode cX6_init 34 = .ok (.newarray .int, 2) := by decide +kernel
theorem dX6_init_36 : decode cX6_init 36 = .ok (.putfield 19, 3) := by decide +kernel
theorem dX6_init_39 : decode cX6_init 39 = .ok (.aload_n 0, 1) := by decide +kernel
theorem dX6_init_40 : decode cX6_init 40 = .ok (.getfield 7, 3) := by decide +kernel
theorem dX6_init_43 : decode cX6_init 43 = .ok (.iconst 5, 1) := by decide +kernel
theorem dX6_init_44 : decode cX6_init 44 = .ok (.bipush (-9), 2) := by decide +kernel
theorem dX6_init_46 : decode cX6_init 46 = .ok (.iastore, 1) := by decide +kernel
theorem dX6_init_47 : decode cX6_init 47 = .ok (.aload_n 0, 1) := by decide +kernel
theorem dX6_init_48 : decode cX6_init 48 = .ok (.getfield 7, 3) := by decide +kernel
theorem dX6_init_51 : decode cX6_init 51 = .ok (.bipush 6, 2) := by decide +kernel
theorem dX6_init_53 : decode cX6_init 53 = .ok (.iconst 1, 1) := by decide +kernel
theorem dX6_init_54 : decode cX6_init 54 = .ok (.iastore, 1) := by decide +kernel
theorem dX6_init_55 : decode cX6_init 55 = .ok (.return_, 1) := by decide +kernel
theorem dX6_in_0 : decode cX6_in 0 = .ok (.iload_n 0, 1) := by decide +kernel
theorem dX6_in_1 : decode cX6_in 1 = .ok (.iload_n 1, 1) := by decide +kernel
theorem dX6_in_2 : decode cX6_in 2 = .ok (.if_icmp .lt 12, 3) := by decide +kernel
theorem dX6_in_5 : decode cX6_in 5 = .ok (.iload_n 0, 1) := by decide +kernel
theorem dX6_in_6 : decode cX6_in 6 = .ok (.iload_n 2, 1) := by decide +kernel
theorem dX6_in_7 : decode cX6_in 7 = .ok (.if_icmp .gt 7, 3) := by decide +kernel
theorem dX6_in_10 : decode cX6_in 10 = .ok (.iconst 1, 1) := by decide +kernel
theorem dX6_in_11 : decode cX6_in 11 = .ok (.goto 4, 3) := by decide +kernel
theorem dX6_in_14 : decode cX6_in 14 = .ok (.iconst 0, 1) := by decide +kernel
theorem dX6_in_15 : decode cX6_in 15 = .ok (.ireturn, 1) := by decide +kernel
theorem dX6_acts_0 : decode cX6_acts 0 = .ok (.aload_n 0, 1) := by decide +kernel
theorem dX6_acts_1 : decode cX6_acts 1 = .ok (.getfield 22, 3) := by decide +kernel
theorem dX6_acts_4 : decode cX6_acts 4 = .ok (.ifCond .eq 4, 3) := by decide +kernel
theorem dX6_acts_7 : decode cX6_acts 7 = .ok (.return_, 1) := by decide +kernel
theorem dX6_acts_8 : decode cX6_acts 8 = .ok (.aload_n 0, 1) := by decide +kernel
theorem dX6_acts_9 : decode cX6_acts 9 = .ok (.getfield 26, 3) := by decide +kernel
theorem dX6_acts_12 : decode cX6_acts 12 = .ok (.iconst 5, 1) := by decide +kernel
theorem dX6_acts_13 : decode cX6_acts 13 = .ok (.if_icmp .ne 44, 3) := by decide +kernel
theorem dX6_acts_16 : decode cX6_acts 16 = .ok (.iconst 0, 1) := by decide +kernel
theorem dX6_acts_17 : decode cX6_acts 17 = .ok (.istore_n 1, 1) := by decide +kernel
theorem dX6_acts_18 : decode cX6_acts 18 = .ok (.iload_n 1, 1) := by decide +kernel
theorem dX6_acts_19 : decode cX6_acts 19 = .ok (.sipush 2088, 3) := by decide +kernel
theorem dX6_acts_22 : decode cX6_acts 22 = .ok (.if_icmp .ge 25, 3) := by decide +kernel
theorem dX6_acts_25 : decode cX6_acts 25 = .ok (.aload_n 0, 1) := by decide +kernel
theorem dX6_acts_26 : decode cX6_acts 26 = .ok (.getfield 13, 3) := by decide +kernel
theorem dX6_acts_29 : decode cX6_acts 29 = .ok (.iload_n 1, 1) := by decide +kernel
theorem dX6_acts_30 : decode cX6_acts 30 = .ok (.aload_n 0, 1) := by decide +kernel
theorem dX6_acts_31 : decode cX6_acts 31 = .ok (.getfield 13, 3) := by decide +kernel
theorem dX6_acts_34 : decode cX6_acts 34 = .ok (.iload_n 1, 1) := by decide +kernel
theorem dX6_acts_35 : decode cX6_acts 35 = .ok (.sipush 522, 3) := by decide +kernel
theorem dX6_acts_38 : decode cX6_acts 38 = .ok (.iadd, 1) := by decide +kernel
theorem dX6_acts_39 : decode cX6_acts 39 = .ok (.iaload, 1) := by decide +kernel
theorem dX6_acts_40 : decode cX6_acts 40 = .ok (.iastore, 1) := by decide +kernel
theorem dX6_acts_41 : decode cX6_acts 41 = .ok (.iinc 1 1, 3) := by decide +kernel
theorem dX6_acts_44 : decode cX6_acts 44 = .ok (.goto (-26), 3) := by decide +kernel
theorem dX6_acts_47 : decode cX6_acts 47 = .ok (.aload_n 0, 1) := by decide +kernel
theorem dX6_acts_48 : decode cX6_acts 48 = .ok (.dup, 1) := by decide +kernel
theorem dX6_acts_49 : decode cX6_acts 49 = .ok (.getfield 26, 3) := by decide +kernel
theorem dX6_acts_52 : decode cX6_acts 52 = .ok (.iconst 1, 1) := by decide +kernel
theorem dX6_acts_53 : decode cX6_acts 53 = .ok (.isub, 1) := by decide +kernel
theorem dX6_acts_54 : decode cX6_acts 54 = .ok (.putfield 26, 3) := by decide +kernel
theorem dX6_acts_57 : decode cX6_acts 57 = .ok (.iconst 0, 1) := by decide +kernel
theorem dX6_acts_58 : decode cX6_acts 58 = .ok (.istore_n 1, 1) := by decide +kernel
theorem dX6_acts_59 : decode cX6_acts 59 = .ok (.iload_n 1, 1) := by decide +kernel
theorem dX6_acts_60 : decode cX6_acts 60 = .ok (.sipush 522, 3) := by decide +kernel
theorem dX6_acts_63 : decode cX6_acts 63 = .ok (.if_icmp .ge 30, 3) := by decide +kernel
theorem dX6_acts_66 : decode cX6_acts 66 = .ok (.aload_n 0, 1) := by decide +kernel
theorem dX6_acts_67 : decode cX6_acts 67 = .ok (.getfield 13, 3) := by decide +kernel
theorem dX6_acts_70 : decode cX6_acts 70 = .ok (.sipush 522, 3) := by decide +kernel
theorem dX6_acts_73 : decode cX6_acts 73 = .ok (.aload_n 0, 1) := by decide +kernel
theorem dX6_acts_74 : decode cX6_acts 74 = .ok (.getfield 26, 3) := by decide +kernel
theorem dX6_acts_77 : decode cX6_acts 77 = .ok (.imul, 1) := by decide +kernel
theorem dX6_acts_78 : decode cX6_acts 78 = .ok (.iload_n 1, 1) := by decide +kernel
theorem dX6_acts_79 : decode cX6_acts 79 = .ok (.iadd, 1) := by decide +kernel
theorem dX6_acts_80 : decode cX6_acts 80 = .ok (.aload_n 0, 1) := by decide +kernel
theorem dX6_acts_81 : decode cX6_acts 81 = .ok (.getfield 7, 3) := by decide +kernel
theorem dX6_acts_84 : decode cX6_acts 84 = .ok (.iload_n 1, 1) := by decide +kernel
theorem dX6_acts_85 : decode cX6_acts 85 = .ok (.iaload, 1) := by decide +kernel
theorem dX6_acts_86 : decode cX6_acts 86 = .ok (.iastore, 1) := by decide +kernel
theorem dX6_acts_87 : decode cX6_acts 87 = .ok (.iinc 1 1, 3) := by decide +kernel
theorem dX6_acts_90 : decode cX6_acts 90 = .ok (.goto (-31), 3) := by decide +kernel
theorem dX6_acts_93 : decode cX6_acts 93 = .ok (.aload_n 0, 1) := by decide +kernel
theorem dX6_acts_94 : decode cX6_acts 94 = .ok (.dup, 1) := by decide +kernel
theorem dX6_acts_95 : decode cX6_acts 95 = .ok (.getfield 26, 3) := by decide +kernel
theorem dX6_acts_98 : decode cX6_acts 98 = .ok (.iconst 1, 1) := by decide +kernel
theorem dX6_acts_99 : decode cX6_acts 99 = .ok (.iadd, 1) := by decide +kernel
theorem dX6_acts_100 : decode cX6_acts 100 = .ok (.putfield 26, 3) := by decide +kernel
theorem dX6_acts_103 : decode cX6_acts 103 = .ok (.return_, 1) := by decide +kernel
theorem dX6_isVillager_0 : decode cX6_isVillager 0 = .ok (.iload_n 1, 1) := by decide +kernel
theorem dX6_isVillager_1 : decode cX6_isVillager 1 = .ok (.ifCond .lt 17, 3) := by decide +kernel
theorem dX6_isVillager_4 : decode cX6_isVillager 4 = .ok (.iload_n 1, 1) := by decide +kernel
theorem dX6_isVillager_5 : decode cX6_isVillager 5 = .ok (.aload_n 0, 1) := by decide +kernel
theorem dX6_isVillager_6 : decode cX6_isVillager 6 = .ok (.getfield 7, 3) := by decide +kernel
theorem dX6_isVillager_9 : decode cX6_isVillager 9 = .ok (.iconst 0, 1) := by decide +kernel
theorem dX6_isVillager_10 : decode cX6_isVillager 10 = .ok (.iaload, 1) := by decide +kernel
theorem dX6_isVillager_11 : decode cX6_isVillager 11 = .ok (.if_icmp .ge 7, 3) := by decide +kernel
theorem dX6_isVillager_14 : decode cX6_isVillager 14 = .ok (.iconst 1, 1) := by decide +kernel
theorem dX6_isVillager_15 : decode cX6_isVillager 15 = .ok (.goto 4, 3) := by decide +kernel
theorem dX6_isVillager_18 : decode cX6_isVillager 18 = .ok (.iconst 0, 1) := by decide +kernel
theorem dX6_isVillager_19 : decode cX6_isVillager 19 = .ok (.ireturn, 1) := by decide +kernel
theorem dX6_isSeat_0 : decode cX6_isSeat 0 = .ok (.iload_n 1, 1) := by decide +kernel
theorem dX6_isSeat_1 : decode cX6_isSeat 1 = .ok (.ifCond .lt 17, 3) := by decide +kernel
theorem dX6_isSeat_4 : decode cX6_isSeat 4 = .ok (.iload_n 1, 1) := by decide +kernel
theorem dX6_isSeat_5 : decode cX6_isSeat 5 = .ok (.aload_n 0, 1) := by decide +kernel
theorem dX6_isSeat_6 : decode cX6_isSeat 6 = .ok (.getfield 7, 3) := by decide +kernel
theorem dX6_isSeat_9 : decode cX6_isSeat 9 = .ok (.iconst 1, 1) := by decide +kernel
theorem dX6_isSeat_10 : decode cX6_isSeat 10 = .ok (.iaload, 1) := by decide +kernel
theorem dX6_isSeat_11 : decode cX6_isSeat 11 = .ok (.if_icmp .ge 7, 3) := by decide +kernel
theorem dX6_isSeat_14 : decode cX6_isSeat 14 = .ok (.iconst 1, 1) := by decide +kernel
theorem dX6_isSeat_15 : decode cX6_isSeat 15 = .ok (.goto 4, 3) := by decide +kernel
theorem dX6_isSeat_18 : decode cX6_isSeat 18 = .ok (.iconst 0, 1) := by decide +kernel
theorem dX6_isSeat_19 : decode cX6_isSeat 19 = .ok (.ireturn, 1) := by decide +kernel
theorem dX6_isEntry_0 : decode cX6_isEntry 0 = .ok (.iload_n 1, 1) := by decide +kernel
theorem dX6_isEntry_1 : decode cX6_isEntry 1 = .ok (.ifCond .lt 17, 3) := by decide +kernel
theorem dX6_isEntry_4 : decode cX6_isEntry 4 = .ok (.iload_n 1, 1) := by decide +kernel
theorem dX6_isEntry_5 : decode cX6_isEntry 5 = .ok (.aload_n 0, 1) := by decide +kernel
theorem dX6_isEntry_6 : decode cX6_isEntry 6 = .ok (.getfield 7, 3) := by decide +kernel
theorem dX6_isEntry_9 : decode cX6_isEntry 9 = .ok (.iconst 3, 1) := by decide +kernel
theorem dX6_isEntry_10 : decode cX6_isEntry 10 = .ok (.iaload, 1) := by decide +kernel
theorem dX6_isEntry_11 : decode cX6_isEntry 11 = .ok (.if_icmp .ge 7, 3) := by decide +kernel
theorem dX6_isEntry_14 : decode cX6_isEntry 14 = .ok (.iconst 1, 1) := by decide +kernel
theorem dX6_isEntry_15 : decode cX6_isEntry 15 = .ok (.goto 4, 3) := by decide +kernel
theorem dX6_isEntry_18 : decode cX6_isEntry 18 = .ok (.iconst 0, 1) := by decide +kernel
theorem dX6_isEntry_19 : decode cX6_isEntry 19 = .ok (.ireturn, 1) := by decide +kernel
theorem dX6_goesOn_0 : decode cX6_goesOn 0 = .ok (.aload_n 0, 1) := by decide +kernel
theorem dX6_goesOn_1 : decode cX6_goesOn 1 = .ok (.getfield 7, 3) := by decide +kernel
theorem dX6_goesOn_4 : decode cX6_goesOn 4 = .ok (.iconst 5, 1) := by decide +kernel
theorem dX6_goesOn_5 : decode cX6_goesOn 5 = .ok (.iaload, 1) := by decide +kernel
theorem dX6_goesOn_6 : decode cX6_goesOn 6 = .ok (.bipush (-9), 2) := by decide +kernel
theorem dX6_goesOn_8 : decode cX6_goesOn 8 = .ok (.if_icmp .eq 7, 3) := by decide +kernel
theorem dX6_goesOn_11 : decode cX6_goesOn 11 = .ok (.iconst 1, 1) := by decide +kernel
theorem dX6_goesOn_12 : decode cX6_goesOn 12 = .ok (.goto 4, 3) := by decide +kernel
theorem dX6_goesOn_15 : decode cX6_goesOn 15 = .ok (.iconst 0, 1) := by decide +kernel
theorem dX6_goesOn_16 : decode cX6_goesOn 16 = .ok (.ireturn, 1) := by decide +kernel
theorem dX6_isPresent_0 : decode cX6_isPresent 0 = .ok (.aload_n 0, 1) := by decide +kernel
theorem dX6_isPresent_1 : decode cX6_isPresent 1 = .ok (.getfield 7, 3) := by decide +kernel
theorem dX6_isPresent_4 : decode cX6_isPresent 4 = .ok (.bipush 8, 2) := by decide +kernel
theorem dX6_isPresent_6 : decode cX6_isPresent 6 = .ok (.iload_n 1, 1) := by decide +kernel
theorem dX6_isPresent_7 : decode cX6_isPresent 7 = .ok (.iadd, 1) := by decide +kernel
theorem dX6_isPresent_8 : decode cX6_isPresent 8 = .ok (.iaload, 1) := by decide +kernel
theorem dX6_isPresent_9 : decode cX6_isPresent 9 = .ok (.iconst 1, 1) := by decide +kernel
theorem dX6_isPresent_10 : decode cX6_isPresent 10 = .ok (.if_icmp .ne 7, 3) := by decide +kernel
theorem dX6_isPresent_13 : decode cX6_isPresent 13 = .ok (.iconst 1, 1) := by decide +kernel
theorem dX6_isPresent_14 : decode cX6_isPresent 14 = .ok (.goto 4, 3) := by decide +kernel
theorem dX6_isPresent_17 : decode cX6_isPresent 17 = .ok (.iconst 0, 1) := by decide +kernel
theorem dX6_isPresent_18 : decode cX6_isPresent 18 = .ok (.ireturn, 1) := by decide +kernel
theorem dX6_seatOf_0 : decode cX6_seatOf 0 = .ok (.bipush (-9), 2) := by decide +kernel
theorem dX6_seatOf_2 : decode cX6_seatOf 2 = .ok (.istore_n 3, 1) := by decide +kernel
theorem dX6_seatOf_3 : decode cX6_seatOf 3 = .ok (.iconst 0, 1) := by decide +kernel
theorem dX6_seatOf_4 : decode cX6_seatOf 4 = .ok (.istore 4, 2) := by decide +kernel
theorem dX6_seatOf_6 : decode cX6_seatOf 6 = .ok (.iload 4, 2) := by decide +kernel
theorem dX6_seatOf_8 : decode cX6_seatOf 8 = .ok (.aload_n 0, 1) := by decide +kernel
theorem dX6_seatOf_9 : decode cX6_seatOf 9 = .ok (.getfield 7, 3) := by decide +kernel
theorem dX6_seatOf_12 : decode cX6_seatOf 12 = .ok (.iconst 1, 1) := by decide +kernel
theorem dX6_seatOf_13 : decode cX6_seatOf 13 = .ok (.iaload, 1) := by decide +kernel
theorem dX6_seatOf_14 : decode cX6_seatOf 14 = .ok (.if_icmp .ge 29, 3) := by decide +kernel
theorem dX6_seatOf_17 : decode cX6_seatOf 17 = .ok (.aload_n 0, 1) := by decide +kernel
theorem dX6_seatOf_18 : decode cX6_seatOf 18 = .ok (.getfield 7, 3) := by decide +kernel
theorem dX6_seatOf_21 : decode cX6_seatOf 21 = .ok (.iload_n 1, 1) := by decide +kernel
theorem dX6_seatOf_22 : decode cX6_seatOf 22 = .ok (.iload 4, 2) := by decide +kernel
theorem dX6_seatOf_24 : decode cX6_seatOf 24 = .ok (.iadd, 1) := by decide +kernel
theorem dX6_seatOf_25 : decode cX6_seatOf 25 = .ok (.iaload, 1) := by decide +kernel
theorem dX6_seatOf_26 : decode cX6_seatOf 26 = .ok (.iload_n 2, 1) := by decide +kernel
theorem dX6_seatOf_27 : decode cX6_seatOf 27 = .ok (.if_icmp .ne 8, 3) := by decide +kernel
theorem dX6_seatOf_30 : decode cX6_seatOf 30 = .ok (.iload 4, 2) := by decide +kernel
theorem dX6_seatOf_32 : decode cX6_seatOf 32 = .ok (.goto 4, 3) := by decide +kernel
theorem dX6_seatOf_35 : decode cX6_seatOf 35 = .ok (.iload_n 3, 1) := by decide +kernel
theorem dX6_seatOf_36 : decode cX6_seatOf 36 = .ok (.istore_n 3, 1) := by decide +kernel
theorem dX6_seatOf_37 : decode cX6_seatOf 37 = .ok (.iinc 4 1, 3) := by decide +kernel
theorem dX6_seatOf_40 : decode cX6_seatOf 40 = .ok (.goto (-34), 3) := by decide +kernel
theorem dX6_seatOf_43 : decode cX6_seatOf 43 = .ok (.iload_n 3, 1) := by decide +kernel
theorem dX6_seatOf_44 : decode cX6_seatOf 44 = .ok (.ireturn, 1) := by decide +kernel
set_option maxRecDepth 20000 in
theorem ggX6_newer_X6_goesOn : GoodIn wsX6_newer wsX6_goesOn := goodIn_r _ [5, 6, 7, 8, 9, 10, 11, 12, 13, 14, 15] (by decide +kernel) (by decide +kernel)
set_option maxRecDepth 20000 in
theorem gX6_newer_X6_goesOn : GoodIn wsX6_newer (wsV RX6 30 RX6 yX6_goesOn wsX6_goesOn) := goodIn_app (goodIn_of _ (by decide +kernel)) ggX6_newer_X6_goesOn
theorem dX6_newer_0 : decode cX6_newer 0 = .ok (.aload_n 0, 1) := by decide +kernel
theorem dX6_newer_1 : decode cX6_newer 1 = .ok (.invokevirtual 30, 3) := by decide +kernel
theorem dX6_newer_4 : decode cX6_newer 4 = .ok (.ifCond .eq 8, 3) := by decide +kernel
theorem dX6_newer_7 : decode cX6_newer 7 = .ok (.bipush 37, 2) := by decide +kernel
theorem dX6_newer_9 : decode cX6_newer 9 = .ok (.goto 5, 3) := by decide +kernel
theorem dX6_newer_12 : decode cX6_newer 12 = .ok (.bipush 32, 2) := by decide +kernel
theorem dX6_newer_14 : decode cX6_newer 14 = .ok (.ireturn, 1) := by decide +kernel
set_option maxRecDepth 20000 in
theorem ggX6_isElder_X6_seatOf : GoodIn wsX6_isElder wsX6_seatOf := goodIn_r _ [5, 6, 15, 16, 17, 18, 19, 20, 21, 22, 23] (by decide +kernel) (by decide +kernel)
set_option maxRecDepth 20000 in
theorem gX6_isElder_X6_seatOf : GoodIn wsX6_isElder (wsV RX6 34 RX6 yX6_seatOf wsX6_seatOf) := goodIn_app (goodIn_of _ (by decide +kernel)) ggX6_isElder_X6_seatOf
set_option maxRecDepth 20000 in
theorem ggX6_isElder_X6_newer : GoodIn wsX6_isElder wsX6_newer := goodIn_r _ [10, 11, 12, 13, 4, 14, 6, 15, 16, 17, 18, 19, 20, 21, 22, 23] (by decide +kernel) (by decide +kernel)
set_option maxRecDepth 20000 in
theorem gX6_isElder_X6_newer : GoodIn wsX6_isElder (wsV RX6 38 RX6 yX6_newer wsX6_newer) := goodIn_app (goodIn_of _ (by decide +kernel)) ggX6_isElder_X6_newer
theorem dX6_isElder_0 : decode cX6_isElder 0 = .ok (.aload_n 0, 1) := by decide +kernel
theorem dX6_isElder_1 : decode cX6_isElder 1 = .ok (.bipush 32, 2) := by decide +kernel
theorem dX6_isElder_3 : decode cX6_isElder 3 = .ok (.iload_n 1, 1) := by decide +kernel
theorem dX6_isElder_4 : decode cX6_isElder 4 = .ok (.invokevirtual 34, 3) := by decide +kernel
theorem dX6_isElder_7 : decode cX6_isElder 7 = .ok (.bipush (-9), 2) := by decide +kernel
theorem dX6_isElder_9 : decode cX6_isElder 9 = .ok (.if_icmp .ne 17, 3) := by decide +kernel
theorem dX6_isElder_12 : decode cX6_isElder 12 = .ok (.aload_n 0, 1) := by decide +kernel
theorem dX6_isElder_13 : decode cX6_isElder 13 = .ok (.aload_n 0, 1) := by decide +kernel
theorem dX6_isElder_14 : decode cX6_isElder 14 = .ok (.invokevirtual 38, 3) := by decide +kernel
theorem dX6_isElder_17 : decode cX6_isElder 17 = .ok (.iload_n 1, 1) := by decide +kernel
theorem dX6_isElder_18 : decode cX6_isElder 18 = .ok (.invokevirtual 34, 3) := by decide +kernel
theorem dX6_isElder_21 : decode cX6_isElder 21 = .ok (.bipush (-9), 2) := by decide +kernel
theorem dX6_isElder_23 : decode cX6_isElder 23 = .ok (.if_icmp .eq 7, 3) := by decide +kernel
theorem dX6_isElder_26 : decode cX6_isElder 26 = .ok (.iconst 1, 1) := by decide +kernel
theorem dX6_isElder_27 : decode cX6_isElder 27 = .ok (.goto 4, 3) := by decide +kernel
theorem dX6_isElder_30 : decode cX6_isElder 30 = .ok (.iconst 0, 1) := by decide +kernel
theorem dX6_isElder_31 : decode cX6_isElder 31 = .ok (.ireturn, 1) := by decide +kernel
theorem dX6_having_0 : decode cX6_having 0 = .ok (.iconst 0, 1) := by decide +kernel
theorem dX6_having_1 : decode cX6_having 1 = .ok (.istore_n 3, 1) := by decide +kernel
theorem dX6_having_2 : decode cX6_having 2 = .ok (.iconst 0, 1) := by decide +kernel
theorem dX6_having_3 : decode cX6_having 3 = .ok (.istore 4, 2) := by decide +kernel
theorem dX6_having_5 : decode cX6_having 5 = .ok (.iload 4, 2) := by decide +kernel
theorem dX6_having_7 : decode cX6_having 7 = .ok (.aload_n 0, 1) := by decide +kernel
theorem dX6_having_8 : decode cX6_having 8 = .ok (.getfield 7, 3) := by decide +kernel
theorem dX6_having_11 : decode cX6_having 11 = .ok (.iconst 1, 1) := by decide +kernel
theorem dX6_having_12 : decode cX6_having 12 = .ok (.iaload, 1) := by decide +kernel
theorem dX6_having_13 : decode cX6_having 13 = .ok (.if_icmp .ge 38, 3) := by decide +kernel
theorem dX6_having_16 : decode cX6_having 16 = .ok (.iload_n 3, 1) := by decide +kernel
theorem dX6_having_17 : decode cX6_having 17 = .ok (.aload_n 0, 1) := by decide +kernel
theorem dX6_having_18 : decode cX6_having 18 = .ok (.getfield 7, 3) := by decide +kernel
theorem dX6_having_21 : decode cX6_having 21 = .ok (.bipush 20, 2) := by decide +kernel
theorem dX6_having_23 : decode cX6_having 23 = .ok (.aload_n 0, 1) := by decide +kernel
theorem dX6_having_24 : decode cX6_having 24 = .ok (.getfield 7, 3) := by decide +kernel
theorem dX6_having_27 : decode cX6_having 27 = .ok (.iload_n 1, 1) := by decide +kernel
theorem dX6_having_28 : decode cX6_having 28 = .ok (.iload 4, 2) := by decide +kernel
theorem dX6_having_30 : decode cX6_having 30 = .ok (.iadd, 1) := by decide +kernel
theorem dX6_having_31 : decode cX6_having 31 = .ok (.iaload, 1) := by decide +kernel
theorem dX6_having_32 : decode cX6_having 32 = .ok (.iadd, 1) := by decide +kernel
theorem dX6_having_33 : decode cX6_having 33 = .ok (.iaload, 1) := by decide +kernel
theorem dX6_having_34 : decode cX6_having 34 = .ok (.iload_n 2, 1) := by decide +kernel
theorem dX6_having_35 : decode cX6_having 35 = .ok (.if_icmp .le 7, 3) := by decide +kernel
theorem dX6_having_38 : decode cX6_having 38 = .ok (.iconst 1, 1) := by decide +kernel
theorem dX6_having_39 : decode cX6_having 39 = .ok (.goto 4, 3) := by decide +kernel
theorem dX6_having_42 : decode cX6_having 42 = .ok (.iconst 0, 1) := by decide +kernel
theorem dX6_having_43 : decode cX6_having 43 = .ok (.iadd, 1) := by decide +kernel
theorem dX6_having_44 : decode cX6_having 44 = .ok (.istore_n 3, 1) := by decide +kernel
theorem dX6_having_45 : decode cX6_having 45 = .ok (.iinc 4 1, 3) := by decide +kernel
theorem dX6_having_48 : decode cX6_having 48 = .ok (.goto (-43), 3) := by decide +kernel
theorem dX6_having_51 : decode cX6_having 51 = .ok (.iload_n 3, 1) := by decide +kernel
theorem dX6_having_52 : decode cX6_having 52 = .ok (.ireturn, 1) := by decide +kernel
theorem dX6_isMajor_0 : decode cX6_isMajor 0 = .ok (.iconst 2, 1) := by decide +kernel
theorem dX6_isMajor_1 : decode cX6_isMajor 1 = .ok (.iload_n 1, 1) := by decide +kernel
theorem dX6_isMajor_2 : decode cX6_isMajor 2 = .ok (.imul, 1) := by decide +kernel
theorem dX6_isMajor_3 : decode cX6_isMajor 3 = .ok (.aload_n 0, 1) := by decide +kernel
theorem dX6_isMajor_4 : decode cX6_isMajor 4 = .ok (.getfield 7, 3) := by decide +kernel
theorem dX6_isMajor_7 : decode cX6_isMajor 7 = .ok (.iconst 1, 1) := by decide +kernel
theorem dX6_isMajor_8 : decode cX6_isMajor 8 = .ok (.iaload, 1) := by decide +kernel
theorem dX6_isMajor_9 : decode cX6_isMajor 9 = .ok (.if_icmp .le 7, 3) := by decide +kernel
theorem dX6_isMajor_12 : decode cX6_isMajor 12 = .ok (.iconst 1, 1) := by decide +kernel
theorem dX6_isMajor_13 : decode cX6_isMajor 13 = .ok (.goto 4, 3) := by decide +kernel
theorem dX6_isMajor_16 : decode cX6_isMajor 16 = .ok (.iconst 0, 1) := by decide +kernel
theorem dX6_isMajor_17 : decode cX6_isMajor 17 = .ok (.ireturn, 1) := by decide +kernel
theorem dX6_ends_0 : decode cX6_ends 0 = .ok (.iconst 0, 1) := by decide +kernel
theorem dX6_ends_1 : decode cX6_ends 1 = .ok (.istore_n 1, 1) := by decide +kernel
theorem dX6_ends_2 : decode cX6_ends 2 = .ok (.iload_n 1, 1) := by decide +kernel
theorem dX6_ends_3 : decode cX6_ends 3 = .ok (.aload_n 0, 1) := by decide +kernel
theorem dX6_ends_4 : decode cX6_ends 4 = .ok (.getfield 7, 3) := by decide +kernel
theorem dX6_ends_7 : decode cX6_ends 7 = .ok (.iconst 1, 1) := by decide +kernel
theorem dX6_ends_8 : decode cX6_ends 8 = .ok (.iaload, 1) := by decide +kernel
theorem dX6_ends_9 : decode cX6_ends 9 = .ok (.if_icmp .ge 27, 3) := by decide +kernel
theorem dX6_ends_12 : decode cX6_ends 12 = .ok (.aload_n 0, 1) := by decide +kernel
theorem dX6_ends_13 : decode cX6_ends 13 = .ok (.getfield 7, 3) := by decide +kernel
theorem dX6_ends_16 : decode cX6_ends 16 = .ok (.bipush 32, 2) := by decide +kernel
theorem dX6_ends_18 : decode cX6_ends 18 = .ok (.iload_n 1, 1) := by decide +kernel
theorem dX6_ends_19 : decode cX6_ends 19 = .ok (.iadd, 1) := by decide +kernel
theorem dX6_ends_20 : decode cX6_ends 20 = .ok (.aload_n 0, 1) := by decide +kernel
theorem dX6_ends_21 : decode cX6_ends 21 = .ok (.getfield 7, 3) := by decide +kernel
theorem dX6_ends_24 : decode cX6_ends 24 = .ok (.bipush 37, 2) := by decide +kernel
theorem dX6_ends_26 : decode cX6_ends 26 = .ok (.iload_n 1, 1) := by decide +kernel
theorem dX6_ends_27 : decode cX6_ends 27 = .ok (.iadd, 1) := by decide +kernel
theorem dX6_ends_28 : decode cX6_ends 28 = .ok (.iaload, 1) := by decide +kernel
theorem dX6_ends_29 : decode cX6_ends 29 = .ok (.iastore, 1) := by decide +kernel
theorem dX6_ends_30 : decode cX6_ends 30 = .ok (.iinc 1 1, 3) := by decide +kernel
theorem dX6_ends_33 : decode cX6_ends 33 = .ok (.goto (-31), 3) := by decide +kernel
theorem dX6_ends_36 : decode cX6_ends 36 = .ok (.aload_n 0, 1) := by decide +kernel
theorem dX6_ends_37 : decode cX6_ends 37 = .ok (.getfield 7, 3) := by decide +kernel
theorem dX6_ends_40 : decode cX6_ends 40 = .ok (.iconst 5, 1) := by decide +kernel
theorem dX6_ends_41 : decode cX6_ends 41 = .ok (.bipush (-9), 2) := by decide +kernel
theorem dX6_ends_43 : decode cX6_ends 43 = .ok (.iastore, 1) := by decide +kernel
theorem dX6_ends_44 : decode cX6_ends 44 = .ok (.aload_n 0, 1) := by decide +kernel
theorem dX6_ends_45 : decode cX6_ends 45 = .ok (.getfield 7, 3) := by decide +kernel
theorem dX6_ends_48 : decode cX6_ends 48 = .ok (.iconst 2, 1) := by decide +kernel
theorem dX6_ends_49 : decode cX6_ends 49 = .ok (.dup2, 1) := by decide +kernel
theorem dX6_ends_50 : decode cX6_ends 50 = .ok (.iaload, 1) := by decide +kernel
theorem dX6_ends_51 : decode cX6_ends 51 = .ok (.iconst 1, 1) := by decide +kernel
theorem dX6_ends_52 : decode cX6_ends 52 = .ok (.iadd, 1) := by decide +kernel
theorem dX6_ends_53 : decode cX6_ends 53 = .ok (.iastore, 1) := by decide +kernel
theorem dX6_ends_54 : decode cX6_ends 54 = .ok (.return_, 1) := by decide +kernel
set_option maxRecDepth 20000 in
theorem ggX6_agrees_X6_having : GoodIn wsX6_agrees wsX6_having := goodIn_r _ [6, 1, 23, 24, 25, 26, 27, 28, 29, 30, 31] (by decide +kernel) (by decide +kernel)
set_option maxRecDepth 20000 in
theorem gX6_agrees_X6_having : GoodIn wsX6_agrees (wsV RX6 42 RX6 yX6_having wsX6_having) := goodIn_app (goodIn_of _ (by decide +kernel)) ggX6_agrees_X6_having
set_option maxRecDepth 20000 in
theorem ggX6_agrees_X6_isMajor : GoodIn wsX6_agrees wsX6_isMajor := goodIn_r _ [10, 1, 23, 24, 25, 26, 27, 28, 29, 30, 31] (by decide +kernel) (by decide +kernel)
set_option maxRecDepth 20000 in
theorem gX6_agrees_X6_isMajor : GoodIn wsX6_agrees (wsV RX6 45 RX6 yX6_isMajor wsX6_isMajor) := goodIn_app (goodIn_of _ (by decide +kernel)) ggX6_agrees_X6_isMajor
set_option maxRecDepth 20000 in
theorem ggX6_agrees_X6_newer : GoodIn wsX6_agrees wsX6_newer := goodIn_r _ [14, 15, 16, 17, 5, 18, 1, 23, 24, 25, 26, 27, 28, 29, 30, 31] (by decide +kernel) (by decide +kernel)
set_option maxRecDepth 20000 in
theorem gX6_agrees_X6_newer : GoodIn wsX6_agrees (wsV RX6 38 RX6 yX6_newer wsX6_newer) := goodIn_app (goodIn_of _ (by decide +kernel)) ggX6_agrees_X6_newer
set_option maxRecDepth 20000 in
theorem ggX6_agrees_X6_ends : GoodIn wsX6_agrees wsX6_ends := goodIn_r _ [22, 1, 23, 24, 25, 26, 27, 28, 29, 30, 31] (by decide +kernel) (by decide +kernel)
set_option maxRecDepth 20000 in
theorem gX6_agrees_X6_ends : GoodIn wsX6_agrees (wsV RX6 49 RX6 yX6_ends wsX6_ends) := goodIn_app (goodIn_of _ (by decide +kernel)) ggX6_agrees_X6_ends
theorem dX6_agrees_0 : decode cX6_agrees 0 = .ok (.aload_n 0, 1) := by decide +kernel
theorem dX6_agrees_1 : decode cX6_agrees 1 = .ok (.getfield 7, 3) := by decide +kernel
theorem dX6_agrees_4 : decode cX6_agrees 4 = .ok (.iconst 4, 1) := by decide +kernel
theorem dX6_agrees_5 : decode cX6_agrees 5 = .ok (.iaload, 1) := by decide +kernel
theorem dX6_agrees_6 : decode cX6_agrees 6 = .ok (.istore_n 1, 1) := by decide +kernel
theorem dX6_agrees_7 : decode cX6_agrees 7 = .ok (.aload_n 0, 1) := by decide +kernel
theorem dX6_agrees_8 : decode cX6_agrees 8 = .ok (.getfield 7, 3) := by decide +kernel
theorem dX6_agrees_11 : decode cX6_agrees 11 = .ok (.iconst 4, 1) := by decide +kernel
theorem dX6_agrees_12 : decode cX6_agrees 12 = .ok (.iaload, 1) := by decide +kernel
theorem dX6_agrees_13 : decode cX6_agrees 13 = .ok (.aload_n 0, 1) := by decide +kernel
theorem dX6_agrees_14 : decode cX6_agrees 14 = .ok (.getfield 7, 3) := by decide +kernel
theorem dX6_agrees_17 : decode cX6_agrees 17 = .ok (.iconst 3, 1) := by decide +kernel
theorem dX6_agrees_18 : decode cX6_agrees 18 = .ok (.iaload, 1) := by decide +kernel
theorem dX6_agrees_19 : decode cX6_agrees 19 = .ok (.if_icmp .ge 77, 3) := by decide +kernel
theorem dX6_agrees_22 : decode cX6_agrees 22 = .ok (.aload_n 0, 1) := by decide +kernel
theorem dX6_agrees_23 : decode cX6_agrees 23 = .ok (.aload_n 0, 1) := by decide +kernel
theorem dX6_agrees_24 : decode cX6_agrees 24 = .ok (.bipush 32, 2) := by decide +kernel
theorem dX6_agrees_26 : decode cX6_agrees 26 = .ok (.aload_n 0, 1) := by decide +kernel
theorem dX6_agrees_27 : decode cX6_agrees 27 = .ok (.getfield 7, 3) := by decide +kernel
theorem dX6_agrees_30 : decode cX6_agrees 30 = .ok (.iconst 4, 1) := by decide +kernel
theorem dX6_agrees_31 : decode cX6_agrees 31 = .ok (.iaload, 1) := by decide +kernel
theorem dX6_agrees_32 : decode cX6_agrees 32 = .ok (.invokevirtual 42, 3) := by decide +kernel
theorem dX6_agrees_35 : decode cX6_agrees 35 = .ok (.invokevirtual 45, 3) := by decide +kernel
theorem dX6_agrees_38 : decode cX6_agrees 38 = .ok (.ifCond .eq 58, 3) := by decide +kernel
theorem dX6_agrees_41 : decode cX6_agrees 41 = .ok (.aload_n 0, 1) := by decide +kernel
theorem dX6_agrees_42 : decode cX6_agrees 42 = .ok (.aload_n 0, 1) := by decide +kernel
theorem dX6_agrees_43 : decode cX6_agrees 43 = .ok (.aload_n 0, 1) := by decide +kernel
theorem dX6_agrees_44 : decode cX6_agrees 44 = .ok (.invokevirtual 38, 3) := by decide +kernel
theorem dX6_agrees_47 : decode cX6_agrees 47 = .ok (.aload_n 0, 1) := by decide +kernel
theorem dX6_agrees_48 : decode cX6_agrees 48 = .ok (.getfield 7, 3) := by decide +kernel
theorem dX6_agrees_51 : decode cX6_agrees 51 = .ok (.iconst 4, 1) := by decide +kernel
theorem dX6_agrees_52 : decode cX6_agrees 52 = .ok (.iaload, 1) := by decide +kernel
theorem dX6_agrees_53 : decode cX6_agrees 53 = .ok (.invokevirtual 42, 3) := by decide +kernel
theorem dX6_agrees_56 : decode cX6_agrees 56 = .ok (.invokevirtual 45, 3) := by decide +kernel
theorem dX6_agrees_59 : decode cX6_agrees 59 = .ok (.ifCond .eq 37, 3) := by decide +kernel
theorem dX6_agrees_62 : decode cX6_agrees 62 = .ok (.aload_n 0, 1) := by decide +kernel
theorem dX6_agrees_63 : decode cX6_agrees 63 = .ok (.getfield 7, 3) := by decide +kernel
theorem dX6_agrees_66 : decode cX6_agrees 66 = .ok (.iconst 4, 1) := by decide +kernel
theorem dX6_agrees_67 : decode cX6_agrees 67 = .ok (.dup2, 1) := by decide +kernel
theorem dX6_agrees_68 : decode cX6_agrees 68 = .ok (.iaload, 1) := by decide +kernel
theorem dX6_agrees_69 : decode cX6_agrees 69 = .ok (.iconst 1, 1) := by decide +kernel
theorem dX6_agrees_70 : decode cX6_agrees 70 = .ok (.iadd, 1) := by decide +kernel
theorem dX6_agrees_71 : decode cX6_agrees 71 = .ok (.iastore, 1) := by decide +kernel
theorem dX6_agrees_72 : decode cX6_agrees 72 = .ok (.aload_n 0, 1) := by decide +kernel
theorem dX6_agrees_73 : decode cX6_agrees 73 = .ok (.getfield 7, 3) := by decide +kernel
theorem dX6_agrees_76 : decode cX6_agrees 76 = .ok (.iconst 4, 1) := by decide +kernel
theorem dX6_agrees_77 : decode cX6_agrees 77 = .ok (.iaload, 1) := by decide +kernel
theorem dX6_agrees_78 : decode cX6_agrees 78 = .ok (.iconst 1, 1) := by decide +kernel
theorem dX6_agrees_79 : decode cX6_agrees 79 = .ok (.isub, 1) := by decide +kernel
theorem dX6_agrees_80 : decode cX6_agrees 80 = .ok (.aload_n 0, 1) := by decide +kernel
theorem dX6_agrees_81 : decode cX6_agrees 81 = .ok (.getfield 7, 3) := by decide +kernel
theorem dX6_agrees_84 : decode cX6_agrees 84 = .ok (.iconst 5, 1) := by decide +kernel
theorem dX6_agrees_85 : decode cX6_agrees 85 = .ok (.iaload, 1) := by decide +kernel
theorem dX6_agrees_86 : decode cX6_agrees 86 = .ok (.if_icmp .ne (-79), 3) := by decide +kernel
theorem dX6_agrees_89 : decode cX6_agrees 89 = .ok (.aload_n 0, 1) := by decide +kernel
theorem dX6_agrees_90 : decode cX6_agrees 90 = .ok (.invokevirtual 49, 3) := by decide +kernel
theorem dX6_agrees_93 : decode cX6_agrees 93 = .ok (.goto (-86), 3) := by decide +kernel
theorem dX6_agrees_96 : decode cX6_agrees 96 = .ok (.aload_n 0, 1) := by decide +kernel
theorem dX6_agrees_97 : decode cX6_agrees 97 = .ok (.getfield 7, 3) := by decide +kernel
theorem dX6_agrees_100 : decode cX6_agrees 100 = .ok (.iconst 4, 1) := by decide +kernel
theorem dX6_agrees_101 : decode cX6_agrees 101 = .ok (.iaload, 1) := by decide +kernel
theorem dX6_agrees_102 : decode cX6_agrees 102 = .ok (.iload_n 1, 1) := by decide +kernel
theorem dX6_agrees_103 : decode cX6_agrees 103 = .ok (.isub, 1) := by decide +kernel
theorem dX6_agrees_104 : decode cX6_agrees 104 = .ok (.ireturn, 1) := by decide +kernel
set_option maxRecDepth 20000 in
theorem ggX6_come_X6_acts : GoodIn wsX6_come wsX6_acts := goodIn_r _ [6, 7, 8, 9, 1, 10, 11, 12, 13, 14, 15, 16, 17, 18] (by decide +kernel) (by decide +kernel)
set_option maxRecDepth 20000 in
theorem gX6_come_X6_acts : GoodIn wsX6_come (wsV RX6 52 RX6 yX6_acts wsX6_acts) := goodIn_app (goodIn_of _ (by decide +kernel)) ggX6_come_X6_acts
theorem dX6_come_0 : decode cX6_come 0 = .ok (.aload_n 0, 1) := by decide +kernel
theorem dX6_come_1 : decode cX6_come 1 = .ok (.getfield 7, 3) := by decide +kernel
theorem dX6_come_4 : decode cX6_come 4 = .ok (.iconst 0, 1) := by decide +kernel
theorem dX6_come_5 : decode cX6_come 5 = .ok (.iaload, 1) := by decide +kernel
theorem dX6_come_6 : decode cX6_come 6 = .ok (.bipush 12, 2) := by decide +kernel
theorem dX6_come_8 : decode cX6_come 8 = .ok (.if_icmp .ne 6, 3) := by decide +kernel
theorem dX6_come_11 : decode cX6_come 11 = .ok (.bipush (-3), 2) := by decide +kernel
theorem dX6_come_13 : decode cX6_come 13 = .ok (.ireturn, 1) := by decide +kernel
theorem dX6_come_14 : decode cX6_come 14 = .ok (.aload_n 0, 1) := by decide +kernel
theorem dX6_come_15 : decode cX6_come 15 = .ok (.invokevirtual 52, 3) := by decide +kernel
theorem dX6_come_18 : decode cX6_come 18 = .ok (.aload_n 0, 1) := by decide +kernel
theorem dX6_come_19 : decode cX6_come 19 = .ok (.getfield 7, 3) := by decide +kernel
theorem dX6_come_22 : decode cX6_come 22 = .ok (.iconst 0, 1) := by decide +kernel
theorem dX6_come_23 : decode cX6_come 23 = .ok (.iaload, 1) := by decide +kernel
theorem dX6_come_24 : decode cX6_come 24 = .ok (.istore_n 1, 1) := by decide +kernel
theorem dX6_come_25 : decode cX6_come 25 = .ok (.aload_n 0, 1) := by decide +kernel
theorem dX6_come_26 : decode cX6_come 26 = .ok (.getfield 7, 3) := by decide +kernel
theorem dX6_come_29 : decode cX6_come 29 = .ok (.bipush 8, 2) := by decide +kernel
theorem dX6_come_31 : decode cX6_come 31 = .ok (.iload_n 1, 1) := by decide +kernel
theorem dX6_come_32 : decode cX6_come 32 = .ok (.iadd, 1) := by decide +kernel
theorem dX6_come_33 : decode cX6_come 33 = .ok (.iconst 1, 1) := by decide +kernel
theorem dX6_come_34 : decode cX6_come 34 = .ok (.iastore, 1) := by decide +kernel
theorem dX6_come_35 : decode cX6_come 35 = .ok (.aload_n 0, 1) := by decide +kernel
theorem dX6_come_36 : decode cX6_come 36 = .ok (.getfield 7, 3) := by decide +kernel
theorem dX6_come_39 : decode cX6_come 39 = .ok (.bipush 20, 2) := by decide +kernel
theorem dX6_come_41 : decode cX6_come 41 = .ok (.iload_n 1, 1) := by decide +kernel
theorem dX6_come_42 : decode cX6_come 42 = .ok (.iadd, 1) := by decide +kernel
theorem dX6_come_43 : decode cX6_come 43 = .ok (.iconst 0, 1) := by decide +kernel
theorem dX6_come_44 : decode cX6_come 44 = .ok (.iastore, 1) := by decide +kernel
theorem dX6_come_45 : decode cX6_come 45 = .ok (.aload_n 0, 1) := by decide +kernel
theorem dX6_come_46 : decode cX6_come 46 = .ok (.getfield 7, 3) := by decide +kernel
theorem dX6_come_49 : decode cX6_come 49 = .ok (.iconst 0, 1) := by decide +kernel
theorem dX6_come_50 : decode cX6_come 50 = .ok (.dup2, 1) := by decide +kernel
theorem dX6_come_51 : decode cX6_come 51 = .ok (.iaload, 1) := by decide +kernel
theorem dX6_come_52 : decode cX6_come 52 = .ok (.iconst 1, 1) := by decide +kernel
theorem dX6_come_53 : decode cX6_come 53 = .ok (.iadd, 1) := by decide +kernel
theorem dX6_come_54 : decode cX6_come 54 = .ok (.iastore, 1) := by decide +kernel
theorem dX6_come_55 : decode cX6_come 55 = .ok (.iload_n 1, 1) := by decide +kernel
theorem dX6_come_56 : decode cX6_come 56 = .ok (.ireturn, 1) := by decide +kernel
theorem dX6_present_0 : decode cX6_present 0 = .ok (.iconst 0, 1) := by decide +kernel
theorem dX6_present_1 : decode cX6_present 1 = .ok (.istore_n 1, 1) := by decide +kernel
theorem dX6_present_2 : decode cX6_present 2 = .ok (.iconst 0, 1) := by decide +kernel
theorem dX6_present_3 : decode cX6_present 3 = .ok (.istore_n 2, 1) := by decide +kernel
theorem dX6_present_4 : decode cX6_present 4 = .ok (.iload_n 2, 1) := by decide +kernel
theorem dX6_present_5 : decode cX6_present 5 = .ok (.aload_n 0, 1) := by decide +kernel
theorem dX6_present_6 : decode cX6_present 6 = .ok (.getfield 7, 3) := by decide +kernel
theorem dX6_present_9 : decode cX6_present 9 = .ok (.iconst 0, 1) := by decide +kernel
theorem dX6_present_10 : decode cX6_present 10 = .ok (.iaload, 1) := by decide +kernel
theorem dX6_present_11 : decode cX6_present 11 = .ok (.if_icmp .ge 21, 3) := by decide +kernel
theorem dX6_present_14 : decode cX6_present 14 = .ok (.iload_n 1, 1) := by decide +kernel
theorem dX6_present_15 : decode cX6_present 15 = .ok (.aload_n 0, 1) := by decide +kernel
theorem dX6_present_16 : decode cX6_present 16 = .ok (.getfield 7, 3) := by decide +kernel
theorem dX6_present_19 : decode cX6_present 19 = .ok (.bipush 8, 2) := by decide +kernel
theorem dX6_present_21 : decode cX6_present 21 = .ok (.iload_n 2, 1) := by decide +kernel
theorem dX6_present_22 : decode cX6_present 22 = .ok (.iadd, 1) := by decide +kernel
theorem dX6_present_23 : decode cX6_present 23 = .ok (.iaload, 1) := by decide +kernel
theorem dX6_present_24 : decode cX6_present 24 = .ok (.iadd, 1) := by decide +kernel
theorem dX6_present_25 : decode cX6_present 25 = .ok (.istore_n 1, 1) := by decide +kernel
theorem dX6_present_26 : decode cX6_present 26 = .ok (.iinc 2 1, 3) := by decide +kernel
theorem dX6_present_29 : decode cX6_present 29 = .ok (.goto (-25), 3) := by decide +kernel
theorem dX6_present_32 : decode cX6_present 32 = .ok (.iload_n 1, 1) := by decide +kernel
theorem dX6_present_33 : decode cX6_present 33 = .ok (.ireturn, 1) := by decide +kernel
set_option maxRecDepth 20000 in
theorem ggX6_attend_X6_isVillager : GoodIn wsX6_attend wsX6_isVillager := goodIn_r _ [6, 1, 21, 22, 23, 24, 25, 26, 27, 28, 29] (by decide +kernel) (by decide +kernel)
set_option maxRecDepth 20000 in
theorem gX6_attend_X6_isVillager : GoodIn wsX6_attend (wsV RX6 55 RX6 yX6_isVillager wsX6_isVillager) := goodIn_app (goodIn_of _ (by decide +kernel)) ggX6_attend_X6_isVillager
set_option maxRecDepth 20000 in
theorem ggX6_attend_X6_in : GoodIn wsX6_attend wsX6_in := goodIn_r _ [9] (by decide +kernel) (by decide +kernel)
set_option maxRecDepth 20000 in
theorem gX6_attend_X6_in : GoodIn wsX6_attend (va_wsS RX6 58 yX6_in wsX6_in) := goodIn_app (goodIn_of _ (by decide +kernel)) ggX6_attend_X6_in
set_option maxRecDepth 20000 in
theorem ggX6_attend_X6_acts : GoodIn wsX6_attend wsX6_acts := goodIn_r _ [13, 14, 15, 16, 1, 21, 22, 23, 24, 25, 26, 27, 28, 29] (by decide +kernel) (by decide +kernel)
set_option maxRecDepth 20000 in
theorem gX6_attend_X6_acts : GoodIn wsX6_attend (wsV RX6 52 RX6 yX6_acts wsX6_acts) := goodIn_app (goodIn_of _ (by decide +kernel)) ggX6_attend_X6_acts
set_option maxRecDepth 20000 in
theorem ggX6_attend_X6_present : GoodIn wsX6_attend wsX6_present := goodIn_r _ [20, 1, 21, 22, 23, 24, 25, 26, 27, 28, 29] (by decide +kernel) (by decide +kernel)
set_option maxRecDepth 20000 in
theorem gX6_attend_X6_present : GoodIn wsX6_attend (wsV RX6 62 RX6 yX6_present wsX6_present) := goodIn_app (goodIn_of _ (by decide +kernel)) ggX6_attend_X6_present
theorem dX6_attend_0 : decode cX6_attend 0 = .ok (.aload_n 0, 1) := by decide +kernel
theorem dX6_attend_1 : decode cX6_attend 1 = .ok (.iload_n 1, 1) := by decide +kernel
theorem dX6_attend_2 : decode cX6_attend 2 = .ok (.invokevirtual 55, 3) := by decide +kernel
theorem dX6_attend_5 : decode cX6_attend 5 = .ok (.ifCond .eq 12, 3) := by decide +kernel
theorem dX6_attend_8 : decode cX6_attend 8 = .ok (.iload_n 2, 1) := by decide +kernel
theorem dX6_attend_9 : decode cX6_attend 9 = .ok (.iconst 0, 1) := by decide +kernel
theorem dX6_attend_10 : decode cX6_attend 10 = .ok (.iconst 1, 1) := by decide +kernel
theorem dX6_attend_11 : decode cX6_attend 11 = .ok (.invokestatic 58, 3) := by decide +kernel
theorem dX6_attend_14 : decode cX6_attend 14 = .ok (.ifCond .ne 5, 3) := by decide +kernel
theorem dX6_attend_17 : decode cX6_attend 17 = .ok (.iconst (-1), 1) := by decide +kernel
theorem dX6_attend_18 : decode cX6_attend 18 = .ok (.ireturn, 1) := by decide +kernel
theorem dX6_attend_19 : decode cX6_attend 19 = .ok (.aload_n 0, 1) := by decide +kernel
theorem dX6_attend_20 : decode cX6_attend 20 = .ok (.getfield 7, 3) := by decide +kernel
theorem dX6_attend_23 : decode cX6_attend 23 = .ok (.bipush 8, 2) := by decide +kernel
theorem dX6_attend_25 : decode cX6_attend 25 = .ok (.iload_n 1, 1) := by decide +kernel
theorem dX6_attend_26 : decode cX6_attend 26 = .ok (.iadd, 1) := by decide +kernel
theorem dX6_attend_27 : decode cX6_attend 27 = .ok (.iaload, 1) := by decide +kernel
theorem dX6_attend_28 : decode cX6_attend 28 = .ok (.iload_n 2, 1) := by decide +kernel
theorem dX6_attend_29 : decode cX6_attend 29 = .ok (.if_icmp .ne 6, 3) := by decide +kernel
theorem dX6_attend_32 : decode cX6_attend 32 = .ok (.bipush (-2), 2) := by decide +kernel
theorem dX6_attend_34 : decode cX6_attend 34 = .ok (.ireturn, 1) := by decide +kernel
theorem dX6_attend_35 : decode cX6_attend 35 = .ok (.aload_n 0, 1) := by decide +kernel
theorem dX6_attend_36 : decode cX6_attend 36 = .ok (.invokevirtual 52, 3) := by decide +kernel
theorem dX6_attend_39 : decode cX6_attend 39 = .ok (.aload_n 0, 1) := by decide +kernel
theorem dX6_attend_40 : decode cX6_attend 40 = .ok (.getfield 7, 3) := by decide +kernel
theorem dX6_attend_43 : decode cX6_attend 43 = .ok (.bipush 8, 2) := by decide +kernel
theorem dX6_attend_45 : decode cX6_attend 45 = .ok (.iload_n 1, 1) := by decide +kernel
theorem dX6_attend_46 : decode cX6_attend 46 = .ok (.iadd, 1) := by decide +kernel
theorem dX6_attend_47 : decode cX6_attend 47 = .ok (.iload_n 2, 1) := by decide +kernel
theorem dX6_attend_48 : decode cX6_attend 48 = .ok (.iastore, 1) := by decide +kernel
theorem dX6_attend_49 : decode cX6_attend 49 = .ok (.aload_n 0, 1) := by decide +kernel
theorem dX6_attend_50 : decode cX6_attend 50 = .ok (.invokevirtual 62, 3) := by decide +kernel
theorem dX6_attend_53 : decode cX6_attend 53 = .ok (.ireturn, 1) := by decide +kernel
set_option maxRecDepth 20000 in
theorem ggX6_found_X6_in : GoodIn wsX6_found wsX6_in := goodIn_r _ [5] (by decide +kernel) (by decide +kernel)
set_option maxRecDepth 20000 in
theorem gX6_found_X6_in : GoodIn wsX6_found (va_wsS RX6 58 yX6_in wsX6_in) := goodIn_app (goodIn_of _ (by decide +kernel)) ggX6_found_X6_in
set_option maxRecDepth 20000 in
theorem ggX6_found_X6_acts : GoodIn wsX6_found wsX6_acts := goodIn_r _ [9, 10, 11, 12, 1, 13, 14, 15, 16, 17, 18, 19, 20, 21] (by decide +kernel) (by decide +kernel)
set_option maxRecDepth 20000 in
theorem gX6_found_X6_acts : GoodIn wsX6_found (wsV RX6 52 RX6 yX6_acts wsX6_acts) := goodIn_app (goodIn_of _ (by decide +kernel)) ggX6_found_X6_acts
theorem dX6_found_0 : decode cX6_found 0 = .ok (.iload_n 1, 1) := by decide +kernel
theorem dX6_found_1 : decode cX6_found 1 = .ok (.iconst 1, 1) := by decide +kernel
theorem dX6_found_2 : decode cX6_found 2 = .ok (.iconst 5, 1) := by decide +kernel
theorem dX6_found_3 : decode cX6_found 3 = .ok (.invokestatic 58, 3) := by decide +kernel
theorem dX6_found_6 : decode cX6_found 6 = .ok (.ifCond .ne 5, 3) := by decide +kernel
theorem dX6_found_9 : decode cX6_found 9 = .ok (.iconst (-1), 1) := by decide +kernel
theorem dX6_found_10 : decode cX6_found 10 = .ok (.ireturn, 1) := by decide +kernel
theorem dX6_found_11 : decode cX6_found 11 = .ok (.aload_n 0, 1) := by decide +kernel
theorem dX6_found_12 : decode cX6_found 12 = .ok (.getfield 7, 3) := by decide +kernel
theorem dX6_found_15 : decode cX6_found 15 = .ok (.iconst 1, 1) := by decide +kernel
theorem dX6_found_16 : decode cX6_found 16 = .ok (.iaload, 1) := by decide +kernel
theorem dX6_found_17 : decode cX6_found 17 = .ok (.ifCond .gt 13, 3) := by decide +kernel
theorem dX6_found_20 : decode cX6_found 20 = .ok (.aload_n 0, 1) := by decide +kernel
theorem dX6_found_21 : decode cX6_found 21 = .ok (.getfield 7, 3) := by decide +kernel
theorem dX6_found_24 : decode cX6_found 24 = .ok (.iconst 0, 1) := by decide +kernel
theorem dX6_found_25 : decode cX6_found 25 = .ok (.iaload, 1) := by decide +kernel
theorem dX6_found_26 : decode cX6_found 26 = .ok (.iload_n 1, 1) := by decide +kernel
theorem dX6_found_27 : decode cX6_found 27 = .ok (.if_icmp .ge 6, 3) := by decide +kernel
theorem dX6_found_30 : decode cX6_found 30 = .ok (.bipush (-2), 2) := by decide +kernel
theorem dX6_found_32 : decode cX6_found 32 = .ok (.ireturn, 1) := by decide +kernel
theorem dX6_found_33 : decode cX6_found 33 = .ok (.aload_n 0, 1) := by decide +kernel
theorem dX6_found_34 : decode cX6_found 34 = .ok (.invokevirtual 52, 3) := by decide +kernel
theorem dX6_found_37 : decode cX6_found 37 = .ok (.aload_n 0, 1) := by decide +kernel
theorem dX6_found_38 : decode cX6_found 38 = .ok (.getfield 7, 3) := by decide +kernel
theorem dX6_found_41 : decode cX6_found 41 = .ok (.iconst 1, 1) := by decide +kernel
theorem dX6_found_42 : decode cX6_found 42 = .ok (.iload_n 1, 1) := by decide +kernel
theorem dX6_found_43 : decode cX6_found 43 = .ok (.iastore, 1) := by decide +kernel
theorem dX6_found_44 : decode cX6_found 44 = .ok (.iconst 0, 1) := by decide +kernel
theorem dX6_found_45 : decode cX6_found 45 = .ok (.istore_n 2, 1) := by decide +kernel
theorem dX6_found_46 : decode cX6_found 46 = .ok (.iload_n 2, 1) := by decide +kernel
theorem dX6_found_47 : decode cX6_found 47 = .ok (.iload_n 1, 1) := by decide +kernel
theorem dX6_found_48 : decode cX6_found 48 = .ok (.if_icmp .ge 19, 3) := by decide +kernel
theorem dX6_found_51 : decode cX6_found 51 = .ok (.aload_n 0, 1) := by decide +kernel
theorem dX6_found_52 : decode cX6_found 52 = .ok (.getfield 7, 3) := by decide +kernel
theorem dX6_found_55 : decode cX6_found 55 = .ok (.bipush 32, 2) := by decide +kernel
theorem dX6_found_57 : decode cX6_found 57 = .ok (.iload_n 2, 1) := by decide +kernel
theorem dX6_found_58 : decode cX6_found 58 = .ok (.iadd, 1) := by decide +kernel
theorem dX6_found_59 : decode cX6_found 59 = .ok (.iload_n 2, 1) := by decide +kernel
theorem dX6_found_60 : decode cX6_found 60 = .ok (.iastore, 1) := by decide +kernel
theorem dX6_found_61 : decode cX6_found 61 = .ok (.iinc 2 1, 3) := by decide +kernel
theorem dX6_found_64 : decode cX6_found 64 = .ok (.goto (-18), 3) := by decide +kernel
theorem dX6_found_67 : decode cX6_found 67 = .ok (.iload_n 1, 1) := by decide +kernel
theorem dX6_found_68 : decode cX6_found 68 = .ok (.ireturn, 1) := by decide +kernel
set_option maxRecDepth 20000 in
theorem ggX6_setLot_X6_in : GoodIn wsX6_setLot wsX6_in := goodIn_r _ [6] (by decide +kernel) (by decide +kernel)
set_option maxRecDepth 20000 in
theorem gX6_setLot_X6_in : GoodIn wsX6_setLot (va_wsS RX6 58 yX6_in wsX6_in) := goodIn_app (goodIn_of _ (by decide +kernel)) ggX6_setLot_X6_in
set_option maxRecDepth 20000 in
theorem ggX6_setLot_X6_acts : GoodIn wsX6_setLot wsX6_acts := goodIn_r _ [10, 11, 12, 13, 2, 14, 15, 16, 17, 18, 19, 20, 21, 22] (by decide +kernel) (by decide +kernel)
set_option maxRecDepth 20000 in
theorem gX6_setLot_X6_acts : GoodIn wsX6_setLot (wsV RX6 52 RX6 yX6_acts wsX6_acts) := goodIn_app (goodIn_of _ (by decide +kernel)) ggX6_setLot_X6_acts
theorem dX6_setLot_0 : decode cX6_setLot 0 = .ok (.iload_n 1, 1) := by decide +kernel
theorem dX6_setLot_1 : decode cX6_setLot 1 = .ok (.iconst 0, 1) := by decide +kernel
theorem dX6_setLot_2 : decode cX6_setLot 2 = .ok (.ldc 65, 2) := by decide +kernel
theorem dX6_setLot_4 : decode cX6_setLot 4 = .ok (.invokestatic 58, 3) := by decide +kernel
theorem dX6_setLot_7 : decode cX6_setLot 7 = .ok (.ifCond .ne 5, 3) := by decide +kernel
theorem dX6_setLot_10 : decode cX6_setLot 10 = .ok (.iconst (-1), 1) := by decide +kernel
theorem dX6_setLot_11 : decode cX6_setLot 11 = .ok (.ireturn, 1) := by decide +kernel
theorem dX6_setLot_12 : decode cX6_setLot 12 = .ok (.aload_n 0, 1) := by decide +kernel
theorem dX6_setLot_13 : decode cX6_setLot 13 = .ok (.invokevirtual 52, 3) := by decide +kernel
theorem dX6_setLot_16 : decode cX6_setLot 16 = .ok (.aload_n 0, 1) := by decide +kernel
theorem dX6_setLot_17 : decode cX6_setLot 17 = .ok (.getfield 7, 3) := by decide +kernel
theorem dX6_setLot_20 : decode cX6_setLot 20 = .ok (.bipush 6, 2) := by decide +kernel
theorem dX6_setLot_22 : decode cX6_setLot 22 = .ok (.iaload, 1) := by decide +kernel
theorem dX6_setLot_23 : decode cX6_setLot 23 = .ok (.istore_n 2, 1) := by decide +kernel
theorem dX6_setLot_24 : decode cX6_setLot 24 = .ok (.aload_n 0, 1) := by decide +kernel
theorem dX6_setLot_25 : decode cX6_setLot 25 = .ok (.getfield 7, 3) := by decide +kernel
theorem dX6_setLot_28 : decode cX6_setLot 28 = .ok (.bipush 6, 2) := by decide +kernel
theorem dX6_setLot_30 : decode cX6_setLot 30 = .ok (.iload_n 1, 1) := by decide +kernel
theorem dX6_setLot_31 : decode cX6_setLot 31 = .ok (.iastore, 1) := by decide +kernel
theorem dX6_setLot_32 : decode cX6_setLot 32 = .ok (.iload_n 2, 1) := by decide +kernel
theorem dX6_setLot_33 : decode cX6_setLot 33 = .ok (.ireturn, 1) := by decide +kernel
set_option maxRecDepth 20000 in
theorem ggX6_candidates_X6_seatOf : GoodIn wsX6_candidates wsX6_seatOf := goodIn_r _ [6, 1, 7, 8, 9, 10, 11, 12, 13, 14, 15] (by decide +kernel) (by decide +kernel)
set_option maxRecDepth 20000 in
theorem gX6_candidates_X6_seatOf : GoodIn wsX6_candidates (wsV RX6 34 RX6 yX6_seatOf wsX6_seatOf) := goodIn_app (goodIn_of _ (by decide +kernel)) ggX6_candidates_X6_seatOf
theorem dX6_candidates_0 : decode cX6_candidates 0 = .ok (.iconst 0, 1) := by decide +kernel
theorem dX6_candidates_1 : decode cX6_candidates 1 = .ok (.istore_n 1, 1) := by decide +kernel
theorem dX6_candidates_2 : decode cX6_candidates 2 = .ok (.iconst 0, 1) := by decide +kernel
theorem dX6_candidates_3 : decode cX6_candidates 3 = .ok (.istore_n 2, 1) := by decide +kernel
theorem dX6_candidates_4 : decode cX6_candidates 4 = .ok (.iload_n 2, 1) := by decide +kernel
theorem dX6_candidates_5 : decode cX6_candidates 5 = .ok (.aload_n 0, 1) := by decide +kernel
theorem dX6_candidates_6 : decode cX6_candidates 6 = .ok (.getfield 7, 3) := by decide +kernel
theorem dX6_candidates_9 : decode cX6_candidates 9 = .ok (.iconst 0, 1) := by decide +kernel
theorem dX6_candidates_10 : decode cX6_candidates 10 = .ok (.iaload, 1) := by decide +kernel
theorem dX6_candidates_11 : decode cX6_candidates 11 = .ok (.if_icmp .ge 29, 3) := by decide +kernel
theorem dX6_candidates_14 : decode cX6_candidates 14 = .ok (.iload_n 1, 1) := by decide +kernel
theorem dX6_candidates_15 : decode cX6_candidates 15 = .ok (.aload_n 0, 1) := by decide +kernel
theorem dX6_candidates_16 : decode cX6_candidates 16 = .ok (.bipush 32, 2) := by decide +kernel
theorem dX6_candidates_18 : decode cX6_candidates 18 = .ok (.iload_n 2, 1) := by decide +kernel
theorem dX6_candidates_19 : decode cX6_candidates 19 = .ok (.invokevirtual 34, 3) := by decide +kernel
theorem dX6_candidates_22 : decode cX6_candidates 22 = .ok (.bipush (-9), 2) := by decide +kernel
theorem dX6_candidates_24 : decode cX6_candidates 24 = .ok (.if_icmp .ne 7, 3) := by decide +kernel
theorem dX6_candidates_27 : decode cX6_candidates 27 = .ok (.iconst 1, 1) := by decide +kernel
theorem dX6_candidates_28 : decode cX6_candidates 28 = .ok (.goto 4, 3) := by decide +kernel
theorem dX6_candidates_31 : decode cX6_candidates 31 = .ok (.iconst 0, 1) := by decide +kernel
theorem dX6_candidates_32 : decode cX6_candidates 32 = .ok (.iadd, 1) := by decide +kernel
theorem dX6_candidates_33 : decode cX6_candidates 33 = .ok (.istore_n 1, 1) := by decide +kernel
theorem dX6_candidates_34 : decode cX6_candidates 34 = .ok (.iinc 2 1, 3) := by decide +kernel
theorem dX6_candidates_37 : decode cX6_candidates 37 = .ok (.goto (-33), 3) := by decide +kernel
theorem dX6_candidates_40 : decode cX6_candidates 40 = .ok (.iload_n 1, 1) := by decide +kernel
theorem dX6_candidates_41 : decode cX6_candidates 41 = .ok (.ireturn, 1) := by decide +kernel
theorem dX6_drawn_0 : decode cX6_drawn 0 = .ok (.iload_n 0, 1) := by decide +kernel
theorem dX6_drawn_1 : decode cX6_drawn 1 = .ok (.i2l, 1) := by decide +kernel
theorem dX6_drawn_2 : decode cX6_drawn 2 = .ok (.ldc2_w 66, 3) := by decide +kernel
theorem dX6_drawn_5 : decode cX6_drawn 5 = .ok (.lmul, 1) := by decide +kernel
theorem dX6_drawn_6 : decode cX6_drawn 6 = .ok (.ldc2_w 68, 3) := by decide +kernel
theorem dX6_drawn_9 : decode cX6_drawn 9 = .ok (.ladd, 1) := by decide +kernel
theorem dX6_drawn_10 : decode cX6_drawn 10 = .ok (.ldc2_w 70, 3) := by decide +kernel
theorem dX6_drawn_13 : decode cX6_drawn 13 = .ok (.lrem, 1) := by decide +kernel
theorem dX6_drawn_14 : decode cX6_drawn 14 = .ok (.l2i, 1) := by decide +kernel
theorem dX6_drawn_15 : decode cX6_drawn 15 = .ok (.ireturn, 1) := by decide +kernel
set_option maxRecDepth 20000 in
theorem ggX6_candidate_X6_seatOf : GoodIn wsX6_candidate wsX6_seatOf := goodIn_r _ [6, 1, 7, 8, 9, 10, 11, 12, 13, 14, 15] (by decide +kernel) (by decide +kernel)
set_option maxRecDepth 20000 in
theorem gX6_candidate_X6_seatOf : GoodIn wsX6_candidate (wsV RX6 34 RX6 yX6_seatOf wsX6_seatOf) := goodIn_app (goodIn_of _ (by decide +kernel)) ggX6_candidate_X6_seatOf
theorem dX6_candidate_0 : decode cX6_candidate 0 = .ok (.iconst 0, 1) := by decide +kernel
theorem dX6_candidate_1 : decode cX6_candidate 1 = .ok (.istore_n 2, 1) := by decide +kernel
theorem dX6_candidate_2 : decode cX6_candidate 2 = .ok (.bipush (-9), 2) := by decide +kernel
theorem dX6_candidate_4 : decode cX6_candidate 4 = .ok (.istore_n 3, 1) := by decide +kernel
theorem dX6_candidate_5 : decode cX6_candidate 5 = .ok (.iconst 0, 1) := by decide +kernel
theorem dX6_candidate_6 : decode cX6_candidate 6 = .ok (.istore 4, 2) := by decide +kernel
theorem dX6_candidate_8 : decode cX6_candidate 8 = .ok (.iload 4, 2) := by decide +kernel
theorem dX6_candidate_10 : decode cX6_candidate 10 = .ok (.aload_n 0, 1) := by decide +kernel
theorem dX6_candidate_11 : decode cX6_candidate 11 = .ok (.getfield 7, 3) := by decide +kernel
theorem dX6_candidate_14 : decode cX6_candidate 14 = .ok (.iconst 0, 1) := by decide +kernel
theorem dX6_candidate_15 : decode cX6_candidate 15 = .ok (.iaload, 1) := by decide +kernel
theorem dX6_candidate_16 : decode cX6_candidate 16 = .ok (.if_icmp .ge 59, 3) := by decide +kernel
theorem dX6_candidate_19 : decode cX6_candidate 19 = .ok (.aload_n 0, 1) := by decide +kernel
theorem dX6_candidate_20 : decode cX6_candidate 20 = .ok (.bipush 32, 2) := by decide +kernel
theorem dX6_candidate_22 : decode cX6_candidate 22 = .ok (.iload 4, 2) := by decide +kernel
theorem dX6_candidate_24 : decode cX6_candidate 24 = .ok (.invokevirtual 34, 3) := by decide +kernel
theorem dX6_candidate_27 : decode cX6_candidate 27 = .ok (.bipush (-9), 2) := by decide +kernel
theorem dX6_candidate_29 : decode cX6_candidate 29 = .ok (.if_icmp .ne 7, 3) := by decide +kernel
theorem dX6_candidate_32 : decode cX6_candidate 32 = .ok (.iconst 1, 1) := by decide +kernel
theorem dX6_candidate_33 : decode cX6_candidate 33 = .ok (.goto 4, 3) := by decide +kernel
theorem dX6_candidate_36 : decode cX6_candidate 36 = .ok (.iconst 0, 1) := by decide +kernel
theorem dX6_candidate_37 : decode cX6_candidate 37 = .ok (.istore 5, 2) := by decide +kernel
theorem dX6_candidate_39 : decode cX6_candidate 39 = .ok (.iload 5, 2) := by decide +kernel
theorem dX6_candidate_41 : decode cX6_candidate 41 = .ok (.ifCond .eq 13, 3) := by decide +kernel
theorem dX6_candidate_44 : decode cX6_candidate 44 = .ok (.iload_n 2, 1) := by decide +kernel
theorem dX6_candidate_45 : decode cX6_candidate 45 = .ok (.iload_n 1, 1) := by decide +kernel
theorem dX6_candidate_46 : decode cX6_candidate 46 = .ok (.if_icmp .ne 8, 3) := by decide +kernel
theorem dX6_candidate_49 : decode cX6_candidate 49 = .ok (.iload 4, 2) := by decide +kernel
theorem dX6_candidate_51 : decode cX6_candidate 51 = .ok (.goto 4, 3) := by decide +kernel
theorem dX6_candidate_54 : decode cX6_candidate 54 = .ok (.iload_n 3, 1) := by decide +kernel
theorem dX6_candidate_55 : decode cX6_candidate 55 = .ok (.istore_n 3, 1) := by decide +kernel
theorem dX6_candidate_56 : decode cX6_candidate 56 = .ok (.iload_n 2, 1) := by decide +kernel
theorem dX6_candidate_57 : decode cX6_candidate 57 = .ok (.iload 5, 2) := by decide +kernel
theorem dX6_candidate_59 : decode cX6_candidate 59 = .ok (.ifCond .eq 7, 3) := by decide +kernel
theorem dX6_candidate_62 : decode cX6_candidate 62 = .ok (.iconst 1, 1) := by decide +kernel
theorem dX6_candidate_63 : decode cX6_candidate 63 = .ok (.goto 4, 3) := by decide +kernel
theorem dX6_candidate_66 : decode cX6_candidate 66 = .ok (.iconst 0, 1) := by decide +kernel
theorem dX6_candidate_67 : decode cX6_candidate 67 = .ok (.iadd, 1) := by decide +kernel
theorem dX6_candidate_68 : decode cX6_candidate 68 = .ok (.istore_n 2, 1) := by decide +kernel
theorem dX6_candidate_69 : decode cX6_candidate 69 = .ok (.iinc 4 1, 3) := by decide +kernel
theorem dX6_candidate_72 : decode cX6_candidate 72 = .ok (.goto (-64), 3) := by decide +kernel
theorem dX6_candidate_75 : decode cX6_candidate 75 = .ok (.iload_n 3, 1) := by decide +kernel
theorem dX6_candidate_76 : decode cX6_candidate 76 = .ok (.ireturn, 1) := by decide +kernel
set_option maxRecDepth 20000 in
theorem ggX6_canWrite_X6_isElder : GoodIn wsX6_canWrite wsX6_isElder := goodIn_r _ [6, 7, 8, 9, 5, 10, 1, 11, 12, 13, 14, 15, 16, 17, 18, 23, 24, 25, 26, 27, 28, 29, 30, 31] (by decide +kernel) (by decide +kernel)
set_option maxRecDepth 20000 in
theorem gX6_canWrite_X6_isElder : GoodIn wsX6_canWrite (wsV RX6 72 RX6 yX6_isElder wsX6_isElder) := goodIn_app (goodIn_of _ (by decide +kernel)) ggX6_canWrite_X6_isElder
set_option maxRecDepth 20000 in
theorem ggX6_canWrite_X6_isPresent : GoodIn wsX6_canWrite wsX6_isPresent := goodIn_r _ [22, 1, 23, 24, 25, 26, 27, 28, 29, 30, 31] (by decide +kernel) (by decide +kernel)
set_option maxRecDepth 20000 in
theorem gX6_canWrite_X6_isPresent : GoodIn wsX6_canWrite (wsV RX6 75 RX6 yX6_isPresent wsX6_isPresent) := goodIn_app (goodIn_of _ (by decide +kernel)) ggX6_canWrite_X6_isPresent
theorem dX6_canWrite_0 : decode cX6_canWrite 0 = .ok (.aload_n 0, 1) := by decide +kernel
theorem dX6_canWrite_1 : decode cX6_canWrite 1 = .ok (.iload_n 1, 1) := by decide +kernel
theorem dX6_canWrite_2 : decode cX6_canWrite 2 = .ok (.invokevirtual 72, 3) := by decide +kernel
theorem dX6_canWrite_5 : decode cX6_canWrite 5 = .ok (.ifCond .eq 33, 3) := by decide +kernel
theorem dX6_canWrite_8 : decode cX6_canWrite 8 = .ok (.aload_n 0, 1) := by decide +kernel
theorem dX6_canWrite_9 : decode cX6_canWrite 9 = .ok (.iload_n 1, 1) := by decide +kernel
theorem dX6_canWrite_10 : decode cX6_canWrite 10 = .ok (.invokevirtual 75, 3) := by decide +kernel
theorem dX6_canWrite_13 : decode cX6_canWrite 13 = .ok (.ifCond .eq 25, 3) := by decide +kernel
theorem dX6_canWrite_16 : decode cX6_canWrite 16 = .ok (.aload_n 0, 1) := by decide +kernel
theorem dX6_canWrite_17 : decode cX6_canWrite 17 = .ok (.getfield 7, 3) := by decide +kernel
theorem dX6_canWrite_20 : decode cX6_canWrite 20 = .ok (.bipush 20, 2) := by decide +kernel
theorem dX6_canWrite_22 : decode cX6_canWrite 22 = .ok (.iload_n 1, 1) := by decide +kernel
theorem dX6_canWrite_23 : decode cX6_canWrite 23 = .ok (.iadd, 1) := by decide +kernel
theorem dX6_canWrite_24 : decode cX6_canWrite 24 = .ok (.iaload, 1) := by decide +kernel
theorem dX6_canWrite_25 : decode cX6_canWrite 25 = .ok (.aload_n 0, 1) := by decide +kernel
theorem dX6_canWrite_26 : decode cX6_canWrite 26 = .ok (.getfield 7, 3) := by decide +kernel
theorem dX6_canWrite_29 : decode cX6_canWrite 29 = .ok (.iconst 3, 1) := by decide +kernel
theorem dX6_canWrite_30 : decode cX6_canWrite 30 = .ok (.iaload, 1) := by decide +kernel
theorem dX6_canWrite_31 : decode cX6_canWrite 31 = .ok (.if_icmp .ne 7, 3) := by decide +kernel
theorem dX6_canWrite_34 : decode cX6_canWrite 34 = .ok (.iconst 1, 1) := by decide +kernel
theorem dX6_canWrite_35 : decode cX6_canWrite 35 = .ok (.goto 4, 3) := by decide +kernel
theorem dX6_canWrite_38 : decode cX6_canWrite 38 = .ok (.iconst 0, 1) := by decide +kernel
theorem dX6_canWrite_39 : decode cX6_canWrite 39 = .ok (.ireturn, 1) := by decide +kernel
theorem dX6_writes_0 : decode cX6_writes 0 = .ok (.aload_n 0, 1) := by decide +kernel
theorem dX6_writes_1 : decode cX6_writes 1 = .ok (.getfield 7, 3) := by decide +kernel
theorem dX6_writes_4 : decode cX6_writes 4 = .ok (.iconst 3, 1) := by decide +kernel
theorem dX6_writes_5 : decode cX6_writes 5 = .ok (.iaload, 1) := by decide +kernel
theorem dX6_writes_6 : decode cX6_writes 6 = .ok (.istore_n 3, 1) := by decide +kernel
theorem dX6_writes_7 : decode cX6_writes 7 = .ok (.aload_n 0, 1) := by decide +kernel
theorem dX6_writes_8 : decode cX6_writes 8 = .ok (.getfield 7, 3) := by decide +kernel
theorem dX6_writes_11 : decode cX6_writes 11 = .ok (.bipush 42, 2) := by decide +kernel
theorem dX6_writes_13 : decode cX6_writes 13 = .ok (.iconst 3, 1) := by decide +kernel
theorem dX6_writes_14 : decode cX6_writes 14 = .ok (.iload_n 3, 1) := by decide +kernel
theorem dX6_writes_15 : decode cX6_writes 15 = .ok (.imul, 1) := by decide +kernel
theorem dX6_writes_16 : decode cX6_writes 16 = .ok (.iadd, 1) := by decide +kernel
theorem dX6_writes_17 : decode cX6_writes 17 = .ok (.iload_n 2, 1) := by decide +kernel
theorem dX6_writes_18 : decode cX6_writes 18 = .ok (.iastore, 1) := by decide +kernel
theorem dX6_writes_19 : decode cX6_writes 19 = .ok (.aload_n 0, 1) := by decide +kernel
theorem dX6_writes_20 : decode cX6_writes 20 = .ok (.getfield 7, 3) := by decide +kernel
theorem dX6_writes_23 : decode cX6_writes 23 = .ok (.bipush 42, 2) := by decide +kernel
theorem dX6_writes_25 : decode cX6_writes 25 = .ok (.iconst 3, 1) := by decide +kernel
theorem dX6_writes_26 : decode cX6_writes 26 = .ok (.iload_n 3, 1) := by decide +kernel
theorem dX6_writes_27 : decode cX6_writes 27 = .ok (.imul, 1) := by decide +kernel
theorem dX6_writes_28 : decode cX6_writes 28 = .ok (.iadd, 1) := by decide +kernel
theorem dX6_writes_29 : decode cX6_writes 29 = .ok (.iconst 1, 1) := by decide +kernel
theorem dX6_writes_30 : decode cX6_writes 30 = .ok (.iadd, 1) := by decide +kernel
theorem dX6_writes_31 : decode cX6_writes 31 = .ok (.aload_n 0, 1) := by decide +kernel
theorem dX6_writes_32 : decode cX6_writes 32 = .ok (.getfield 7, 3) := by decide +kernel
theorem dX6_writes_35 : decode cX6_writes 35 = .ok (.iconst 2, 1) := by decide +kernel
theorem dX6_writes_36 : decode cX6_writes 36 = .ok (.iaload, 1) := by decide +kernel
theorem dX6_writes_37 : decode cX6_writes 37 = .ok (.iastore, 1) := by decide +kernel
theorem dX6_writes_38 : decode cX6_writes 38 = .ok (.aload_n 0, 1) := by decide +kernel
theorem dX6_writes_39 : decode cX6_writes 39 = .ok (.getfield 7, 3) := by decide +kernel
theorem dX6_writes_42 : decode cX6_writes 42 = .ok (.bipush 42, 2) := by decide +kernel
theorem dX6_writes_44 : decode cX6_writes 44 = .ok (.iconst 3, 1) := by decide +kernel
theorem dX6_writes_45 : decode cX6_writes 45 = .ok (.iload_n 3, 1) := by decide +kernel
theorem dX6_writes_46 : decode cX6_writes 46 = .ok (.imul, 1) := by decide +kernel
theorem dX6_writes_47 : decode cX6_writes 47 = .ok (.iadd, 1) := by decide +kernel
theorem dX6_writes_48 : decode cX6_writes 48 = .ok (.iconst 2, 1) := by decide +kernel
theorem dX6_writes_49 : decode cX6_writes 49 = .ok (.iadd, 1) := by decide +kernel
theorem dX6_writes_50 : decode cX6_writes 50 = .ok (.iload_n 1, 1) := by decide +kernel
theorem dX6_writes_51 : decode cX6_writes 51 = .ok (.iastore, 1) := by decide +kernel
theorem dX6_writes_52 : decode cX6_writes 52 = .ok (.aload_n 0, 1) := by decide +kernel
theorem dX6_writes_53 : decode cX6_writes 53 = .ok (.getfield 7, 3) := by decide +kernel
theorem dX6_writes_56 : decode cX6_writes 56 = .ok (.iconst 3, 1) := by decide +kernel
theorem dX6_writes_57 : decode cX6_writes 57 = .ok (.dup2, 1) := by decide +kernel
theorem dX6_writes_58 : decode cX6_writes 58 = .ok (.iaload, 1) := by decide +kernel
theorem dX6_writes_59 : decode cX6_writes 59 = .ok (.iconst 1, 1) := by decide +kernel
theorem dX6_writes_60 : decode cX6_writes 60 = .ok (.iadd, 1) := by decide +kernel
theorem dX6_writes_61 : decode cX6_writes 61 = .ok (.iastore, 1) := by decide +kernel
theorem dX6_writes_62 : decode cX6_writes 62 = .ok (.aload_n 0, 1) := by decide +kernel
theorem dX6_writes_63 : decode cX6_writes 63 = .ok (.getfield 7, 3) := by decide +kernel
theorem dX6_writes_66 : decode cX6_writes 66 = .ok (.bipush 20, 2) := by decide +kernel
theorem dX6_writes_68 : decode cX6_writes 68 = .ok (.iload_n 1, 1) := by decide +kernel
theorem dX6_writes_69 : decode cX6_writes 69 = .ok (.iadd, 1) := by decide +kernel
theorem dX6_writes_70 : decode cX6_writes 70 = .ok (.dup2, 1) := by decide +kernel
theorem dX6_writes_71 : decode cX6_writes 71 = .ok (.iaload, 1) := by decide +kernel
theorem dX6_writes_72 : decode cX6_writes 72 = .ok (.iconst 1, 1) := by decide +kernel
theorem dX6_writes_73 : decode cX6_writes 73 = .ok (.iadd, 1) := by decide +kernel
theorem dX6_writes_74 : decode cX6_writes 74 = .ok (.iastore, 1) := by decide +kernel
theorem dX6_writes_75 : decode cX6_writes 75 = .ok (.iload_n 3, 1) := by decide +kernel
theorem dX6_writes_76 : decode cX6_writes 76 = .ok (.ireturn, 1) := by decide +kernel
set_option maxRecDepth 20000 in
theorem ggX6_change_X6_isVillager : GoodIn wsX6_change wsX6_isVillager := goodIn_r _ [6, 1, 76, 77, 78, 79, 80, 81, 82, 83, 84] (by decide +kernel) (by decide +kernel)
set_option maxRecDepth 20000 in
theorem gX6_change_X6_isVillager : GoodIn wsX6_change (wsV RX6 55 RX6 yX6_isVillager wsX6_isVillager) := goodIn_app (goodIn_of _ (by decide +kernel)) ggX6_change_X6_isVillager
set_option maxRecDepth 20000 in
theorem ggX6_change_X6_isSeat : GoodIn wsX6_change wsX6_isSeat := goodIn_r _ [10, 1, 76, 77, 78, 79, 80, 81, 82, 83, 84] (by decide +kernel) (by decide +kernel)
set_option maxRecDepth 20000 in
theorem gX6_change_X6_isSeat : GoodIn wsX6_change (wsV RX6 78 RX6 yX6_isSeat wsX6_isSeat) := goodIn_app (goodIn_of _ (by decide +kernel)) ggX6_change_X6_isSeat
set_option maxRecDepth 20000 in
theorem ggX6_change_X6_candidates : GoodIn wsX6_change wsX6_candidates := goodIn_r _ [14, 1, 15, 16, 17, 5, 18, 76, 77, 78, 79, 80, 81, 82, 83, 84] (by decide +kernel) (by decide +kernel)
set_option maxRecDepth 20000 in
theorem gX6_change_X6_candidates : GoodIn wsX6_change (wsV RX6 81 RX6 yX6_candidates wsX6_candidates) := goodIn_app (goodIn_of _ (by decide +kernel)) ggX6_change_X6_candidates
set_option maxRecDepth 20000 in
theorem ggX6_change_X6_goesOn : GoodIn wsX6_change wsX6_goesOn := goodIn_r _ [22, 1, 76, 77, 78, 79, 80, 81, 82, 83, 84] (by decide +kernel) (by decide +kernel)
set_option maxRecDepth 20000 in
theorem gX6_change_X6_goesOn : GoodIn wsX6_change (wsV RX6 30 RX6 yX6_goesOn wsX6_goesOn) := goodIn_app (goodIn_of _ (by decide +kernel)) ggX6_change_X6_goesOn
set_option maxRecDepth 20000 in
theorem ggX6_change_X6_canWrite : GoodIn wsX6_change wsX6_canWrite := goodIn_r _ [26, 1, 27, 28, 29, 5, 30, 15, 16, 17, 18, 31, 32, 33, 34, 19, 20, 21, 22, 35, 36, 37, 38, 76, 77, 78, 79, 80, 81, 82, 83, 84] (by decide +kernel) (by decide +kernel)
set_option maxRecDepth 20000 in
theorem gX6_change_X6_canWrite : GoodIn wsX6_change (wsV RX6 84 RX6 yX6_canWrite wsX6_canWrite) := goodIn_app (goodIn_of _ (by decide +kernel)) ggX6_change_X6_canWrite
set_option maxRecDepth 20000 in
theorem ggX6_change_X6_acts : GoodIn wsX6_change wsX6_acts := goodIn_r _ [42, 43, 44, 45, 1, 76, 77, 78, 79, 80, 81, 82, 83, 84] (by decide +kernel) (by decide +kernel)
set_option maxRecDepth 20000 in
theorem gX6_change_X6_acts : GoodIn wsX6_change (wsV RX6 52 RX6 yX6_acts wsX6_acts) := goodIn_app (goodIn_of _ (by decide +kernel)) ggX6_change_X6_acts
set_option maxRecDepth 20000 in
theorem ggX6_change_X6_drawn : GoodIn wsX6_change wsX6_drawn := goodIn_r _ [48, 49, 50, 51] (by decide +kernel) (by decide +kernel)
set_option maxRecDepth 20000 in
theorem gX6_change_X6_drawn : GoodIn wsX6_change (va_wsS RX6 87 yX6_drawn wsX6_drawn) := goodIn_app (goodIn_of _ (by decide +kernel)) ggX6_change_X6_drawn
set_option maxRecDepth 20000 in
theorem ggX6_change_X6_candidate : GoodIn wsX6_change wsX6_candidate := goodIn_r _ [55, 1, 15, 16, 17, 5, 18, 76, 77, 78, 79, 80, 81, 82, 83, 84] (by decide +kernel) (by decide +kernel)
set_option maxRecDepth 20000 in
theorem gX6_change_X6_candidate : GoodIn wsX6_change (wsV RX6 91 RX6 yX6_candidate wsX6_candidate) := goodIn_app (goodIn_of _ (by decide +kernel)) ggX6_change_X6_candidate
set_option maxRecDepth 20000 in
theorem ggX6_change_X6_writes : GoodIn wsX6_change wsX6_writes := goodIn_r _ [59, 1, 76, 77, 78, 79, 80, 81, 82, 83, 84] (by decide +kernel) (by decide +kernel)
set_option maxRecDepth 20000 in
theorem gX6_change_X6_writes : GoodIn wsX6_change (wsV RX6 94 RX6 yX6_writes wsX6_writes) := goodIn_app (goodIn_of _ (by decide +kernel)) ggX6_change_X6_writes
set_option maxRecDepth 20000 in
theorem ggX6_change_X6_agrees : GoodIn wsX6_change wsX6_agrees := goodIn_r _ [63, 1, 64, 65, 66, 5, 67, 68, 69, 70, 71, 31, 32, 33, 34, 19, 20, 21, 22, 72, 73, 74, 75, 76, 77, 78, 79, 80, 81, 82, 83, 84] (by decide +kernel) (by decide +kernel)
set_option maxRecDepth 20000 in
theorem gX6_change_X6_agrees : GoodIn wsX6_change (wsV RX6 97 RX6 yX6_agrees wsX6_agrees) := goodIn_app (goodIn_of _ (by decide +kernel)) ggX6_change_X6_agrees
theorem dX6_change_0 : decode cX6_change 0 = .ok (.aload_n 0, 1) := by decide +kernel
theorem dX6_change_1 : decode cX6_change 1 = .ok (.iload_n 1, 1) := by decide +kernel
theorem dX6_change_2 : decode cX6_change 2 = .ok (.invokevirtual 55, 3) := by decide +kernel
theorem dX6_change_5 : decode cX6_change 5 = .ok (.ifCond .eq 11, 3) := by decide +kernel
theorem dX6_change_8 : decode cX6_change 8 = .ok (.aload_n 0, 1) := by decide +kernel
theorem dX6_change_9 : decode cX6_change 9 = .ok (.iload_n 2, 1) := by decide +kernel
theorem dX6_change_10 : decode cX6_change 10 = .ok (.invokevirtual 78, 3) := by decide +kernel
theorem dX6_change_13 : decode cX6_change 13 = .ok (.ifCond .ne 5, 3) := by decide +kernel
theorem dX6_change_16 : decode cX6_change 16 = .ok (.iconst (-1), 1) := by decide +kernel
theorem dX6_change_17 : decode cX6_change 17 = .ok (.ireturn, 1) := by decide +kernel
theorem dX6_change_18 : decode cX6_change 18 = .ok (.aload_n 0, 1) := by decide +kernel
theorem dX6_change_19 : decode cX6_change 19 = .ok (.invokevirtual 81, 3) := by decide +kernel
theorem dX6_change_22 : decode cX6_change 22 = .ok (.istore_n 3, 1) := by decide +kernel
theorem dX6_change_23 : decode cX6_change 23 = .ok (.aload_n 0, 1) := by decide +kernel
theorem dX6_change_24 : decode cX6_change 24 = .ok (.invokevirtual 30, 3) := by decide +kernel
theorem dX6_change_27 : decode cX6_change 27 = .ok (.ifCond .ne 15, 3) := by decide +kernel
theorem dX6_change_30 : decode cX6_change 30 = .ok (.aload_n 0, 1) := by decide +kernel
theorem dX6_change_31 : decode cX6_change 31 = .ok (.iload_n 1, 1) := by decide +kernel
theorem dX6_change_32 : decode cX6_change 32 = .ok (.invokevirtual 84, 3) := by decide +kernel
theorem dX6_change_35 : decode cX6_change 35 = .ok (.ifCond .eq 7, 3) := by decide +kernel
theorem dX6_change_38 : decode cX6_change 38 = .ok (.iload_n 3, 1) := by decide +kernel
theorem dX6_change_39 : decode cX6_change 39 = .ok (.ifCond .ne 6, 3) := by decide +kernel
theorem dX6_change_42 : decode cX6_change 42 = .ok (.bipush (-2), 2) := by decide +kernel
theorem dX6_change_44 : decode cX6_change 44 = .ok (.ireturn, 1) := by decide +kernel
theorem dX6_change_45 : decode cX6_change 45 = .ok (.aload_n 0, 1) := by decide +kernel
theorem dX6_change_46 : decode cX6_change 46 = .ok (.getfield 7, 3) := by decide +kernel
theorem dX6_change_49 : decode cX6_change 49 = .ok (.iconst 3, 1) := by decide +kernel
theorem dX6_change_50 : decode cX6_change 50 = .ok (.iaload, 1) := by decide +kernel
theorem dX6_change_51 : decode cX6_change 51 = .ok (.bipush 60, 2) := by decide +kernel
theorem dX6_change_53 : decode cX6_change 53 = .ok (.if_icmp .ne 6, 3) := by decide +kernel
theorem dX6_change_56 : decode cX6_change 56 = .ok (.bipush (-3), 2) := by decide +kernel
theorem dX6_change_58 : decode cX6_change 58 = .ok (.ireturn, 1) := by decide +kernel
theorem dX6_change_59 : decode cX6_change 59 = .ok (.aload_n 0, 1) := by decide +kernel
theorem dX6_change_60 : decode cX6_change 60 = .ok (.invokevirtual 52, 3) := by decide +kernel
theorem dX6_change_63 : decode cX6_change 63 = .ok (.sipush 222, 3) := by decide +kernel
theorem dX6_change_66 : decode cX6_change 66 = .ok (.iconst 5, 1) := by decide +kernel
theorem dX6_change_67 : decode cX6_change 67 = .ok (.aload_n 0, 1) := by decide +kernel
theorem dX6_change_68 : decode cX6_change 68 = .ok (.getfield 7, 3) := by decide +kernel
theorem dX6_change_71 : decode cX6_change 71 = .ok (.bipush 7, 2) := by decide +kernel
theorem dX6_change_73 : decode cX6_change 73 = .ok (.iaload, 1) := by decide +kernel
theorem dX6_change_74 : decode cX6_change 74 = .ok (.imul, 1) := by decide +kernel
theorem dX6_change_75 : decode cX6_change 75 = .ok (.iadd, 1) := by decide +kernel
theorem dX6_change_76 : decode cX6_change 76 = .ok (.istore 4, 2) := by decide +kernel
theorem dX6_change_78 : decode cX6_change 78 = .ok (.aload_n 0, 1) := by decide +kernel
theorem dX6_change_79 : decode cX6_change 79 = .ok (.getfield 7, 3) := by decide +kernel
theorem dX6_change_82 : decode cX6_change 82 = .ok (.iload 4, 2) := by decide +kernel
theorem dX6_change_84 : decode cX6_change 84 = .ok (.aload_n 0, 1) := by decide +kernel
theorem dX6_change_85 : decode cX6_change 85 = .ok (.getfield 7, 3) := by decide +kernel
theorem dX6_change_88 : decode cX6_change 88 = .ok (.bipush 6, 2) := by decide +kernel
theorem dX6_change_90 : decode cX6_change 90 = .ok (.iaload, 1) := by decide +kernel
theorem dX6_change_91 : decode cX6_change 91 = .ok (.iastore, 1) := by decide +kernel
theorem dX6_change_92 : decode cX6_change 92 = .ok (.aload_n 0, 1) := by decide +kernel
theorem dX6_change_93 : decode cX6_change 93 = .ok (.getfield 7, 3) := by decide +kernel
theorem dX6_change_96 : decode cX6_change 96 = .ok (.iload 4, 2) := by decide +kernel
theorem dX6_change_98 : decode cX6_change 98 = .ok (.iconst 1, 1) := by decide +kernel
theorem dX6_change_99 : decode cX6_change 99 = .ok (.iadd, 1) := by decide +kernel
theorem dX6_change_100 : decode cX6_change 100 = .ok (.iload_n 3, 1) := by decide +kernel
theorem dX6_change_101 : decode cX6_change 101 = .ok (.iastore, 1) := by decide +kernel
theorem dX6_change_102 : decode cX6_change 102 = .ok (.aload_n 0, 1) := by decide +kernel
theorem dX6_change_103 : decode cX6_change 103 = .ok (.getfield 7, 3) := by decide +kernel
theorem dX6_change_106 : decode cX6_change 106 = .ok (.bipush 6, 2) := by decide +kernel
theorem dX6_change_108 : decode cX6_change 108 = .ok (.aload_n 0, 1) := by decide +kernel
theorem dX6_change_109 : decode cX6_change 109 = .ok (.getfield 7, 3) := by decide +kernel
theorem dX6_change_112 : decode cX6_change 112 = .ok (.bipush 6, 2) := by decide +kernel
theorem dX6_change_114 : decode cX6_change 114 = .ok (.iaload, 1) := by decide +kernel
theorem dX6_change_115 : decode cX6_change 115 = .ok (.invokestatic 87, 3) := by decide +kernel
theorem dX6_change_118 : decode cX6_change 118 = .ok (.iastore, 1) := by decide +kernel
theorem dX6_change_119 : decode cX6_change 119 = .ok (.aload_n 0, 1) := by decide +kernel
theorem dX6_change_120 : decode cX6_change 120 = .ok (.aload_n 0, 1) := by decide +kernel
theorem dX6_change_121 : decode cX6_change 121 = .ok (.getfield 7, 3) := by decide +kernel
theorem dX6_change_124 : decode cX6_change 124 = .ok (.bipush 6, 2) := by decide +kernel
theorem dX6_change_126 : decode cX6_change 126 = .ok (.iaload, 1) := by decide +kernel
theorem dX6_change_127 : decode cX6_change 127 = .ok (.iload_n 3, 1) := by decide +kernel
theorem dX6_change_128 : decode cX6_change 128 = .ok (.irem, 1) := by decide +kernel
theorem dX6_change_129 : decode cX6_change 129 = .ok (.invokevirtual 91, 3) := by decide +kernel
theorem dX6_change_132 : decode cX6_change 132 = .ok (.istore 5, 2) := by decide +kernel
theorem dX6_change_134 : decode cX6_change 134 = .ok (.aload_n 0, 1) := by decide +kernel
theorem dX6_change_135 : decode cX6_change 135 = .ok (.getfield 7, 3) := by decide +kernel
theorem dX6_change_138 : decode cX6_change 138 = .ok (.iload 4, 2) := by decide +kernel
theorem dX6_change_140 : decode cX6_change 140 = .ok (.iconst 2, 1) := by decide +kernel
theorem dX6_change_141 : decode cX6_change 141 = .ok (.iadd, 1) := by decide +kernel
theorem dX6_change_142 : decode cX6_change 142 = .ok (.iload 5, 2) := by decide +kernel
theorem dX6_change_144 : decode cX6_change 144 = .ok (.iastore, 1) := by decide +kernel
theorem dX6_change_145 : decode cX6_change 145 = .ok (.aload_n 0, 1) := by decide +kernel
theorem dX6_change_146 : decode cX6_change 146 = .ok (.getfield 7, 3) := by decide +kernel
theorem dX6_change_149 : decode cX6_change 149 = .ok (.iload 4, 2) := by decide +kernel
theorem dX6_change_151 : decode cX6_change 151 = .ok (.iconst 3, 1) := by decide +kernel
theorem dX6_change_152 : decode cX6_change 152 = .ok (.iadd, 1) := by decide +kernel
theorem dX6_change_153 : decode cX6_change 153 = .ok (.iload 5, 2) := by decide +kernel
theorem dX6_change_155 : decode cX6_change 155 = .ok (.iastore, 1) := by decide +kernel
theorem dX6_change_156 : decode cX6_change 156 = .ok (.aload_n 0, 1) := by decide +kernel
theorem dX6_change_157 : decode cX6_change 157 = .ok (.getfield 7, 3) := by decide +kernel
theorem dX6_change_160 : decode cX6_change 160 = .ok (.iload 4, 2) := by decide +kernel
theorem dX6_change_162 : decode cX6_change 162 = .ok (.iconst 4, 1) := by decide +kernel
theorem dX6_change_163 : decode cX6_change 163 = .ok (.iadd, 1) := by decide +kernel
theorem dX6_change_164 : decode cX6_change 164 = .ok (.iload_n 2, 1) := by decide +kernel
theorem dX6_change_165 : decode cX6_change 165 = .ok (.iastore, 1) := by decide +kernel
theorem dX6_change_166 : decode cX6_change 166 = .ok (.aload_n 0, 1) := by decide +kernel
theorem dX6_change_167 : decode cX6_change 167 = .ok (.getfield 7, 3) := by decide +kernel
theorem dX6_change_170 : decode cX6_change 170 = .ok (.bipush 7, 2) := by decide +kernel
theorem dX6_change_172 : decode cX6_change 172 = .ok (.dup2, 1) := by decide +kernel
theorem dX6_change_173 : decode cX6_change 173 = .ok (.iaload, 1) := by decide +kernel
theorem dX6_change_174 : decode cX6_change 174 = .ok (.iconst 1, 1) := by decide +kernel
theorem dX6_change_175 : decode cX6_change 175 = .ok (.iadd, 1) := by decide +kernel
theorem dX6_change_176 : decode cX6_change 176 = .ok (.iastore, 1) := by decide +kernel
theorem dX6_change_177 : decode cX6_change 177 = .ok (.iconst 0, 1) := by decide +kernel
theorem dX6_change_178 : decode cX6_change 178 = .ok (.istore 6, 2) := by decide +kernel
theorem dX6_change_180 : decode cX6_change 180 = .ok (.iload 6, 2) := by decide +kernel
theorem dX6_change_182 : decode cX6_change 182 = .ok (.aload_n 0, 1) := by decide +kernel
theorem dX6_change_183 : decode cX6_change 183 = .ok (.getfield 7, 3) := by decide +kernel
theorem dX6_change_186 : decode cX6_change 186 = .ok (.iconst 1, 1) := by decide +kernel
theorem dX6_change_187 : decode cX6_change 187 = .ok (.iaload, 1) := by decide +kernel
theorem dX6_change_188 : decode cX6_change 188 = .ok (.if_icmp .ge 40, 3) := by decide +kernel
theorem dX6_change_191 : decode cX6_change 191 = .ok (.aload_n 0, 1) := by decide +kernel
theorem dX6_change_192 : decode cX6_change 192 = .ok (.getfield 7, 3) := by decide +kernel
theorem dX6_change_195 : decode cX6_change 195 = .ok (.bipush 37, 2) := by decide +kernel
theorem dX6_change_197 : decode cX6_change 197 = .ok (.iload 6, 2) := by decide +kernel
theorem dX6_change_199 : decode cX6_change 199 = .ok (.iadd, 1) := by decide +kernel
theorem dX6_change_200 : decode cX6_change 200 = .ok (.iload 6, 2) := by decide +kernel
theorem dX6_change_202 : decode cX6_change 202 = .ok (.iload_n 2, 1) := by decide +kernel
theorem dX6_change_203 : decode cX6_change 203 = .ok (.if_icmp .ne 8, 3) := by decide +kernel
theorem dX6_change_206 : decode cX6_change 206 = .ok (.iload 5, 2) := by decide +kernel
theorem dX6_change_208 : decode cX6_change 208 = .ok (.goto 13, 3) := by decide +kernel
theorem dX6_change_211 : decode cX6_change 211 = .ok (.aload_n 0, 1) := by decide +kernel
theorem dX6_change_212 : decode cX6_change 212 = .ok (.getfield 7, 3) := by decide +kernel
theorem dX6_change_215 : decode cX6_change 215 = .ok (.bipush 32, 2) := by decide +kernel
theorem dX6_change_217 : decode cX6_change 217 = .ok (.iload 6, 2) := by decide +kernel
theorem dX6_change_219 : decode cX6_change 219 = .ok (.iadd, 1) := by decide +kernel
theorem dX6_change_220 : decode cX6_change 220 = .ok (.iaload, 1) := by decide +kernel
theorem dX6_change_221 : decode cX6_change 221 = .ok (.iastore, 1) := by decide +kernel
theorem dX6_change_222 : decode cX6_change 222 = .ok (.iinc 6 1, 3) := by decide +kernel
theorem dX6_change_225 : decode cX6_change 225 = .ok (.goto (-45), 3) := by decide +kernel
theorem dX6_change_228 : decode cX6_change 228 = .ok (.aload_n 0, 1) := by decide +kernel
theorem dX6_change_229 : decode cX6_change 229 = .ok (.getfield 7, 3) := by decide +kernel
theorem dX6_change_232 : decode cX6_change 232 = .ok (.iconst 5, 1) := by decide +kernel
theorem dX6_change_233 : decode cX6_change 233 = .ok (.aload_n 0, 1) := by decide +kernel
theorem dX6_change_234 : decode cX6_change 234 = .ok (.iload_n 1, 1) := by decide +kernel
theorem dX6_change_235 : decode cX6_change 235 = .ok (.bipush (-9), 2) := by decide +kernel
theorem dX6_change_237 : decode cX6_change 237 = .ok (.invokevirtual 94, 3) := by decide +kernel
theorem dX6_change_240 : decode cX6_change 240 = .ok (.iastore, 1) := by decide +kernel
theorem dX6_change_241 : decode cX6_change 241 = .ok (.aload_n 0, 1) := by decide +kernel
theorem dX6_change_242 : decode cX6_change 242 = .ok (.invokevirtual 97, 3) := by decide +kernel
theorem dX6_change_245 : decode cX6_change 245 = .ok (.ifCond .ge 8, 3) := by decide +kernel
theorem dX6_change_248 : decode cX6_change 248 = .ok (.bipush (-9), 2) := by decide +kernel
theorem dX6_change_250 : decode cX6_change 250 = .ok (.goto 5, 3) := by decide +kernel
theorem dX6_change_253 : decode cX6_change 253 = .ok (.iload 5, 2) := by decide +kernel
theorem dX6_change_255 : decode cX6_change 255 = .ok (.ireturn, 1) := by decide +kernel
set_option maxRecDepth 20000 in
theorem ggX6_forge_X6_isVillager : GoodIn wsX6_forge wsX6_isVillager := goodIn_r _ [6, 1, 46, 47, 48, 49, 50, 51, 52, 53, 54] (by decide +kernel) (by decide +kernel)
set_option maxRecDepth 20000 in
theorem gX6_forge_X6_isVillager : GoodIn wsX6_forge (wsV RX6 55 RX6 yX6_isVillager wsX6_isVillager) := goodIn_app (goodIn_of _ (by decide +kernel)) ggX6_forge_X6_isVillager
set_option maxRecDepth 20000 in
theorem ggX6_forge_X6_goesOn : GoodIn wsX6_forge wsX6_goesOn := goodIn_r _ [10, 1, 46, 47, 48, 49, 50, 51, 52, 53, 54] (by decide +kernel) (by decide +kernel)
set_option maxRecDepth 20000 in
theorem gX6_forge_X6_goesOn : GoodIn wsX6_forge (wsV RX6 30 RX6 yX6_goesOn wsX6_goesOn) := goodIn_app (goodIn_of _ (by decide +kernel)) ggX6_forge_X6_goesOn
set_option maxRecDepth 20000 in
theorem ggX6_forge_X6_isElder : GoodIn wsX6_forge wsX6_isElder := goodIn_r _ [14, 15, 16, 17, 5, 18, 1, 19, 20, 21, 22, 7, 8, 9, 10, 46, 47, 48, 49, 50, 51, 52, 53, 54] (by decide +kernel) (by decide +kernel)
set_option maxRecDepth 20000 in
theorem gX6_forge_X6_isElder : GoodIn wsX6_forge (wsV RX6 72 RX6 yX6_isElder wsX6_isElder) := goodIn_app (goodIn_of _ (by decide +kernel)) ggX6_forge_X6_isElder
set_option maxRecDepth 20000 in
theorem ggX6_forge_X6_acts : GoodIn wsX6_forge wsX6_acts := goodIn_r _ [26, 27, 28, 29, 1, 46, 47, 48, 49, 50, 51, 52, 53, 54] (by decide +kernel) (by decide +kernel)
set_option maxRecDepth 20000 in
theorem gX6_forge_X6_acts : GoodIn wsX6_forge (wsV RX6 52 RX6 yX6_acts wsX6_acts) := goodIn_app (goodIn_of _ (by decide +kernel)) ggX6_forge_X6_acts
set_option maxRecDepth 20000 in
theorem ggX6_forge_X6_agrees : GoodIn wsX6_forge wsX6_agrees := goodIn_r _ [33, 1, 34, 35, 36, 5, 37, 38, 39, 40, 41, 19, 20, 21, 22, 7, 8, 9, 10, 42, 43, 44, 45, 46, 47, 48, 49, 50, 51, 52, 53, 54] (by decide +kernel) (by decide +kernel)
set_option maxRecDepth 20000 in
theorem gX6_forge_X6_agrees : GoodIn wsX6_forge (wsV RX6 97 RX6 yX6_agrees wsX6_agrees) := goodIn_app (goodIn_of _ (by decide +kernel)) ggX6_forge_X6_agrees
theorem dX6_forge_0 : decode cX6_forge 0 = .ok (.aload_n 0, 1) := by decide +kernel
theorem dX6_forge_1 : decode cX6_forge 1 = .ok (.iload_n 1, 1) := by decide +kernel
theorem dX6_forge_2 : decode cX6_forge 2 = .ok (.invokevirtual 55, 3) := by decide +kernel
theorem dX6_forge_5 : decode cX6_forge 5 = .ok (.ifCond .ne 5, 3) := by decide +kernel
theorem dX6_forge_8 : decode cX6_forge 8 = .ok (.iconst (-1), 1) := by decide +kernel
theorem dX6_forge_9 : decode cX6_forge 9 = .ok (.ireturn, 1) := by decide +kernel
theorem dX6_forge_10 : decode cX6_forge 10 = .ok (.aload_n 0, 1) := by decide +kernel
theorem dX6_forge_11 : decode cX6_forge 11 = .ok (.invokevirtual 30, 3) := by decide +kernel
theorem dX6_forge_14 : decode cX6_forge 14 = .ok (.ifCond .eq 11, 3) := by decide +kernel
theorem dX6_forge_17 : decode cX6_forge 17 = .ok (.aload_n 0, 1) := by decide +kernel
theorem dX6_forge_18 : decode cX6_forge 18 = .ok (.iload_n 1, 1) := by decide +kernel
theorem dX6_forge_19 : decode cX6_forge 19 = .ok (.invokevirtual 72, 3) := by decide +kernel
theorem dX6_forge_22 : decode cX6_forge 22 = .ok (.ifCond .eq 6, 3) := by decide +kernel
theorem dX6_forge_25 : decode cX6_forge 25 = .ok (.bipush (-2), 2) := by decide +kernel
theorem dX6_forge_27 : decode cX6_forge 27 = .ok (.ireturn, 1) := by decide +kernel
theorem dX6_forge_28 : decode cX6_forge 28 = .ok (.aload_n 0, 1) := by decide +kernel
theorem dX6_forge_29 : decode cX6_forge 29 = .ok (.invokevirtual 52, 3) := by decide +kernel
theorem dX6_forge_32 : decode cX6_forge 32 = .ok (.sipush 222, 3) := by decide +kernel
theorem dX6_forge_35 : decode cX6_forge 35 = .ok (.iconst 5, 1) := by decide +kernel
theorem dX6_forge_36 : decode cX6_forge 36 = .ok (.aload_n 0, 1) := by decide +kernel
theorem dX6_forge_37 : decode cX6_forge 37 = .ok (.getfield 7, 3) := by decide +kernel
theorem dX6_forge_40 : decode cX6_forge 40 = .ok (.bipush 7, 2) := by decide +kernel
theorem dX6_forge_42 : decode cX6_forge 42 = .ok (.iaload, 1) := by decide +kernel
theorem dX6_forge_43 : decode cX6_forge 43 = .ok (.iconst 1, 1) := by decide +kernel
theorem dX6_forge_44 : decode cX6_forge 44 = .ok (.isub, 1) := by decide +kernel
theorem dX6_forge_45 : decode cX6_forge 45 = .ok (.imul, 1) := by decide +kernel
theorem dX6_forge_46 : decode cX6_forge 46 = .ok (.iadd, 1) := by decide +kernel
theorem dX6_forge_47 : decode cX6_forge 47 = .ok (.istore_n 2, 1) := by decide +kernel
theorem dX6_forge_48 : decode cX6_forge 48 = .ok (.aload_n 0, 1) := by decide +kernel
theorem dX6_forge_49 : decode cX6_forge 49 = .ok (.getfield 7, 3) := by decide +kernel
theorem dX6_forge_52 : decode cX6_forge 52 = .ok (.iload_n 2, 1) := by decide +kernel
theorem dX6_forge_53 : decode cX6_forge 53 = .ok (.iconst 2, 1) := by decide +kernel
theorem dX6_forge_54 : decode cX6_forge 54 = .ok (.iadd, 1) := by decide +kernel
theorem dX6_forge_55 : decode cX6_forge 55 = .ok (.iaload, 1) := by decide +kernel
theorem dX6_forge_56 : decode cX6_forge 56 = .ok (.istore_n 3, 1) := by decide +kernel
theorem dX6_forge_57 : decode cX6_forge 57 = .ok (.aload_n 0, 1) := by decide +kernel
theorem dX6_forge_58 : decode cX6_forge 58 = .ok (.getfield 7, 3) := by decide +kernel
theorem dX6_forge_61 : decode cX6_forge 61 = .ok (.iload_n 2, 1) := by decide +kernel
theorem dX6_forge_62 : decode cX6_forge 62 = .ok (.iconst 2, 1) := by decide +kernel
theorem dX6_forge_63 : decode cX6_forge 63 = .ok (.iadd, 1) := by decide +kernel
theorem dX6_forge_64 : decode cX6_forge 64 = .ok (.iload_n 1, 1) := by decide +kernel
theorem dX6_forge_65 : decode cX6_forge 65 = .ok (.iastore, 1) := by decide +kernel
theorem dX6_forge_66 : decode cX6_forge 66 = .ok (.aload_n 0, 1) := by decide +kernel
theorem dX6_forge_67 : decode cX6_forge 67 = .ok (.getfield 7, 3) := by decide +kernel
theorem dX6_forge_70 : decode cX6_forge 70 = .ok (.bipush 37, 2) := by decide +kernel
theorem dX6_forge_72 : decode cX6_forge 72 = .ok (.aload_n 0, 1) := by decide +kernel
theorem dX6_forge_73 : decode cX6_forge 73 = .ok (.getfield 7, 3) := by decide +kernel
theorem dX6_forge_76 : decode cX6_forge 76 = .ok (.iload_n 2, 1) := by decide +kernel
theorem dX6_forge_77 : decode cX6_forge 77 = .ok (.iconst 4, 1) := by decide +kernel
theorem dX6_forge_78 : decode cX6_forge 78 = .ok (.iadd, 1) := by decide +kernel
theorem dX6_forge_79 : decode cX6_forge 79 = .ok (.iaload, 1) := by decide +kernel
theorem dX6_forge_80 : decode cX6_forge 80 = .ok (.iadd, 1) := by decide +kernel
theorem dX6_forge_81 : decode cX6_forge 81 = .ok (.iload_n 1, 1) := by decide +kernel
theorem dX6_forge_82 : decode cX6_forge 82 = .ok (.iastore, 1) := by decide +kernel
theorem dX6_forge_83 : decode cX6_forge 83 = .ok (.aload_n 0, 1) := by decide +kernel
theorem dX6_forge_84 : decode cX6_forge 84 = .ok (.invokevirtual 97, 3) := by decide +kernel
theorem dX6_forge_87 : decode cX6_forge 87 = .ok (.ifCond .ge 8, 3) := by decide +kernel
theorem dX6_forge_90 : decode cX6_forge 90 = .ok (.bipush (-9), 2) := by decide +kernel
theorem dX6_forge_92 : decode cX6_forge 92 = .ok (.goto 4, 3) := by decide +kernel
theorem dX6_forge_95 : decode cX6_forge 95 = .ok (.iload_n 3, 1) := by decide +kernel
theorem dX6_forge_96 : decode cX6_forge 96 = .ok (.ireturn, 1) := by decide +kernel
set_option maxRecDepth 20000 in
theorem ggX6_propose_X6_isVillager : GoodIn wsX6_propose wsX6_isVillager := goodIn_r _ [6, 1, 61, 62, 63, 64, 65, 66, 67, 68, 69] (by decide +kernel) (by decide +kernel)
set_option maxRecDepth 20000 in
theorem gX6_propose_X6_isVillager : GoodIn wsX6_propose (wsV RX6 55 RX6 yX6_isVillager wsX6_isVillager) := goodIn_app (goodIn_of _ (by decide +kernel)) ggX6_propose_X6_isVillager
set_option maxRecDepth 20000 in
theorem ggX6_propose_X6_in : GoodIn wsX6_propose wsX6_in := goodIn_r _ [9] (by decide +kernel) (by decide +kernel)
set_option maxRecDepth 20000 in
theorem gX6_propose_X6_in : GoodIn wsX6_propose (va_wsS RX6 58 yX6_in wsX6_in) := goodIn_app (goodIn_of _ (by decide +kernel)) ggX6_propose_X6_in
set_option maxRecDepth 20000 in
theorem ggX6_propose_X6_canWrite : GoodIn wsX6_propose wsX6_canWrite := goodIn_r _ [13, 1, 14, 15, 16, 5, 17, 18, 19, 20, 21, 22, 23, 24, 25, 26, 27, 28, 29, 30, 31, 32, 33, 61, 62, 63, 64, 65, 66, 67, 68, 69] (by decide +kernel) (by decide +kernel)
set_option maxRecDepth 20000 in
theorem gX6_propose_X6_canWrite : GoodIn wsX6_propose (wsV RX6 84 RX6 yX6_canWrite wsX6_canWrite) := goodIn_app (goodIn_of _ (by decide +kernel)) ggX6_propose_X6_canWrite
set_option maxRecDepth 20000 in
theorem ggX6_propose_X6_acts : GoodIn wsX6_propose wsX6_acts := goodIn_r _ [37, 38, 39, 40, 1, 61, 62, 63, 64, 65, 66, 67, 68, 69] (by decide +kernel) (by decide +kernel)
set_option maxRecDepth 20000 in
theorem gX6_propose_X6_acts : GoodIn wsX6_propose (wsV RX6 52 RX6 yX6_acts wsX6_acts) := goodIn_app (goodIn_of _ (by decide +kernel)) ggX6_propose_X6_acts
set_option maxRecDepth 20000 in
theorem ggX6_propose_X6_writes : GoodIn wsX6_propose wsX6_writes := goodIn_r _ [44, 1, 61, 62, 63, 64, 65, 66, 67, 68, 69] (by decide +kernel) (by decide +kernel)
set_option maxRecDepth 20000 in
theorem gX6_propose_X6_writes : GoodIn wsX6_propose (wsV RX6 94 RX6 yX6_writes wsX6_writes) := goodIn_app (goodIn_of _ (by decide +kernel)) ggX6_propose_X6_writes
set_option maxRecDepth 20000 in
theorem ggX6_propose_X6_agrees : GoodIn wsX6_propose wsX6_agrees := goodIn_r _ [48, 1, 49, 50, 51, 5, 52, 53, 54, 55, 56, 22, 23, 24, 25, 26, 27, 28, 29, 57, 58, 59, 60, 61, 62, 63, 64, 65, 66, 67, 68, 69] (by decide +kernel) (by decide +kernel)
set_option maxRecDepth 20000 in
theorem gX6_propose_X6_agrees : GoodIn wsX6_propose (wsV RX6 97 RX6 yX6_agrees wsX6_agrees) := goodIn_app (goodIn_of _ (by decide +kernel)) ggX6_propose_X6_agrees
theorem dX6_propose_0 : decode cX6_propose 0 = .ok (.aload_n 0, 1) := by decide +kernel
theorem dX6_propose_1 : decode cX6_propose 1 = .ok (.iload_n 1, 1) := by decide +kernel
theorem dX6_propose_2 : decode cX6_propose 2 = .ok (.invokevirtual 55, 3) := by decide +kernel
theorem dX6_propose_5 : decode cX6_propose 5 = .ok (.ifCond .eq 14, 3) := by decide +kernel
theorem dX6_propose_8 : decode cX6_propose 8 = .ok (.iload_n 2, 1) := by decide +kernel
theorem dX6_propose_9 : decode cX6_propose 9 = .ok (.iconst 0, 1) := by decide +kernel
theorem dX6_propose_10 : decode cX6_propose 10 = .ok (.sipush 999, 3) := by decide +kernel
theorem dX6_propose_13 : decode cX6_propose 13 = .ok (.invokestatic 58, 3) := by decide +kernel
theorem dX6_propose_16 : decode cX6_propose 16 = .ok (.ifCond .ne 5, 3) := by decide +kernel
theorem dX6_propose_19 : decode cX6_propose 19 = .ok (.iconst (-1), 1) := by decide +kernel
theorem dX6_propose_20 : decode cX6_propose 20 = .ok (.ireturn, 1) := by decide +kernel
theorem dX6_propose_21 : decode cX6_propose 21 = .ok (.aload_n 0, 1) := by decide +kernel
theorem dX6_propose_22 : decode cX6_propose 22 = .ok (.iload_n 1, 1) := by decide +kernel
theorem dX6_propose_23 : decode cX6_propose 23 = .ok (.invokevirtual 84, 3) := by decide +kernel
theorem dX6_propose_26 : decode cX6_propose 26 = .ok (.ifCond .ne 6, 3) := by decide +kernel
theorem dX6_propose_29 : decode cX6_propose 29 = .ok (.bipush (-2), 2) := by decide +kernel
theorem dX6_propose_31 : decode cX6_propose 31 = .ok (.ireturn, 1) := by decide +kernel
theorem dX6_propose_32 : decode cX6_propose 32 = .ok (.aload_n 0, 1) := by decide +kernel
theorem dX6_propose_33 : decode cX6_propose 33 = .ok (.getfield 7, 3) := by decide +kernel
theorem dX6_propose_36 : decode cX6_propose 36 = .ok (.iconst 3, 1) := by decide +kernel
theorem dX6_propose_37 : decode cX6_propose 37 = .ok (.iaload, 1) := by decide +kernel
theorem dX6_propose_38 : decode cX6_propose 38 = .ok (.bipush 60, 2) := by decide +kernel
theorem dX6_propose_40 : decode cX6_propose 40 = .ok (.if_icmp .ne 6, 3) := by decide +kernel
theorem dX6_propose_43 : decode cX6_propose 43 = .ok (.bipush (-3), 2) := by decide +kernel
theorem dX6_propose_45 : decode cX6_propose 45 = .ok (.ireturn, 1) := by decide +kernel
theorem dX6_propose_46 : decode cX6_propose 46 = .ok (.aload_n 0, 1) := by decide +kernel
theorem dX6_propose_47 : decode cX6_propose 47 = .ok (.invokevirtual 52, 3) := by decide +kernel
theorem dX6_propose_50 : decode cX6_propose 50 = .ok (.aload_n 0, 1) := by decide +kernel
theorem dX6_propose_51 : decode cX6_propose 51 = .ok (.iload_n 1, 1) := by decide +kernel
theorem dX6_propose_52 : decode cX6_propose 52 = .ok (.iload_n 2, 1) := by decide +kernel
theorem dX6_propose_53 : decode cX6_propose 53 = .ok (.invokevirtual 94, 3) := by decide +kernel
theorem dX6_propose_56 : decode cX6_propose 56 = .ok (.istore_n 3, 1) := by decide +kernel
theorem dX6_propose_57 : decode cX6_propose 57 = .ok (.aload_n 0, 1) := by decide +kernel
theorem dX6_propose_58 : decode cX6_propose 58 = .ok (.invokevirtual 97, 3) := by decide +kernel
theorem dX6_propose_61 : decode cX6_propose 61 = .ok (.ifCond .ge 8, 3) := by decide +kernel
theorem dX6_propose_64 : decode cX6_propose 64 = .ok (.bipush (-9), 2) := by decide +kernel
theorem dX6_propose_66 : decode cX6_propose 66 = .ok (.goto 4, 3) := by decide +kernel
theorem dX6_propose_69 : decode cX6_propose 69 = .ok (.iload_n 3, 1) := by decide +kernel
theorem dX6_propose_70 : decode cX6_propose 70 = .ok (.ireturn, 1) := by decide +kernel
set_option maxRecDepth 20000 in
theorem ggX6_second_X6_isVillager : GoodIn wsX6_second wsX6_isVillager := goodIn_r _ [6, 1, 54, 55, 56, 57, 58, 59, 60, 61, 62] (by decide +kernel) (by decide +kernel)
set_option maxRecDepth 20000 in
theorem gX6_second_X6_isVillager : GoodIn wsX6_second (wsV RX6 55 RX6 yX6_isVillager wsX6_isVillager) := goodIn_app (goodIn_of _ (by decide +kernel)) ggX6_second_X6_isVillager
set_option maxRecDepth 20000 in
theorem ggX6_second_X6_isEntry : GoodIn wsX6_second wsX6_isEntry := goodIn_r _ [10, 1, 54, 55, 56, 57, 58, 59, 60, 61, 62] (by decide +kernel) (by decide +kernel)
set_option maxRecDepth 20000 in
theorem gX6_second_X6_isEntry : GoodIn wsX6_second (wsV RX6 100 RX6 yX6_isEntry wsX6_isEntry) := goodIn_app (goodIn_of _ (by decide +kernel)) ggX6_second_X6_isEntry
set_option maxRecDepth 20000 in
theorem ggX6_second_X6_isElder : GoodIn wsX6_second wsX6_isElder := goodIn_r _ [14, 15, 16, 17, 5, 18, 1, 19, 20, 21, 22, 23, 24, 25, 26, 54, 55, 56, 57, 58, 59, 60, 61, 62] (by decide +kernel) (by decide +kernel)
set_option maxRecDepth 20000 in
theorem gX6_second_X6_isElder : GoodIn wsX6_second (wsV RX6 72 RX6 yX6_isElder wsX6_isElder) := goodIn_app (goodIn_of _ (by decide +kernel)) ggX6_second_X6_isElder
set_option maxRecDepth 20000 in
theorem ggX6_second_X6_isPresent : GoodIn wsX6_second wsX6_isPresent := goodIn_r _ [30, 1, 54, 55, 56, 57, 58, 59, 60, 61, 62] (by decide +kernel) (by decide +kernel)
set_option maxRecDepth 20000 in
theorem gX6_second_X6_isPresent : GoodIn wsX6_second (wsV RX6 75 RX6 yX6_isPresent wsX6_isPresent) := goodIn_app (goodIn_of _ (by decide +kernel)) ggX6_second_X6_isPresent
set_option maxRecDepth 20000 in
theorem ggX6_second_X6_acts : GoodIn wsX6_second wsX6_acts := goodIn_r _ [34, 35, 36, 37, 1, 54, 55, 56, 57, 58, 59, 60, 61, 62] (by decide +kernel) (by decide +kernel)
set_option maxRecDepth 20000 in
theorem gX6_second_X6_acts : GoodIn wsX6_second (wsV RX6 52 RX6 yX6_acts wsX6_acts) := goodIn_app (goodIn_of _ (by decide +kernel)) ggX6_second_X6_acts
set_option maxRecDepth 20000 in
theorem ggX6_second_X6_agrees : GoodIn wsX6_second wsX6_agrees := goodIn_r _ [41, 1, 42, 43, 44, 5, 45, 46, 47, 48, 49, 19, 20, 21, 22, 23, 24, 25, 26, 50, 51, 52, 53, 54, 55, 56, 57, 58, 59, 60, 61, 62] (by decide +kernel) (by decide +kernel)
set_option maxRecDepth 20000 in
theorem gX6_second_X6_agrees : GoodIn wsX6_second (wsV RX6 97 RX6 yX6_agrees wsX6_agrees) := goodIn_app (goodIn_of _ (by decide +kernel)) ggX6_second_X6_agrees
theorem dX6_second_0 : decode cX6_second 0 = .ok (.aload_n 0, 1) := by decide +kernel
theorem dX6_second_1 : decode cX6_second 1 = .ok (.iload_n 1, 1) := by decide +kernel
theorem dX6_second_2 : decode cX6_second 2 = .ok (.invokevirtual 55, 3) := by decide +kernel
theorem dX6_second_5 : decode cX6_second 5 = .ok (.ifCond .eq 11, 3) := by decide +kernel
theorem dX6_second_8 : decode cX6_second 8 = .ok (.aload_n 0, 1) := by decide +kernel
theorem dX6_second_9 : decode cX6_second 9 = .ok (.iload_n 2, 1) := by decide +kernel
theorem dX6_second_10 : decode cX6_second 10 = .ok (.invokevirtual 100, 3) := by decide +kernel
theorem dX6_second_13 : decode cX6_second 13 = .ok (.ifCond .ne 5, 3) := by decide +kernel
theorem dX6_second_16 : decode cX6_second 16 = .ok (.iconst (-1), 1) := by decide +kernel
theorem dX6_second_17 : decode cX6_second 17 = .ok (.ireturn, 1) := by decide +kernel
theorem dX6_second_18 : decode cX6_second 18 = .ok (.aload_n 0, 1) := by decide +kernel
theorem dX6_second_19 : decode cX6_second 19 = .ok (.iload_n 1, 1) := by decide +kernel
theorem dX6_second_20 : decode cX6_second 20 = .ok (.invokevirtual 72, 3) := by decide +kernel
theorem dX6_second_23 : decode cX6_second 23 = .ok (.ifCond .eq 24, 3) := by decide +kernel
theorem dX6_second_26 : decode cX6_second 26 = .ok (.aload_n 0, 1) := by decide +kernel
theorem dX6_second_27 : decode cX6_second 27 = .ok (.iload_n 1, 1) := by decide +kernel
theorem dX6_second_28 : decode cX6_second 28 = .ok (.invokevirtual 75, 3) := by decide +kernel
theorem dX6_second_31 : decode cX6_second 31 = .ok (.ifCond .eq 16, 3) := by decide +kernel
theorem dX6_second_34 : decode cX6_second 34 = .ok (.aload_n 0, 1) := by decide +kernel
theorem dX6_second_35 : decode cX6_second 35 = .ok (.getfield 7, 3) := by decide +kernel
theorem dX6_second_38 : decode cX6_second 38 = .ok (.bipush 20, 2) := by decide +kernel
theorem dX6_second_40 : decode cX6_second 40 = .ok (.iload_n 1, 1) := by decide +kernel
theorem dX6_second_41 : decode cX6_second 41 = .ok (.iadd, 1) := by decide +kernel
theorem dX6_second_42 : decode cX6_second 42 = .ok (.iaload, 1) := by decide +kernel
theorem dX6_second_43 : decode cX6_second 43 = .ok (.iload_n 2, 1) := by decide +kernel
theorem dX6_second_44 : decode cX6_second 44 = .ok (.if_icmp .eq 6, 3) := by decide +kernel
theorem dX6_second_47 : decode cX6_second 47 = .ok (.bipush (-2), 2) := by decide +kernel
theorem dX6_second_49 : decode cX6_second 49 = .ok (.ireturn, 1) := by decide +kernel
theorem dX6_second_50 : decode cX6_second 50 = .ok (.aload_n 0, 1) := by decide +kernel
theorem dX6_second_51 : decode cX6_second 51 = .ok (.invokevirtual 52, 3) := by decide +kernel
theorem dX6_second_54 : decode cX6_second 54 = .ok (.aload_n 0, 1) := by decide +kernel
theorem dX6_second_55 : decode cX6_second 55 = .ok (.getfield 7, 3) := by decide +kernel
theorem dX6_second_58 : decode cX6_second 58 = .ok (.bipush 20, 2) := by decide +kernel
theorem dX6_second_60 : decode cX6_second 60 = .ok (.iload_n 1, 1) := by decide +kernel
theorem dX6_second_61 : decode cX6_second 61 = .ok (.iadd, 1) := by decide +kernel
theorem dX6_second_62 : decode cX6_second 62 = .ok (.dup2, 1) := by decide +kernel
theorem dX6_second_63 : decode cX6_second 63 = .ok (.iaload, 1) := by decide +kernel
theorem dX6_second_64 : decode cX6_second 64 = .ok (.iconst 1, 1) := by decide +kernel
theorem dX6_second_65 : decode cX6_second 65 = .ok (.iadd, 1) := by decide +kernel
theorem dX6_second_66 : decode cX6_second 66 = .ok (.iastore, 1) := by decide +kernel
theorem dX6_second_67 : decode cX6_second 67 = .ok (.aload_n 0, 1) := by decide +kernel
theorem dX6_second_68 : decode cX6_second 68 = .ok (.invokevirtual 97, 3) := by decide +kernel
theorem dX6_second_71 : decode cX6_second 71 = .ok (.ireturn, 1) := by decide +kernel
set_option maxRecDepth 20000 in
theorem ggX6_learn_X6_isVillager : GoodIn wsX6_learn wsX6_isVillager := goodIn_r _ [6, 1, 18, 19, 20, 21, 22, 23, 24, 25, 26] (by decide +kernel) (by decide +kernel)
set_option maxRecDepth 20000 in
theorem gX6_learn_X6_isVillager : GoodIn wsX6_learn (wsV RX6 55 RX6 yX6_isVillager wsX6_isVillager) := goodIn_app (goodIn_of _ (by decide +kernel)) ggX6_learn_X6_isVillager
set_option maxRecDepth 20000 in
theorem ggX6_learn_X6_isPresent : GoodIn wsX6_learn wsX6_isPresent := goodIn_r _ [10, 1, 18, 19, 20, 21, 22, 23, 24, 25, 26] (by decide +kernel) (by decide +kernel)
set_option maxRecDepth 20000 in
theorem gX6_learn_X6_isPresent : GoodIn wsX6_learn (wsV RX6 75 RX6 yX6_isPresent wsX6_isPresent) := goodIn_app (goodIn_of _ (by decide +kernel)) ggX6_learn_X6_isPresent
set_option maxRecDepth 20000 in
theorem ggX6_learn_X6_acts : GoodIn wsX6_learn wsX6_acts := goodIn_r _ [14, 15, 16, 17, 1, 18, 19, 20, 21, 22, 23, 24, 25, 26] (by decide +kernel) (by decide +kernel)
set_option maxRecDepth 20000 in
theorem gX6_learn_X6_acts : GoodIn wsX6_learn (wsV RX6 52 RX6 yX6_acts wsX6_acts) := goodIn_app (goodIn_of _ (by decide +kernel)) ggX6_learn_X6_acts
theorem dX6_learn_0 : decode cX6_learn 0 = .ok (.aload_n 0, 1) := by decide +kernel
theorem dX6_learn_1 : decode cX6_learn 1 = .ok (.iload_n 1, 1) := by decide +kernel
theorem dX6_learn_2 : decode cX6_learn 2 = .ok (.invokevirtual 55, 3) := by decide +kernel
theorem dX6_learn_5 : decode cX6_learn 5 = .ok (.ifCond .ne 5, 3) := by decide +kernel
theorem dX6_learn_8 : decode cX6_learn 8 = .ok (.iconst (-1), 1) := by decide +kernel
theorem dX6_learn_9 : decode cX6_learn 9 = .ok (.ireturn, 1) := by decide +kernel
theorem dX6_learn_10 : decode cX6_learn 10 = .ok (.aload_n 0, 1) := by decide +kernel
theorem dX6_learn_11 : decode cX6_learn 11 = .ok (.iload_n 1, 1) := by decide +kernel
theorem dX6_learn_12 : decode cX6_learn 12 = .ok (.invokevirtual 75, 3) := by decide +kernel
theorem dX6_learn_15 : decode cX6_learn 15 = .ok (.ifCond .ne 6, 3) := by decide +kernel
theorem dX6_learn_18 : decode cX6_learn 18 = .ok (.bipush (-2), 2) := by decide +kernel
theorem dX6_learn_20 : decode cX6_learn 20 = .ok (.ireturn, 1) := by decide +kernel
theorem dX6_learn_21 : decode cX6_learn 21 = .ok (.aload_n 0, 1) := by decide +kernel
theorem dX6_learn_22 : decode cX6_learn 22 = .ok (.invokevirtual 52, 3) := by decide +kernel
theorem dX6_learn_25 : decode cX6_learn 25 = .ok (.aload_n 0, 1) := by decide +kernel
theorem dX6_learn_26 : decode cX6_learn 26 = .ok (.getfield 7, 3) := by decide +kernel
theorem dX6_learn_29 : decode cX6_learn 29 = .ok (.iconst 4, 1) := by decide +kernel
theorem dX6_learn_30 : decode cX6_learn 30 = .ok (.iaload, 1) := by decide +kernel
theorem dX6_learn_31 : decode cX6_learn 31 = .ok (.aload_n 0, 1) := by decide +kernel
theorem dX6_learn_32 : decode cX6_learn 32 = .ok (.getfield 7, 3) := by decide +kernel
theorem dX6_learn_35 : decode cX6_learn 35 = .ok (.bipush 20, 2) := by decide +kernel
theorem dX6_learn_37 : decode cX6_learn 37 = .ok (.iload_n 1, 1) := by decide +kernel
theorem dX6_learn_38 : decode cX6_learn 38 = .ok (.iadd, 1) := by decide +kernel
theorem dX6_learn_39 : decode cX6_learn 39 = .ok (.iaload, 1) := by decide +kernel
theorem dX6_learn_40 : decode cX6_learn 40 = .ok (.isub, 1) := by decide +kernel
theorem dX6_learn_41 : decode cX6_learn 41 = .ok (.istore_n 2, 1) := by decide +kernel
theorem dX6_learn_42 : decode cX6_learn 42 = .ok (.iload_n 2, 1) := by decide +kernel
theorem dX6_learn_43 : decode cX6_learn 43 = .ok (.ifCond .ge 7, 3) := by decide +kernel
theorem dX6_learn_46 : decode cX6_learn 46 = .ok (.iconst 0, 1) := by decide +kernel
theorem dX6_learn_47 : decode cX6_learn 47 = .ok (.goto 4, 3) := by decide +kernel
theorem dX6_learn_50 : decode cX6_learn 50 = .ok (.iload_n 2, 1) := by decide +kernel
theorem dX6_learn_51 : decode cX6_learn 51 = .ok (.istore_n 2, 1) := by decide +kernel
theorem dX6_learn_52 : decode cX6_learn 52 = .ok (.aload_n 0, 1) := by decide +kernel
theorem dX6_learn_53 : decode cX6_learn 53 = .ok (.getfield 7, 3) := by decide +kernel
theorem dX6_learn_56 : decode cX6_learn 56 = .ok (.bipush 20, 2) := by decide +kernel
theorem dX6_learn_58 : decode cX6_learn 58 = .ok (.iload_n 1, 1) := by decide +kernel
theorem dX6_learn_59 : decode cX6_learn 59 = .ok (.iadd, 1) := by decide +kernel
theorem dX6_learn_60 : decode cX6_learn 60 = .ok (.dup2, 1) := by decide +kernel
theorem dX6_learn_61 : decode cX6_learn 61 = .ok (.iaload, 1) := by decide +kernel
theorem dX6_learn_62 : decode cX6_learn 62 = .ok (.iload_n 2, 1) := by decide +kernel
theorem dX6_learn_63 : decode cX6_learn 63 = .ok (.iadd, 1) := by decide +kernel
theorem dX6_learn_64 : decode cX6_learn 64 = .ok (.iastore, 1) := by decide +kernel
theorem dX6_learn_65 : decode cX6_learn 65 = .ok (.iload_n 2, 1) := by decide +kernel
theorem dX6_learn_66 : decode cX6_learn 66 = .ok (.ireturn, 1) := by decide +kernel
theorem dX6_undo_0 : decode cX6_undo 0 = .ok (.aload_n 0, 1) := by decide +kernel
theorem dX6_undo_1 : decode cX6_undo 1 = .ok (.getfield 26, 3) := by decide +kernel
theorem dX6_undo_4 : decode cX6_undo 4 = .ok (.ifCond .ne 6, 3) := by decide +kernel
theorem dX6_undo_7 : decode cX6_undo 7 = .ok (.bipush (-2), 2) := by decide +kernel
theorem dX6_undo_9 : decode cX6_undo 9 = .ok (.ireturn, 1) := by decide +kernel
theorem dX6_undo_10 : decode cX6_undo 10 = .ok (.aload_n 0, 1) := by decide +kernel
theorem dX6_undo_11 : decode cX6_undo 11 = .ok (.dup, 1) := by decide +kernel
theorem dX6_undo_12 : decode cX6_undo 12 = .ok (.getfield 26, 3) := by decide +kernel
theorem dX6_undo_15 : decode cX6_undo 15 = .ok (.iconst 1, 1) := by decide +kernel
theorem dX6_undo_16 : decode cX6_undo 16 = .ok (.isub, 1) := by decide +kernel
theorem dX6_undo_17 : decode cX6_undo 17 = .ok (.putfield 26, 3) := by decide +kernel
theorem dX6_undo_20 : decode cX6_undo 20 = .ok (.iconst 0, 1) := by decide +kernel
theorem dX6_undo_21 : decode cX6_undo 21 = .ok (.istore_n 1, 1) := by decide +kernel
theorem dX6_undo_22 : decode cX6_undo 22 = .ok (.iload_n 1, 1) := by decide +kernel
theorem dX6_undo_23 : decode cX6_undo 23 = .ok (.sipush 522, 3) := by decide +kernel
theorem dX6_undo_26 : decode cX6_undo 26 = .ok (.if_icmp .ge 30, 3) := by decide +kernel
theorem dX6_undo_29 : decode cX6_undo 29 = .ok (.aload_n 0, 1) := by decide +kernel
theorem dX6_undo_30 : decode cX6_undo 30 = .ok (.getfield 7, 3) := by decide +kernel
theorem dX6_undo_33 : decode cX6_undo 33 = .ok (.iload_n 1, 1) := by decide +kernel
theorem dX6_undo_34 : decode cX6_undo 34 = .ok (.aload_n 0, 1) := by decide +kernel
theorem dX6_undo_35 : decode cX6_undo 35 = .ok (.getfield 13, 3) := by decide +kernel
theorem dX6_undo_38 : decode cX6_undo 38 = .ok (.sipush 522, 3) := by decide +kernel
theorem dX6_undo_41 : decode cX6_undo 41 = .ok (.aload_n 0, 1) := by decide +kernel
theorem dX6_undo_42 : decode cX6_undo 42 = .ok (.getfield 26, 3) := by decide +kernel
theorem dX6_undo_45 : decode cX6_undo 45 = .ok (.imul, 1) := by decide +kernel
theorem dX6_undo_46 : decode cX6_undo 46 = .ok (.iload_n 1, 1) := by decide +kernel
theorem dX6_undo_47 : decode cX6_undo 47 = .ok (.iadd, 1) := by decide +kernel
theorem dX6_undo_48 : decode cX6_undo 48 = .ok (.iaload, 1) := by decide +kernel
theorem dX6_undo_49 : decode cX6_undo 49 = .ok (.iastore, 1) := by decide +kernel
theorem dX6_undo_50 : decode cX6_undo 50 = .ok (.iinc 1 1, 3) := by decide +kernel
theorem dX6_undo_53 : decode cX6_undo 53 = .ok (.goto (-31), 3) := by decide +kernel
theorem dX6_undo_56 : decode cX6_undo 56 = .ok (.aload_n 0, 1) := by decide +kernel
theorem dX6_undo_57 : decode cX6_undo 57 = .ok (.getfield 26, 3) := by decide +kernel
theorem dX6_undo_60 : decode cX6_undo 60 = .ok (.ireturn, 1) := by decide +kernel
set_option maxRecDepth 20000 in
theorem ggX6_append_X6_in : GoodIn wsX6_append wsX6_in := goodIn_r _ [6] (by decide +kernel) (by decide +kernel)
set_option maxRecDepth 20000 in
theorem gX6_append_X6_in : GoodIn wsX6_append (va_wsS RX6 58 yX6_in wsX6_in) := goodIn_app (goodIn_of _ (by decide +kernel)) ggX6_append_X6_in
theorem dX6_append_0 : decode cX6_append 0 = .ok (.iload_n 1, 1) := by decide +kernel
theorem dX6_append_1 : decode cX6_append 1 = .ok (.iconst 1, 1) := by decide +kernel
theorem dX6_append_2 : decode cX6_append 2 = .ok (.sipush 255, 3) := by decide +kernel
theorem dX6_append_5 : decode cX6_append 5 = .ok (.invokestatic 58, 3) := by decide +kernel
theorem dX6_append_8 : decode cX6_append 8 = .ok (.ifCond .ne 5, 3) := by decide +kernel
theorem dX6_append_11 : decode cX6_append 11 = .ok (.iconst (-1), 1) := by decide +kernel
theorem dX6_append_12 : decode cX6_append 12 = .ok (.ireturn, 1) := by decide +kernel
theorem dX6_append_13 : decode cX6_append 13 = .ok (.aload_n 0, 1) := by decide +kernel
theorem dX6_append_14 : decode cX6_append 14 = .ok (.getfield 103, 3) := by decide +kernel
theorem dX6_append_17 : decode cX6_append 17 = .ok (.bipush 60, 2) := by decide +kernel
theorem dX6_append_19 : decode cX6_append 19 = .ok (.if_icmp .ne 6, 3) := by decide +kernel
theorem dX6_append_22 : decode cX6_append 22 = .ok (.bipush (-3), 2) := by decide +kernel
theorem dX6_append_24 : decode cX6_append 24 = .ok (.ireturn, 1) := by decide +kernel
theorem dX6_append_25 : decode cX6_append 25 = .ok (.aload_n 0, 1) := by decide +kernel
theorem dX6_append_26 : decode cX6_append 26 = .ok (.getfield 19, 3) := by decide +kernel
theorem dX6_append_29 : decode cX6_append 29 = .ok (.aload_n 0, 1) := by decide +kernel
theorem dX6_append_30 : decode cX6_append 30 = .ok (.getfield 103, 3) := by decide +kernel
theorem dX6_append_33 : decode cX6_append 33 = .ok (.iload_n 1, 1) := by decide +kernel
theorem dX6_append_34 : decode cX6_append 34 = .ok (.iastore, 1) := by decide +kernel
theorem dX6_append_35 : decode cX6_append 35 = .ok (.aload_n 0, 1) := by decide +kernel
theorem dX6_append_36 : decode cX6_append 36 = .ok (.dup, 1) := by decide +kernel
theorem dX6_append_37 : decode cX6_append 37 = .ok (.getfield 103, 3) := by decide +kernel
theorem dX6_append_40 : decode cX6_append 40 = .ok (.iconst 1, 1) := by decide +kernel
theorem dX6_append_41 : decode cX6_append 41 = .ok (.iadd, 1) := by decide +kernel
theorem dX6_append_42 : decode cX6_append 42 = .ok (.putfield 103, 3) := by decide +kernel
theorem dX6_append_45 : decode cX6_append 45 = .ok (.aload_n 0, 1) := by decide +kernel
theorem dX6_append_46 : decode cX6_append 46 = .ok (.getfield 103, 3) := by decide +kernel
theorem dX6_append_49 : decode cX6_append 49 = .ok (.ireturn, 1) := by decide +kernel
theorem dX6_clearText_0 : decode cX6_clearText 0 = .ok (.aload_n 0, 1) := by decide +kernel
theorem dX6_clearText_1 : decode cX6_clearText 1 = .ok (.getfield 103, 3) := by decide +kernel
theorem dX6_clearText_4 : decode cX6_clearText 4 = .ok (.istore_n 1, 1) := by decide +kernel
theorem dX6_clearText_5 : decode cX6_clearText 5 = .ok (.aload_n 0, 1) := by decide +kernel
theorem dX6_clearText_6 : decode cX6_clearText 6 = .ok (.iconst 0, 1) := by decide +kernel
theorem dX6_clearText_7 : decode cX6_clearText 7 = .ok (.putfield 103, 3) := by decide +kernel
theorem dX6_clearText_10 : decode cX6_clearText 10 = .ok (.iload_n 1, 1) := by decide +kernel
theorem dX6_clearText_11 : decode cX6_clearText 11 = .ok (.ireturn, 1) := by decide +kernel
set_option maxRecDepth 20000 in
theorem ggX6_isAt_X6_in : GoodIn wsX6_isAt wsX6_in := goodIn_r _ [7] (by decide +kernel) (by decide +kernel)
set_option maxRecDepth 20000 in
theorem gX6_isAt_X6_in : GoodIn wsX6_isAt (va_wsS RX6 58 yX6_in wsX6_in) := goodIn_app (goodIn_of _ (by decide +kernel)) ggX6_isAt_X6_in
theorem dX6_isAt_0 : decode cX6_isAt 0 = .ok (.aload_n 0, 1) := by decide +kernel
theorem dX6_isAt_1 : decode cX6_isAt 1 = .ok (.getfield 106, 3) := by decide +kernel
theorem dX6_isAt_4 : decode cX6_isAt 4 = .ok (.aload_n 0, 1) := by decide +kernel
theorem dX6_isAt_5 : decode cX6_isAt 5 = .ok (.getfield 103, 3) := by decide +kernel
theorem dX6_isAt_8 : decode cX6_isAt 8 = .ok (.if_icmp .ge 24, 3) := by decide +kernel
theorem dX6_isAt_11 : decode cX6_isAt 11 = .ok (.aload_n 0, 1) := by decide +kernel
theorem dX6_isAt_12 : decode cX6_isAt 12 = .ok (.getfield 19, 3) := by decide +kernel
theorem dX6_isAt_15 : decode cX6_isAt 15 = .ok (.aload_n 0, 1) := by decide +kernel
theorem dX6_isAt_16 : decode cX6_isAt 16 = .ok (.getfield 106, 3) := by decide +kernel
theorem dX6_isAt_19 : decode cX6_isAt 19 = .ok (.iaload, 1) := by decide +kernel
theorem dX6_isAt_20 : decode cX6_isAt 20 = .ok (.iload_n 1, 1) := by decide +kernel
theorem dX6_isAt_21 : decode cX6_isAt 21 = .ok (.iload_n 2, 1) := by decide +kernel
theorem dX6_isAt_22 : decode cX6_isAt 22 = .ok (.invokestatic 58, 3) := by decide +kernel
theorem dX6_isAt_25 : decode cX6_isAt 25 = .ok (.ifCond .eq 7, 3) := by decide +kernel
theorem dX6_isAt_28 : decode cX6_isAt 28 = .ok (.iconst 1, 1) := by decide +kernel
theorem dX6_isAt_29 : decode cX6_isAt 29 = .ok (.goto 4, 3) := by decide +kernel
theorem dX6_isAt_32 : decode cX6_isAt 32 = .ok (.iconst 0, 1) := by decide +kernel
theorem dX6_isAt_33 : decode cX6_isAt 33 = .ok (.ireturn, 1) := by decide +kernel
set_option maxRecDepth 20000 in
theorem ggX6_number_X6_isAt : GoodIn wsX6_number wsX6_isAt := goodIn_r _ [8, 1, 9, 3, 10, 11, 7, 12, 13, 14, 15, 16, 17, 18, 19, 20, 21] (by decide +kernel) (by decide +kernel)
set_option maxRecDepth 20000 in
theorem gX6_number_X6_isAt : GoodIn wsX6_number (wsV RX6 112 RX6 yX6_isAt wsX6_isAt) := goodIn_app (goodIn_of _ (by decide +kernel)) ggX6_number_X6_isAt
theorem dX6_number_0 : decode cX6_number 0 = .ok (.aload_n 0, 1) := by decide +kernel
theorem dX6_number_1 : decode cX6_number 1 = .ok (.getfield 106, 3) := by decide +kernel
theorem dX6_number_4 : decode cX6_number 4 = .ok (.istore_n 2, 1) := by decide +kernel
theorem dX6_number_5 : decode cX6_number 5 = .ok (.aload_n 0, 1) := by decide +kernel
theorem dX6_number_6 : decode cX6_number 6 = .ok (.iconst 0, 1) := by decide +kernel
theorem dX6_number_7 : decode cX6_number 7 = .ok (.putfield 109, 3) := by decide +kernel
theorem dX6_number_10 : decode cX6_number 10 = .ok (.aload_n 0, 1) := by decide +kernel
theorem dX6_number_11 : decode cX6_number 11 = .ok (.bipush 48, 2) := by decide +kernel
theorem dX6_number_13 : decode cX6_number 13 = .ok (.bipush 57, 2) := by decide +kernel
theorem dX6_number_15 : decode cX6_number 15 = .ok (.invokevirtual 112, 3) := by decide +kernel
theorem dX6_number_18 : decode cX6_number 18 = .ok (.ifCond .eq 65, 3) := by decide +kernel
theorem dX6_number_21 : decode cX6_number 21 = .ok (.aload_n 0, 1) := by decide +kernel
theorem dX6_number_22 : decode cX6_number 22 = .ok (.getfield 106, 3) := by decide +kernel
theorem dX6_number_25 : decode cX6_number 25 = .ok (.iload_n 2, 1) := by decide +kernel
theorem dX6_number_26 : decode cX6_number 26 = .ok (.isub, 1) := by decide +kernel
theorem dX6_number_27 : decode cX6_number 27 = .ok (.iconst 3, 1) := by decide +kernel
theorem dX6_number_28 : decode cX6_number 28 = .ok (.if_icmp .ge 55, 3) := by decide +kernel
theorem dX6_number_31 : decode cX6_number 31 = .ok (.aload_n 0, 1) := by decide +kernel
theorem dX6_number_32 : decode cX6_number 32 = .ok (.getfield 106, 3) := by decide +kernel
theorem dX6_number_35 : decode cX6_number 35 = .ok (.iload_n 2, 1) := by decide +kernel
theorem dX6_number_36 : decode cX6_number 36 = .ok (.if_icmp .eq 10, 3) := by decide +kernel
theorem dX6_number_39 : decode cX6_number 39 = .ok (.aload_n 0, 1) := by decide +kernel
theorem dX6_number_40 : decode cX6_number 40 = .ok (.getfield 109, 3) := by decide +kernel
theorem dX6_number_43 : decode cX6_number 43 = .ok (.ifCond .le 40, 3) := by decide +kernel
theorem dX6_number_46 : decode cX6_number 46 = .ok (.aload_n 0, 1) := by decide +kernel
theorem dX6_number_47 : decode cX6_number 47 = .ok (.bipush 10, 2) := by decide +kernel
theorem dX6_number_49 : decode cX6_number 49 = .ok (.aload_n 0, 1) := by decide +kernel
theorem dX6_number_50 : decode cX6_number 50 = .ok (.getfield 109, 3) := by decide +kernel
theorem dX6_number_53 : decode cX6_number 53 = .ok (.imul, 1) := by decide +kernel
theorem dX6_number_54 : decode cX6_number 54 = .ok (.aload_n 0, 1) := by decide +kernel
theorem dX6_number_55 : decode cX6_number 55 = .ok (.getfield 19, 3) := by decide +kernel
theorem dX6_number_58 : decode cX6_number 58 = .ok (.aload_n 0, 1) := by decide +kernel
theorem dX6_number_59 : decode cX6_number 59 = .ok (.getfield 106, 3) := by decide +kernel
theorem dX6_number_62 : decode cX6_number 62 = .ok (.iaload, 1) := by decide +kernel
theorem dX6_number_63 : decode cX6_number 63 = .ok (.iadd, 1) := by decide +kernel
theorem dX6_number_64 : decode cX6_number 64 = .ok (.bipush 48, 2) := by decide +kernel
theorem dX6_number_66 : decode cX6_number 66 = .ok (.isub, 1) := by decide +kernel
theorem dX6_number_67 : decode cX6_number 67 = .ok (.putfield 109, 3) := by decide +kernel
theorem dX6_number_70 : decode cX6_number 70 = .ok (.aload_n 0, 1) := by decide +kernel
theorem dX6_number_71 : decode cX6_number 71 = .ok (.dup, 1) := by decide +kernel
theorem dX6_number_72 : decode cX6_number 72 = .ok (.getfield 106, 3) := by decide +kernel
theorem dX6_number_75 : decode cX6_number 75 = .ok (.iconst 1, 1) := by decide +kernel
theorem dX6_number_76 : decode cX6_number 76 = .ok (.iadd, 1) := by decide +kernel
theorem dX6_number_77 : decode cX6_number 77 = .ok (.putfield 106, 3) := by decide +kernel
theorem dX6_number_80 : decode cX6_number 80 = .ok (.goto (-70), 3) := by decide +kernel
theorem dX6_number_83 : decode cX6_number 83 = .ok (.aload_n 0, 1) := by decide +kernel
theorem dX6_number_84 : decode cX6_number 84 = .ok (.getfield 106, 3) := by decide +kernel
theorem dX6_number_87 : decode cX6_number 87 = .ok (.iload_n 2, 1) := by decide +kernel
theorem dX6_number_88 : decode cX6_number 88 = .ok (.if_icmp .eq 12, 3) := by decide +kernel
theorem dX6_number_91 : decode cX6_number 91 = .ok (.aload_n 0, 1) := by decide +kernel
theorem dX6_number_92 : decode cX6_number 92 = .ok (.iload_n 1, 1) := by decide +kernel
theorem dX6_number_93 : decode cX6_number 93 = .ok (.iload_n 1, 1) := by decide +kernel
theorem dX6_number_94 : decode cX6_number 94 = .ok (.invokevirtual 112, 3) := by decide +kernel
theorem dX6_number_97 : decode cX6_number 97 = .ok (.ifCond .ne 5, 3) := by decide +kernel
theorem dX6_number_100 : decode cX6_number 100 = .ok (.iconst 0, 1) := by decide +kernel
theorem dX6_number_101 : decode cX6_number 101 = .ok (.ireturn, 1) := by decide +kernel
theorem dX6_number_102 : decode cX6_number 102 = .ok (.aload_n 0, 1) := by decide +kernel
theorem dX6_number_103 : decode cX6_number 103 = .ok (.dup, 1) := by decide +kernel
theorem dX6_number_104 : decode cX6_number 104 = .ok (.getfield 106, 3) := by decide +kernel
theorem dX6_number_107 : decode cX6_number 107 = .ok (.iconst 1, 1) := by decide +kernel
theorem dX6_number_108 : decode cX6_number 108 = .ok (.iadd, 1) := by decide +kernel
theorem dX6_number_109 : decode cX6_number 109 = .ok (.putfield 106, 3) := by decide +kernel
theorem dX6_number_112 : decode cX6_number 112 = .ok (.iconst 1, 1) := by decide +kernel
theorem dX6_number_113 : decode cX6_number 113 = .ok (.ireturn, 1) := by decide +kernel
set_option maxRecDepth 20000 in
theorem ggX6_doesOne_X6_number : GoodIn wsX6_doesOne wsX6_number := goodIn_r _ [8, 1, 3, 2, 9, 10, 11, 7, 12, 13, 14, 15, 16, 97, 98, 99, 100, 101, 102, 103, 104, 105] (by decide +kernel) (by decide +kernel)
set_option maxRecDepth 20000 in
theorem gX6_doesOne_X6_number : GoodIn wsX6_doesOne (wsV RX6 116 RX6 yX6_number wsX6_number) := goodIn_app (goodIn_of _ (by decide +kernel)) ggX6_doesOne_X6_number
set_option maxRecDepth 20000 in
theorem ggX6_doesOne_X6_propose : GoodIn wsX6_doesOne wsX6_propose := goodIn_r _ [20, 21, 22, 23, 24, 7, 25, 14, 15, 16, 26, 27, 28, 29, 30, 31, 32, 33, 34, 35, 36, 37, 38, 39, 40, 41, 42, 43, 44, 45, 46, 47, 48, 49, 50, 51, 52, 53, 54, 55, 56, 57, 58, 59, 60, 61, 62, 63, 64, 65, 66, 67, 68, 69, 70, 71, 72, 73, 74, 75, 76, 97, 98, 99, 100, 101, 102, 103, 104, 105] (by decide +kernel) (by decide +kernel)
set_option maxRecDepth 20000 in
theorem gX6_doesOne_X6_propose : GoodIn wsX6_doesOne (wsV RX6 119 RX6 yX6_propose wsX6_propose) := goodIn_app (goodIn_of _ (by decide +kernel)) ggX6_doesOne_X6_propose
set_option maxRecDepth 20000 in
theorem ggX6_doesOne_X6_second : GoodIn wsX6_doesOne wsX6_second := goodIn_r _ [80, 21, 22, 23, 24, 7, 25, 81, 82, 83, 84, 30, 31, 32, 33, 34, 35, 36, 37, 38, 39, 40, 41, 42, 43, 44, 45, 46, 47, 48, 49, 50, 51, 52, 53, 54, 55, 56, 61, 62, 63, 64, 65, 66, 67, 68, 69, 70, 71, 72, 73, 74, 75, 76, 97, 98, 99, 100, 101, 102, 103, 104, 105] (by decide +kernel) (by decide +kernel)
set_option maxRecDepth 20000 in
theorem gX6_doesOne_X6_second : GoodIn wsX6_doesOne (wsV RX6 122 RX6 yX6_second wsX6_second) := goodIn_app (goodIn_of _ (by decide +kernel)) ggX6_doesOne_X6_second
set_option maxRecDepth 20000 in
theorem ggX6_doesOne_X6_learn : GoodIn wsX6_doesOne wsX6_learn := goodIn_r _ [88, 21, 22, 23, 24, 7, 25, 46, 47, 48, 49, 50, 51, 52, 53, 54, 55, 56, 97, 98, 99, 100, 101, 102, 103, 104, 105] (by decide +kernel) (by decide +kernel)
set_option maxRecDepth 20000 in
theorem gX6_doesOne_X6_learn : GoodIn wsX6_doesOne (wsV RX6 125 RX6 yX6_learn wsX6_learn) := goodIn_app (goodIn_of _ (by decide +kernel)) ggX6_doesOne_X6_learn
set_option maxRecDepth 20000 in
theorem ggX6_doesOne_X6_attend : GoodIn wsX6_doesOne wsX6_attend := goodIn_r _ [92, 21, 22, 23, 24, 7, 25, 14, 15, 16, 50, 51, 52, 53, 54, 55, 56, 93, 94, 95, 96, 97, 98, 99, 100, 101, 102, 103, 104, 105] (by decide +kernel) (by decide +kernel)
set_option maxRecDepth 20000 in
theorem gX6_doesOne_X6_attend : GoodIn wsX6_doesOne (wsV RX6 128 RX6 yX6_attend wsX6_attend) := goodIn_app (goodIn_of _ (by decide +kernel)) ggX6_doesOne_X6_attend
theorem dX6_doesOne_0 : decode cX6_doesOne 0 = .ok (.aload_n 0, 1) := by decide +kernel
theorem dX6_doesOne_1 : decode cX6_doesOne 1 = .ok (.getfield 106, 3) := by decide +kernel
theorem dX6_doesOne_4 : decode cX6_doesOne 4 = .ok (.istore_n 1, 1) := by decide +kernel
theorem dX6_doesOne_5 : decode cX6_doesOne 5 = .ok (.aload_n 0, 1) := by decide +kernel
theorem dX6_doesOne_6 : decode cX6_doesOne 6 = .ok (.getfield 19, 3) := by decide +kernel
theorem dX6_doesOne_9 : decode cX6_doesOne 9 = .ok (.aload_n 0, 1) := by decide +kernel
theorem dX6_doesOne_10 : decode cX6_doesOne 10 = .ok (.getfield 106, 3) := by decide +kernel
theorem dX6_doesOne_13 : decode cX6_doesOne 13 = .ok (.iaload, 1) := by decide +kernel
theorem dX6_doesOne_14 : decode cX6_doesOne 14 = .ok (.istore_n 2, 1) := by decide +kernel
theorem dX6_doesOne_15 : decode cX6_doesOne 15 = .ok (.iload_n 2, 1) := by decide +kernel
theorem dX6_doesOne_16 : decode cX6_doesOne 16 = .ok (.bipush 112, 2) := by decide +kernel
theorem dX6_doesOne_18 : decode cX6_doesOne 18 = .ok (.if_icmp .eq 9, 3) := by decide +kernel
theorem dX6_doesOne_21 : decode cX6_doesOne 21 = .ok (.iload_n 2, 1) := by decide +kernel
theorem dX6_doesOne_22 : decode cX6_doesOne 22 = .ok (.bipush 115, 2) := by decide +kernel
theorem dX6_doesOne_24 : decode cX6_doesOne 24 = .ok (.if_icmp .ne 7, 3) := by decide +kernel
theorem dX6_doesOne_27 : decode cX6_doesOne 27 = .ok (.iconst 1, 1) := by decide +kernel
theorem dX6_doesOne_28 : decode cX6_doesOne 28 = .ok (.goto 4, 3) := by decide +kernel
theorem dX6_doesOne_31 : decode cX6_doesOne 31 = .ok (.iconst 0, 1) := by decide +kernel
theorem dX6_doesOne_32 : decode cX6_doesOne 32 = .ok (.istore_n 3, 1) := by decide +kernel
theorem dX6_doesOne_33 : decode cX6_doesOne 33 = .ok (.iload_n 3, 1) := by decide +kernel
theorem dX6_doesOne_34 : decode cX6_doesOne 34 = .ok (.ifCond .ne 23, 3) := by decide +kernel
theorem dX6_doesOne_37 : decode cX6_doesOne 37 = .ok (.iload_n 2, 1) := by decide +kernel
theorem dX6_doesOne_38 : decode cX6_doesOne 38 = .ok (.bipush 108, 2) := by decide +kernel
theorem dX6_doesOne_40 : decode cX6_doesOne 40 = .ok (.if_icmp .eq 17, 3) := by decide +kernel
theorem dX6_doesOne_43 : decode cX6_doesOne 43 = .ok (.iload_n 2, 1) := by decide +kernel
theorem dX6_doesOne_44 : decode cX6_doesOne 44 = .ok (.bipush 103, 2) := by decide +kernel
theorem dX6_doesOne_46 : decode cX6_doesOne 46 = .ok (.if_icmp .eq 11, 3) := by decide +kernel
theorem dX6_doesOne_49 : decode cX6_doesOne 49 = .ok (.iload_n 2, 1) := by decide +kernel
theorem dX6_doesOne_50 : decode cX6_doesOne 50 = .ok (.bipush 98, 2) := by decide +kernel
theorem dX6_doesOne_52 : decode cX6_doesOne 52 = .ok (.if_icmp .eq 5, 3) := by decide +kernel
theorem dX6_doesOne_55 : decode cX6_doesOne 55 = .ok (.iload_n 1, 1) := by decide +kernel
theorem dX6_doesOne_56 : decode cX6_doesOne 56 = .ok (.ireturn, 1) := by decide +kernel
theorem dX6_doesOne_57 : decode cX6_doesOne 57 = .ok (.aload_n 0, 1) := by decide +kernel
theorem dX6_doesOne_58 : decode cX6_doesOne 58 = .ok (.dup, 1) := by decide +kernel
theorem dX6_doesOne_59 : decode cX6_doesOne 59 = .ok (.getfield 106, 3) := by decide +kernel
theorem dX6_doesOne_62 : decode cX6_doesOne 62 = .ok (.iconst 1, 1) := by decide +kernel
theorem dX6_doesOne_63 : decode cX6_doesOne 63 = .ok (.iadd, 1) := by decide +kernel
theorem dX6_doesOne_64 : decode cX6_doesOne 64 = .ok (.putfield 106, 3) := by decide +kernel
theorem dX6_doesOne_67 : decode cX6_doesOne 67 = .ok (.aload_n 0, 1) := by decide +kernel
theorem dX6_doesOne_68 : decode cX6_doesOne 68 = .ok (.iload_n 3, 1) := by decide +kernel
theorem dX6_doesOne_69 : decode cX6_doesOne 69 = .ok (.ifCond .eq 8, 3) := by decide +kernel
theorem dX6_doesOne_72 : decode cX6_doesOne 72 = .ok (.bipush 58, 2) := by decide +kernel
theorem dX6_doesOne_74 : decode cX6_doesOne 74 = .ok (.goto 5, 3) := by decide +kernel
theorem dX6_doesOne_77 : decode cX6_doesOne 77 = .ok (.bipush 59, 2) := by decide +kernel
theorem dX6_doesOne_79 : decode cX6_doesOne 79 = .ok (.invokevirtual 116, 3) := by decide +kernel
theorem dX6_doesOne_82 : decode cX6_doesOne 82 = .ok (.ifCond .ne 8, 3) := by decide +kernel
theorem dX6_doesOne_85 : decode cX6_doesOne 85 = .ok (.aload_n 0, 1) := by decide +kernel
theorem dX6_doesOne_86 : decode cX6_doesOne 86 = .ok (.getfield 106, 3) := by decide +kernel
theorem dX6_doesOne_89 : decode cX6_doesOne 89 = .ok (.ireturn, 1) := by decide +kernel
theorem dX6_doesOne_90 : decode cX6_doesOne 90 = .ok (.aload_n 0, 1) := by decide +kernel
theorem dX6_doesOne_91 : decode cX6_doesOne 91 = .ok (.getfield 109, 3) := by decide +kernel
theorem dX6_doesOne_94 : decode cX6_doesOne 94 = .ok (.istore 4, 2) := by decide +kernel
theorem dX6_doesOne_96 : decode cX6_doesOne 96 = .ok (.iload_n 3, 1) := by decide +kernel
theorem dX6_doesOne_97 : decode cX6_doesOne 97 = .ok (.ifCond .eq 17, 3) := by decide +kernel
theorem dX6_doesOne_100 : decode cX6_doesOne 100 = .ok (.aload_n 0, 1) := by decide +kernel
theorem dX6_doesOne_101 : decode cX6_doesOne 101 = .ok (.bipush 59, 2) := by decide +kernel
theorem dX6_doesOne_103 : decode cX6_doesOne 103 = .ok (.invokevirtual 116, 3) := by decide +kernel
theorem dX6_doesOne_106 : decode cX6_doesOne 106 = .ok (.ifCond .ne 8, 3) := by decide +kernel
theorem dX6_doesOne_109 : decode cX6_doesOne 109 = .ok (.aload_n 0, 1) := by decide +kernel
theorem dX6_doesOne_110 : decode cX6_doesOne 110 = .ok (.getfield 106, 3) := by decide +kernel
theorem dX6_doesOne_113 : decode cX6_doesOne 113 = .ok (.ireturn, 1) := by decide +kernel
theorem dX6_doesOne_114 : decode cX6_doesOne 114 = .ok (.iload_n 2, 1) := by decide +kernel
theorem dX6_doesOne_115 : decode cX6_doesOne 115 = .ok (.bipush 112, 2) := by decide +kernel
theorem dX6_doesOne_117 : decode cX6_doesOne 117 = .ok (.if_icmp .ne 16, 3) := by decide +kernel
theorem dX6_doesOne_120 : decode cX6_doesOne 120 = .ok (.aload_n 0, 1) := by decide +kernel
theorem dX6_doesOne_121 : decode cX6_doesOne 121 = .ok (.iload 4, 2) := by decide +kernel
theorem dX6_doesOne_123 : decode cX6_doesOne 123 = .ok (.aload_n 0, 1) := by decide +kernel
theorem dX6_doesOne_124 : decode cX6_doesOne 124 = .ok (.getfield 109, 3) := by decide +kernel
theorem dX6_doesOne_127 : decode cX6_doesOne 127 = .ok (.invokevirtual 119, 3) := by decide +kernel
theorem dX6_doesOne_130 : decode cX6_doesOne 130 = .ok (.goto 54, 3) := by decide +kernel
theorem dX6_doesOne_133 : decode cX6_doesOne 133 = .ok (.iload_n 2, 1) := by decide +kernel
theorem dX6_doesOne_134 : decode cX6_doesOne 134 = .ok (.bipush 115, 2) := by decide +kernel
theorem dX6_doesOne_136 : decode cX6_doesOne 136 = .ok (.if_icmp .ne 16, 3) := by decide +kernel
theorem dX6_doesOne_139 : decode cX6_doesOne 139 = .ok (.aload_n 0, 1) := by decide +kernel
theorem dX6_doesOne_140 : decode cX6_doesOne 140 = .ok (.iload 4, 2) := by decide +kernel
theorem dX6_doesOne_142 : decode cX6_doesOne 142 = .ok (.aload_n 0, 1) := by decide +kernel
theorem dX6_doesOne_143 : decode cX6_doesOne 143 = .ok (.getfield 109, 3) := by decide +kernel
theorem dX6_doesOne_146 : decode cX6_doesOne 146 = .ok (.invokevirtual 122, 3) := by decide +kernel
theorem dX6_doesOne_149 : decode cX6_doesOne 149 = .ok (.goto 35, 3) := by decide +kernel
theorem dX6_doesOne_152 : decode cX6_doesOne 152 = .ok (.iload_n 2, 1) := by decide +kernel
theorem dX6_doesOne_153 : decode cX6_doesOne 153 = .ok (.bipush 108, 2) := by decide +kernel
theorem dX6_doesOne_155 : decode cX6_doesOne 155 = .ok (.if_icmp .ne 12, 3) := by decide +kernel
theorem dX6_doesOne_158 : decode cX6_doesOne 158 = .ok (.aload_n 0, 1) := by decide +kernel
theorem dX6_doesOne_159 : decode cX6_doesOne 159 = .ok (.iload 4, 2) := by decide +kernel
theorem dX6_doesOne_161 : decode cX6_doesOne 161 = .ok (.invokevirtual 125, 3) := by decide +kernel
theorem dX6_doesOne_164 : decode cX6_doesOne 164 = .ok (.goto 20, 3) := by decide +kernel
theorem dX6_doesOne_167 : decode cX6_doesOne 167 = .ok (.aload_n 0, 1) := by decide +kernel
theorem dX6_doesOne_168 : decode cX6_doesOne 168 = .ok (.iload 4, 2) := by decide +kernel
theorem dX6_doesOne_170 : decode cX6_doesOne 170 = .ok (.iload_n 2, 1) := by decide +kernel
theorem dX6_doesOne_171 : decode cX6_doesOne 171 = .ok (.bipush 98, 2) := by decide +kernel
theorem dX6_doesOne_173 : decode cX6_doesOne 173 = .ok (.if_icmp .ne 7, 3) := by decide +kernel
theorem dX6_doesOne_176 : decode cX6_doesOne 176 = .ok (.iconst 1, 1) := by decide +kernel
theorem dX6_doesOne_177 : decode cX6_doesOne 177 = .ok (.goto 4, 3) := by decide +kernel
theorem dX6_doesOne_180 : decode cX6_doesOne 180 = .ok (.iconst 0, 1) := by decide +kernel
theorem dX6_doesOne_181 : decode cX6_doesOne 181 = .ok (.invokevirtual 128, 3) := by decide +kernel
theorem dX6_doesOne_184 : decode cX6_doesOne 184 = .ok (.istore 5, 2) := by decide +kernel
theorem dX6_doesOne_186 : decode cX6_doesOne 186 = .ok (.iload 5, 2) := by decide +kernel
theorem dX6_doesOne_188 : decode cX6_doesOne 188 = .ok (.ifCond .ge 7, 3) := by decide +kernel
theorem dX6_doesOne_191 : decode cX6_doesOne 191 = .ok (.iload_n 1, 1) := by decide +kernel
theorem dX6_doesOne_192 : decode cX6_doesOne 192 = .ok (.goto 5, 3) := by decide +kernel
theorem dX6_doesOne_195 : decode cX6_doesOne 195 = .ok (.bipush (-9), 2) := by decide +kernel
theorem dX6_doesOne_197 : decode cX6_doesOne 197 = .ok (.ireturn, 1) := by decide +kernel
theorem dX6_exchanges_0 : decode cX6_exchanges 0 = .ok (.iconst 0, 1) := by decide +kernel
theorem dX6_exchanges_1 : decode cX6_exchanges 1 = .ok (.istore_n 1, 1) := by decide +kernel
theorem dX6_exchanges_2 : decode cX6_exchanges 2 = .ok (.iload_n 1, 1) := by decide +kernel
theorem dX6_exchanges_3 : decode cX6_exchanges 3 = .ok (.sipush 522, 3) := by decide +kernel
theorem dX6_exchanges_6 : decode cX6_exchanges 6 = .ok (.if_icmp .ge 35, 3) := by decide +kernel
theorem dX6_exchanges_9 : decode cX6_exchanges 9 = .ok (.aload_n 0, 1) := by decide +kernel
theorem dX6_exchanges_10 : decode cX6_exchanges 10 = .ok (.getfield 7, 3) := by decide +kernel
theorem dX6_exchanges_13 : decode cX6_exchanges 13 = .ok (.iload_n 1, 1) := by decide +kernel
theorem dX6_exchanges_14 : decode cX6_exchanges 14 = .ok (.iaload, 1) := by decide +kernel
theorem dX6_exchanges_15 : decode cX6_exchanges 15 = .ok (.istore_n 2, 1) := by decide +kernel
theorem dX6_exchanges_16 : decode cX6_exchanges 16 = .ok (.aload_n 0, 1) := by decide +kernel
theorem dX6_exchanges_17 : decode cX6_exchanges 17 = .ok (.getfield 7, 3) := by decide +kernel
theorem dX6_exchanges_20 : decode cX6_exchanges 20 = .ok (.iload_n 1, 1) := by decide +kernel
theorem dX6_exchanges_21 : decode cX6_exchanges 21 = .ok (.aload_n 0, 1) := by decide +kernel
theorem dX6_exchanges_22 : decode cX6_exchanges 22 = .ok (.getfield 16, 3) := by decide +kernel
theorem dX6_exchanges_25 : decode cX6_exchanges 25 = .ok (.iload_n 1, 1) := by decide +kernel
theorem dX6_exchanges_26 : decode cX6_exchanges 26 = .ok (.iaload, 1) := by decide +kernel
theorem dX6_exchanges_27 : decode cX6_exchanges 27 = .ok (.iastore, 1) := by decide +kernel
theorem dX6_exchanges_28 : decode cX6_exchanges 28 = .ok (.aload_n 0, 1) := by decide +kernel
theorem dX6_exchanges_29 : decode cX6_exchanges 29 = .ok (.getfield 16, 3) := by decide +kernel
theorem dX6_exchanges_32 : decode cX6_exchanges 32 = .ok (.iload_n 1, 1) := by decide +kernel
theorem dX6_exchanges_33 : decode cX6_exchanges 33 = .ok (.iload_n 2, 1) := by decide +kernel
theorem dX6_exchanges_34 : decode cX6_exchanges 34 = .ok (.iastore, 1) := by decide +kernel
theorem dX6_exchanges_35 : decode cX6_exchanges 35 = .ok (.iinc 1 1, 3) := by decide +kernel
theorem dX6_exchanges_38 : decode cX6_exchanges 38 = .ok (.goto (-36), 3) := by decide +kernel
theorem dX6_exchanges_41 : decode cX6_exchanges 41 = .ok (.return_, 1) := by decide +kernel
theorem dX6_holds_0 : decode cX6_holds 0 = .ok (.iconst 0, 1) := by decide +kernel
theorem dX6_holds_1 : decode cX6_holds 1 = .ok (.istore_n 1, 1) := by decide +kernel
theorem dX6_holds_2 : decode cX6_holds 2 = .ok (.iload_n 1, 1) := by decide +kernel
theorem dX6_holds_3 : decode cX6_holds 3 = .ok (.sipush 522, 3) := by decide +kernel
theorem dX6_holds_6 : decode cX6_holds 6 = .ok (.if_icmp .ge 21, 3) := by decide +kernel
theorem dX6_holds_9 : decode cX6_holds 9 = .ok (.aload_n 0, 1) := by decide +kernel
theorem dX6_holds_10 : decode cX6_holds 10 = .ok (.getfield 16, 3) := by decide +kernel
theorem dX6_holds_13 : decode cX6_holds 13 = .ok (.iload_n 1, 1) := by decide +kernel
theorem dX6_holds_14 : decode cX6_holds 14 = .ok (.aload_n 0, 1) := by decide +kernel
theorem dX6_holds_15 : decode cX6_holds 15 = .ok (.getfield 7, 3) := by decide +kernel
theorem dX6_holds_18 : decode cX6_holds 18 = .ok (.iload_n 1, 1) := by decide +kernel
theorem dX6_holds_19 : decode cX6_holds 19 = .ok (.iaload, 1) := by decide +kernel
theorem dX6_holds_20 : decode cX6_holds 20 = .ok (.iastore, 1) := by decide +kernel
theorem dX6_holds_21 : decode cX6_holds 21 = .ok (.iinc 1 1, 3) := by decide +kernel
theorem dX6_holds_24 : decode cX6_holds 24 = .ok (.goto (-22), 3) := by decide +kernel
theorem dX6_holds_27 : decode cX6_holds 27 = .ok (.return_, 1) := by decide +kernel
set_option maxRecDepth 20000 in
theorem ggX6_run_X6_holds : GoodIn wsX6_run wsX6_holds := goodIn_r _ [8, 9, 10, 110, 111, 112, 113, 114, 115, 116, 117, 118] (by decide +kernel) (by decide +kernel)
set_option maxRecDepth 20000 in
theorem gX6_run_X6_holds : GoodIn wsX6_run (wsV RX6 131 RX6 yX6_holds wsX6_holds) := goodIn_app (goodIn_of _ (by decide +kernel)) ggX6_run_X6_holds
set_option maxRecDepth 20000 in
theorem ggX6_run_X6_doesOne : GoodIn wsX6_run wsX6_doesOne := goodIn_r _ [14, 2, 15, 16, 17, 18, 19, 7, 20, 21, 22, 23, 24, 3, 25, 26, 27, 28, 29, 30, 31, 10, 32, 33, 34, 35, 36, 37, 38, 39, 40, 41, 42, 43, 44, 45, 46, 47, 48, 49, 50, 51, 52, 53, 54, 55, 56, 57, 58, 59, 60, 61, 62, 63, 1, 64, 65, 66, 67, 68, 69, 70, 71, 72, 73, 74, 75, 76, 77, 78, 79, 80, 81, 82, 83, 84, 85, 86, 87, 88, 89, 90, 91, 92, 93, 94, 95, 96, 97, 98, 99, 100, 101, 102, 103, 104, 105, 110, 111, 112, 113, 114, 115, 116, 117, 118] (by decide +kernel) (by decide +kernel)
set_option maxRecDepth 20000 in
theorem gX6_run_X6_doesOne : GoodIn wsX6_run (wsV RX6 134 RX6 yX6_doesOne wsX6_doesOne) := goodIn_app (goodIn_of _ (by decide +kernel)) ggX6_run_X6_doesOne
set_option maxRecDepth 20000 in
theorem ggX6_run_X6_exchanges : GoodIn wsX6_run wsX6_exchanges := goodIn_r _ [109, 10, 9, 110, 111, 112, 113, 114, 115, 116, 117, 118] (by decide +kernel) (by decide +kernel)
set_option maxRecDepth 20000 in
theorem gX6_run_X6_exchanges : GoodIn wsX6_run (wsV RX6 137 RX6 yX6_exchanges wsX6_exchanges) := goodIn_app (goodIn_of _ (by decide +kernel)) ggX6_run_X6_exchanges
set_option maxRecDepth 20000 in
theorem ggX6_run_X6_acts : GoodIn wsX6_run wsX6_acts := goodIn_r _ [63, 1, 64, 65, 10, 110, 111, 112, 113, 114, 115, 116, 117, 118] (by decide +kernel) (by decide +kernel)
set_option maxRecDepth 20000 in
theorem gX6_run_X6_acts : GoodIn wsX6_run (wsV RX6 52 RX6 yX6_acts wsX6_acts) := goodIn_app (goodIn_of _ (by decide +kernel)) ggX6_run_X6_acts
theorem dX6_run_0 : decode cX6_run 0 = .ok (.aload_n 0, 1) := by decide +kernel
theorem dX6_run_1 : decode cX6_run 1 = .ok (.invokevirtual 131, 3) := by decide +kernel
theorem dX6_run_4 : decode cX6_run 4 = .ok (.aload_n 0, 1) := by decide +kernel
theorem dX6_run_5 : decode cX6_run 5 = .ok (.iconst 1, 1) := by decide +kernel
theorem dX6_run_6 : decode cX6_run 6 = .ok (.putfield 22, 3) := by decide +kernel
theorem dX6_run_9 : decode cX6_run 9 = .ok (.iconst 0, 1) := by decide +kernel
theorem dX6_run_10 : decode cX6_run 10 = .ok (.istore_n 1, 1) := by decide +kernel
theorem dX6_run_11 : decode cX6_run 11 = .ok (.bipush (-9), 2) := by decide +kernel
theorem dX6_run_13 : decode cX6_run 13 = .ok (.istore_n 2, 1) := by decide +kernel
theorem dX6_run_14 : decode cX6_run 14 = .ok (.aload_n 0, 1) := by decide +kernel
theorem dX6_run_15 : decode cX6_run 15 = .ok (.iconst 0, 1) := by decide +kernel
theorem dX6_run_16 : decode cX6_run 16 = .ok (.putfield 106, 3) := by decide +kernel
theorem dX6_run_19 : decode cX6_run 19 = .ok (.iload_n 2, 1) := by decide +kernel
theorem dX6_run_20 : decode cX6_run 20 = .ok (.bipush (-9), 2) := by decide +kernel
theorem dX6_run_22 : decode cX6_run 22 = .ok (.if_icmp .ne 25, 3) := by decide +kernel
theorem dX6_run_25 : decode cX6_run 25 = .ok (.aload_n 0, 1) := by decide +kernel
theorem dX6_run_26 : decode cX6_run 26 = .ok (.getfield 106, 3) := by decide +kernel
theorem dX6_run_29 : decode cX6_run 29 = .ok (.aload_n 0, 1) := by decide +kernel
theorem dX6_run_30 : decode cX6_run 30 = .ok (.getfield 103, 3) := by decide +kernel
theorem dX6_run_33 : decode cX6_run 33 = .ok (.if_icmp .ge 14, 3) := by decide +kernel
theorem dX6_run_36 : decode cX6_run 36 = .ok (.aload_n 0, 1) := by decide +kernel
theorem dX6_run_37 : decode cX6_run 37 = .ok (.invokevirtual 134, 3) := by decide +kernel
theorem dX6_run_40 : decode cX6_run 40 = .ok (.istore_n 2, 1) := by decide +kernel
theorem dX6_run_41 : decode cX6_run 41 = .ok (.iinc 1 1, 3) := by decide +kernel
theorem dX6_run_44 : decode cX6_run 44 = .ok (.goto (-25), 3) := by decide +kernel
theorem dX6_run_47 : decode cX6_run 47 = .ok (.aload_n 0, 1) := by decide +kernel
theorem dX6_run_48 : decode cX6_run 48 = .ok (.iconst 0, 1) := by decide +kernel
theorem dX6_run_49 : decode cX6_run 49 = .ok (.putfield 22, 3) := by decide +kernel
theorem dX6_run_52 : decode cX6_run 52 = .ok (.aload_n 0, 1) := by decide +kernel
theorem dX6_run_53 : decode cX6_run 53 = .ok (.invokevirtual 137, 3) := by decide +kernel
theorem dX6_run_56 : decode cX6_run 56 = .ok (.iload_n 2, 1) := by decide +kernel
theorem dX6_run_57 : decode cX6_run 57 = .ok (.bipush (-9), 2) := by decide +kernel
theorem dX6_run_59 : decode cX6_run 59 = .ok (.if_icmp .eq 9, 3) := by decide +kernel
theorem dX6_run_62 : decode cX6_run 62 = .ok (.sipush (-1000), 3) := by decide +kernel
theorem dX6_run_65 : decode cX6_run 65 = .ok (.iload_n 2, 1) := by decide +kernel
theorem dX6_run_66 : decode cX6_run 66 = .ok (.isub, 1) := by decide +kernel
theorem dX6_run_67 : decode cX6_run 67 = .ok (.ireturn, 1) := by decide +kernel
theorem dX6_run_68 : decode cX6_run 68 = .ok (.aload_n 0, 1) := by decide +kernel
theorem dX6_run_69 : decode cX6_run 69 = .ok (.invokevirtual 52, 3) := by decide +kernel
theorem dX6_run_72 : decode cX6_run 72 = .ok (.aload_n 0, 1) := by decide +kernel
theorem dX6_run_73 : decode cX6_run 73 = .ok (.invokevirtual 137, 3) := by decide +kernel
theorem dX6_run_76 : decode cX6_run 76 = .ok (.aload_n 0, 1) := by decide +kernel
theorem dX6_run_77 : decode cX6_run 77 = .ok (.iconst 0, 1) := by decide +kernel
theorem dX6_run_78 : decode cX6_run 78 = .ok (.putfield 103, 3) := by decide +kernel
theorem dX6_run_81 : decode cX6_run 81 = .ok (.iload_n 1, 1) := by decide +kernel
theorem dX6_run_82 : decode cX6_run 82 = .ok (.ireturn, 1) := by decide +kernel
set_option maxRecDepth 20000 in
theorem ggX6_forged_X6_isForged : GoodIn wsX6_forged wsX6_isForged := goodIn_r _ [6, 1, 7, 8, 9, 10, 11, 12, 13, 14, 15] (by decide +kernel) (by decide +kernel)
set_option maxRecDepth 20000 in
theorem gX6_forged_X6_isForged : GoodIn wsX6_forged (wsV RX6 140 RX6 yX6_isForged wsX6_isForged) := goodIn_app (goodIn_of _ (by decide +kernel)) ggX6_forged_X6_isForged
theorem dX6_forged_0 : decode cX6_forged 0 = .ok (.iconst 0, 1) := by decide +kernel
theorem dX6_forged_1 : decode cX6_forged 1 = .ok (.istore_n 1, 1) := by decide +kernel
theorem dX6_forged_2 : decode cX6_forged 2 = .ok (.iconst 0, 1) := by decide +kernel
theorem dX6_forged_3 : decode cX6_forged 3 = .ok (.istore_n 2, 1) := by decide +kernel
theorem dX6_forged_4 : decode cX6_forged 4 = .ok (.iload_n 2, 1) := by decide +kernel
theorem dX6_forged_5 : decode cX6_forged 5 = .ok (.aload_n 0, 1) := by decide +kernel
theorem dX6_forged_6 : decode cX6_forged 6 = .ok (.getfield 7, 3) := by decide +kernel
theorem dX6_forged_9 : decode cX6_forged 9 = .ok (.bipush 7, 2) := by decide +kernel
theorem dX6_forged_11 : decode cX6_forged 11 = .ok (.iaload, 1) := by decide +kernel
theorem dX6_forged_12 : decode cX6_forged 12 = .ok (.if_icmp .ge 25, 3) := by decide +kernel
theorem dX6_forged_15 : decode cX6_forged 15 = .ok (.iload_n 1, 1) := by decide +kernel
theorem dX6_forged_16 : decode cX6_forged 16 = .ok (.aload_n 0, 1) := by decide +kernel
theorem dX6_forged_17 : decode cX6_forged 17 = .ok (.iload_n 2, 1) := by decide +kernel
theorem dX6_forged_18 : decode cX6_forged 18 = .ok (.invokevirtual 140, 3) := by decide +kernel
theorem dX6_forged_21 : decode cX6_forged 21 = .ok (.ifCond .eq 7, 3) := by decide +kernel
theorem dX6_forged_24 : decode cX6_forged 24 = .ok (.iconst 1, 1) := by decide +kernel
theorem dX6_forged_25 : decode cX6_forged 25 = .ok (.goto 4, 3) := by decide +kernel
theorem dX6_forged_28 : decode cX6_forged 28 = .ok (.iconst 0, 1) := by decide +kernel
theorem dX6_forged_29 : decode cX6_forged 29 = .ok (.iadd, 1) := by decide +kernel
theorem dX6_forged_30 : decode cX6_forged 30 = .ok (.istore_n 1, 1) := by decide +kernel
theorem dX6_forged_31 : decode cX6_forged 31 = .ok (.iinc 2 1, 3) := by decide +kernel
theorem dX6_forged_34 : decode cX6_forged 34 = .ok (.goto (-30), 3) := by decide +kernel
theorem dX6_forged_37 : decode cX6_forged 37 = .ok (.iload_n 1, 1) := by decide +kernel
theorem dX6_forged_38 : decode cX6_forged 38 = .ok (.ireturn, 1) := by decide +kernel
theorem dX6_isForged_0 : decode cX6_isForged 0 = .ok (.aload_n 0, 1) := by decide +kernel
theorem dX6_isForged_1 : decode cX6_isForged 1 = .ok (.getfield 7, 3) := by decide +kernel
theorem dX6_isForged_4 : decode cX6_isForged 4 = .ok (.sipush 222, 3) := by decide +kernel
theorem dX6_isForged_7 : decode cX6_isForged 7 = .ok (.iconst 5, 1) := by decide +kernel
theorem dX6_isForged_8 : decode cX6_isForged 8 = .ok (.iload_n 1, 1) := by decide +kernel
theorem dX6_isForged_9 : decode cX6_isForged 9 = .ok (.imul, 1) := by decide +kernel
theorem dX6_isForged_10 : decode cX6_isForged 10 = .ok (.iadd, 1) := by decide +kernel
theorem dX6_isForged_11 : decode cX6_isForged 11 = .ok (.iconst 2, 1) := by decide +kernel
theorem dX6_isForged_12 : decode cX6_isForged 12 = .ok (.iadd, 1) := by decide +kernel
theorem dX6_isForged_13 : decode cX6_isForged 13 = .ok (.iaload, 1) := by decide +kernel
theorem dX6_isForged_14 : decode cX6_isForged 14 = .ok (.aload_n 0, 1) := by decide +kernel
theorem dX6_isForged_15 : decode cX6_isForged 15 = .ok (.getfield 7, 3) := by decide +kernel
theorem dX6_isForged_18 : decode cX6_isForged 18 = .ok (.sipush 222, 3) := by decide +kernel
theorem dX6_isForged_21 : decode cX6_isForged 21 = .ok (.iconst 5, 1) := by decide +kernel
theorem dX6_isForged_22 : decode cX6_isForged 22 = .ok (.iload_n 1, 1) := by decide +kernel
theorem dX6_isForged_23 : decode cX6_isForged 23 = .ok (.imul, 1) := by decide +kernel
theorem dX6_isForged_24 : decode cX6_isForged 24 = .ok (.iadd, 1) := by decide +kernel
theorem dX6_isForged_25 : decode cX6_isForged 25 = .ok (.iconst 3, 1) := by decide +kernel
theorem dX6_isForged_26 : decode cX6_isForged 26 = .ok (.iadd, 1) := by decide +kernel
theorem dX6_isForged_27 : decode cX6_isForged 27 = .ok (.iaload, 1) := by decide +kernel
theorem dX6_isForged_28 : decode cX6_isForged 28 = .ok (.if_icmp .eq 7, 3) := by decide +kernel
theorem dX6_isForged_31 : decode cX6_isForged 31 = .ok (.iconst 1, 1) := by decide +kernel
theorem dX6_isForged_32 : decode cX6_isForged 32 = .ok (.goto 4, 3) := by decide +kernel
theorem dX6_isForged_35 : decode cX6_isForged 35 = .ok (.iconst 0, 1) := by decide +kernel
theorem dX6_isForged_36 : decode cX6_isForged 36 = .ok (.ireturn, 1) := by decide +kernel
set_option maxRecDepth 20000 in
theorem ggX6_count_X6_present : GoodIn wsX6_count wsX6_present := goodIn_r _ [8, 1, 21, 22, 23, 24, 25, 26, 27, 28, 29] (by decide +kernel) (by decide +kernel)
set_option maxRecDepth 20000 in
theorem gX6_count_X6_present : GoodIn wsX6_count (wsV RX6 62 RX6 yX6_present wsX6_present) := goodIn_app (goodIn_of _ (by decide +kernel)) ggX6_count_X6_present
set_option maxRecDepth 20000 in
theorem ggX6_count_X6_goesOn : GoodIn wsX6_count wsX6_goesOn := goodIn_r _ [12, 1, 21, 22, 23, 24, 25, 26, 27, 28, 29] (by decide +kernel) (by decide +kernel)
set_option maxRecDepth 20000 in
theorem gX6_count_X6_goesOn : GoodIn wsX6_count (wsV RX6 30 RX6 yX6_goesOn wsX6_goesOn) := goodIn_app (goodIn_of _ (by decide +kernel)) ggX6_count_X6_goesOn
set_option maxRecDepth 20000 in
theorem ggX6_count_X6_forged : GoodIn wsX6_count wsX6_forged := goodIn_r _ [16, 1, 17, 18, 19, 7, 20, 21, 22, 23, 24, 25, 26, 27, 28, 29] (by decide +kernel) (by decide +kernel)
set_option maxRecDepth 20000 in
theorem gX6_count_X6_forged : GoodIn wsX6_count (wsV RX6 143 RX6 yX6_forged wsX6_forged) := goodIn_app (goodIn_of _ (by decide +kernel)) ggX6_count_X6_forged
theorem dX6_count_0 : decode cX6_count 0 = .ok (.iload_n 1, 1) := by decide +kernel
theorem dX6_count_1 : decode cX6_count 1 = .ok (.tableswitch 147 0 11 #[63, 70, 75, 82, 89, 96, 103, 116, 124, 132, 137, 142], 63) := by decide +kernel
theorem dX6_count_64 : decode cX6_count 64 = .ok (.aload_n 0, 1) := by decide +kernel
theorem dX6_count_65 : decode cX6_count 65 = .ok (.getfield 7, 3) := by decide +kernel
theorem dX6_count_68 : decode cX6_count 68 = .ok (.iconst 0, 1) := by decide +kernel
theorem dX6_count_69 : decode cX6_count 69 = .ok (.iaload, 1) := by decide +kernel
theorem dX6_count_70 : decode cX6_count 70 = .ok (.ireturn, 1) := by decide +kernel
theorem dX6_count_71 : decode cX6_count 71 = .ok (.aload_n 0, 1) := by decide +kernel
theorem dX6_count_72 : decode cX6_count 72 = .ok (.invokevirtual 62, 3) := by decide +kernel
theorem dX6_count_75 : decode cX6_count 75 = .ok (.ireturn, 1) := by decide +kernel
theorem dX6_count_76 : decode cX6_count 76 = .ok (.aload_n 0, 1) := by decide +kernel
theorem dX6_count_77 : decode cX6_count 77 = .ok (.getfield 7, 3) := by decide +kernel
theorem dX6_count_80 : decode cX6_count 80 = .ok (.iconst 1, 1) := by decide +kernel
theorem dX6_count_81 : decode cX6_count 81 = .ok (.iaload, 1) := by decide +kernel
theorem dX6_count_82 : decode cX6_count 82 = .ok (.ireturn, 1) := by decide +kernel
theorem dX6_count_83 : decode cX6_count 83 = .ok (.aload_n 0, 1) := by decide +kernel
theorem dX6_count_84 : decode cX6_count 84 = .ok (.getfield 7, 3) := by decide +kernel
theorem dX6_count_87 : decode cX6_count 87 = .ok (.iconst 2, 1) := by decide +kernel
theorem dX6_count_88 : decode cX6_count 88 = .ok (.iaload, 1) := by decide +kernel
theorem dX6_count_89 : decode cX6_count 89 = .ok (.ireturn, 1) := by decide +kernel
theorem dX6_count_90 : decode cX6_count 90 = .ok (.aload_n 0, 1) := by decide +kernel
theorem dX6_count_91 : decode cX6_count 91 = .ok (.getfield 7, 3) := by decide +kernel
theorem dX6_count_94 : decode cX6_count 94 = .ok (.iconst 3, 1) := by decide +kernel
theorem dX6_count_95 : decode cX6_count 95 = .ok (.iaload, 1) := by decide +kernel
theorem dX6_count_96 : decode cX6_count 96 = .ok (.ireturn, 1) := by decide +kernel
theorem dX6_count_97 : decode cX6_count 97 = .ok (.aload_n 0, 1) := by decide +kernel
theorem dX6_count_98 : decode cX6_count 98 = .ok (.getfield 7, 3) := by decide +kernel
theorem dX6_count_101 : decode cX6_count 101 = .ok (.iconst 4, 1) := by decide +kernel
theorem dX6_count_102 : decode cX6_count 102 = .ok (.iaload, 1) := by decide +kernel
theorem dX6_count_103 : decode cX6_count 103 = .ok (.ireturn, 1) := by decide +kernel
theorem dX6_count_104 : decode cX6_count 104 = .ok (.aload_n 0, 1) := by decide +kernel
theorem dX6_count_105 : decode cX6_count 105 = .ok (.invokevirtual 30, 3) := by decide +kernel
theorem dX6_count_108 : decode cX6_count 108 = .ok (.ifCond .eq 7, 3) := by decide +kernel
theorem dX6_count_111 : decode cX6_count 111 = .ok (.iconst 1, 1) := by decide +kernel
theorem dX6_count_112 : decode cX6_count 112 = .ok (.goto 4, 3) := by decide +kernel
theorem dX6_count_115 : decode cX6_count 115 = .ok (.iconst 0, 1) := by decide +kernel
theorem dX6_count_116 : decode cX6_count 116 = .ok (.ireturn, 1) := by decide +kernel
theorem dX6_count_117 : decode cX6_count 117 = .ok (.aload_n 0, 1) := by decide +kernel
theorem dX6_count_118 : decode cX6_count 118 = .ok (.getfield 7, 3) := by decide +kernel
theorem dX6_count_121 : decode cX6_count 121 = .ok (.bipush 6, 2) := by decide +kernel
theorem dX6_count_123 : decode cX6_count 123 = .ok (.iaload, 1) := by decide +kernel
theorem dX6_count_124 : decode cX6_count 124 = .ok (.ireturn, 1) := by decide +kernel
theorem dX6_count_125 : decode cX6_count 125 = .ok (.aload_n 0, 1) := by decide +kernel
theorem dX6_count_126 : decode cX6_count 126 = .ok (.getfield 7, 3) := by decide +kernel
theorem dX6_count_129 : decode cX6_count 129 = .ok (.bipush 7, 2) := by decide +kernel
theorem dX6_count_131 : decode cX6_count 131 = .ok (.iaload, 1) := by decide +kernel
theorem dX6_count_132 : decode cX6_count 132 = .ok (.ireturn, 1) := by decide +kernel
theorem dX6_count_133 : decode cX6_count 133 = .ok (.aload_n 0, 1) := by decide +kernel
theorem dX6_count_134 : decode cX6_count 134 = .ok (.invokevirtual 143, 3) := by decide +kernel
theorem dX6_count_137 : decode cX6_count 137 = .ok (.ireturn, 1) := by decide +kernel
theorem dX6_count_138 : decode cX6_count 138 = .ok (.aload_n 0, 1) := by decide +kernel
theorem dX6_count_139 : decode cX6_count 139 = .ok (.getfield 26, 3) := by decide +kernel
theorem dX6_count_142 : decode cX6_count 142 = .ok (.ireturn, 1) := by decide +kernel
theorem dX6_count_143 : decode cX6_count 143 = .ok (.aload_n 0, 1) := by decide +kernel
theorem dX6_count_144 : decode cX6_count 144 = .ok (.getfield 103, 3) := by decide +kernel
theorem dX6_count_147 : decode cX6_count 147 = .ok (.ireturn, 1) := by decide +kernel
theorem dX6_count_148 : decode cX6_count 148 = .ok (.iconst (-1), 1) := by decide +kernel
theorem dX6_count_149 : decode cX6_count 149 = .ok (.ireturn, 1) := by decide +kernel
set_option maxRecDepth 20000 in
theorem ggX6_elder_X6_in : GoodIn wsX6_elder wsX6_in := goodIn_r _ [5] (by decide +kernel) (by decide +kernel)
set_option maxRecDepth 20000 in
theorem gX6_elder_X6_in : GoodIn wsX6_elder (va_wsS RX6 58 yX6_in wsX6_in) := goodIn_app (goodIn_of _ (by decide +kernel)) ggX6_elder_X6_in
set_option maxRecDepth 20000 in
theorem ggX6_elder_X6_isSeat : GoodIn wsX6_elder wsX6_isSeat := goodIn_r _ [9, 1, 14, 15, 16, 17, 18, 19, 20, 21, 22] (by decide +kernel) (by decide +kernel)
set_option maxRecDepth 20000 in
theorem gX6_elder_X6_isSeat : GoodIn wsX6_elder (wsV RX6 78 RX6 yX6_isSeat wsX6_isSeat) := goodIn_app (goodIn_of _ (by decide +kernel)) ggX6_elder_X6_isSeat
set_option maxRecDepth 20000 in
theorem ggX6_elder_X6_goesOn : GoodIn wsX6_elder wsX6_goesOn := goodIn_r _ [13, 1, 14, 15, 16, 17, 18, 19, 20, 21, 22] (by decide +kernel) (by decide +kernel)
set_option maxRecDepth 20000 in
theorem gX6_elder_X6_goesOn : GoodIn wsX6_elder (wsV RX6 30 RX6 yX6_goesOn wsX6_goesOn) := goodIn_app (goodIn_of _ (by decide +kernel)) ggX6_elder_X6_goesOn
theorem dX6_elder_0 : decode cX6_elder 0 = .ok (.iload_n 1, 1) := by decide +kernel
theorem dX6_elder_1 : decode cX6_elder 1 = .ok (.iconst 0, 1) := by decide +kernel
theorem dX6_elder_2 : decode cX6_elder 2 = .ok (.iconst 1, 1) := by decide +kernel
theorem dX6_elder_3 : decode cX6_elder 3 = .ok (.invokestatic 58, 3) := by decide +kernel
theorem dX6_elder_6 : decode cX6_elder 6 = .ok (.ifCond .eq 11, 3) := by decide +kernel
theorem dX6_elder_9 : decode cX6_elder 9 = .ok (.aload_n 0, 1) := by decide +kernel
theorem dX6_elder_10 : decode cX6_elder 10 = .ok (.iload_n 2, 1) := by decide +kernel
theorem dX6_elder_11 : decode cX6_elder 11 = .ok (.invokevirtual 78, 3) := by decide +kernel
theorem dX6_elder_14 : decode cX6_elder 14 = .ok (.ifCond .ne 5, 3) := by decide +kernel
theorem dX6_elder_17 : decode cX6_elder 17 = .ok (.iconst (-1), 1) := by decide +kernel
theorem dX6_elder_18 : decode cX6_elder 18 = .ok (.ireturn, 1) := by decide +kernel
theorem dX6_elder_19 : decode cX6_elder 19 = .ok (.iload_n 1, 1) := by decide +kernel
theorem dX6_elder_20 : decode cX6_elder 20 = .ok (.ifCond .ne 15, 3) := by decide +kernel
theorem dX6_elder_23 : decode cX6_elder 23 = .ok (.aload_n 0, 1) := by decide +kernel
theorem dX6_elder_24 : decode cX6_elder 24 = .ok (.getfield 7, 3) := by decide +kernel
theorem dX6_elder_27 : decode cX6_elder 27 = .ok (.bipush 32, 2) := by decide +kernel
theorem dX6_elder_29 : decode cX6_elder 29 = .ok (.iload_n 2, 1) := by decide +kernel
theorem dX6_elder_30 : decode cX6_elder 30 = .ok (.iadd, 1) := by decide +kernel
theorem dX6_elder_31 : decode cX6_elder 31 = .ok (.iaload, 1) := by decide +kernel
theorem dX6_elder_32 : decode cX6_elder 32 = .ok (.goto 24, 3) := by decide +kernel
theorem dX6_elder_35 : decode cX6_elder 35 = .ok (.aload_n 0, 1) := by decide +kernel
theorem dX6_elder_36 : decode cX6_elder 36 = .ok (.invokevirtual 30, 3) := by decide +kernel
theorem dX6_elder_39 : decode cX6_elder 39 = .ok (.ifCond .eq 15, 3) := by decide +kernel
theorem dX6_elder_42 : decode cX6_elder 42 = .ok (.aload_n 0, 1) := by decide +kernel
theorem dX6_elder_43 : decode cX6_elder 43 = .ok (.getfield 7, 3) := by decide +kernel
theorem dX6_elder_46 : decode cX6_elder 46 = .ok (.bipush 37, 2) := by decide +kernel
theorem dX6_elder_48 : decode cX6_elder 48 = .ok (.iload_n 2, 1) := by decide +kernel
theorem dX6_elder_49 : decode cX6_elder 49 = .ok (.iadd, 1) := by decide +kernel
theorem dX6_elder_50 : decode cX6_elder 50 = .ok (.iaload, 1) := by decide +kernel
theorem dX6_elder_51 : decode cX6_elder 51 = .ok (.goto 5, 3) := by decide +kernel
theorem dX6_elder_54 : decode cX6_elder 54 = .ok (.bipush (-9), 2) := by decide +kernel
theorem dX6_elder_56 : decode cX6_elder 56 = .ok (.ireturn, 1) := by decide +kernel
theorem dX6_timesDrawn_0 : decode cX6_timesDrawn 0 = .ok (.iconst 0, 1) := by decide +kernel
theorem dX6_timesDrawn_1 : decode cX6_timesDrawn 1 = .ok (.istore_n 2, 1) := by decide +kernel
theorem dX6_timesDrawn_2 : decode cX6_timesDrawn 2 = .ok (.iconst 0, 1) := by decide +kernel
theorem dX6_timesDrawn_3 : decode cX6_timesDrawn 3 = .ok (.istore_n 3, 1) := by decide +kernel
theorem dX6_timesDrawn_4 : decode cX6_timesDrawn 4 = .ok (.iload_n 3, 1) := by decide +kernel
theorem dX6_timesDrawn_5 : decode cX6_timesDrawn 5 = .ok (.aload_n 0, 1) := by decide +kernel
theorem dX6_timesDrawn_6 : decode cX6_timesDrawn 6 = .ok (.getfield 7, 3) := by decide +kernel
theorem dX6_timesDrawn_9 : decode cX6_timesDrawn 9 = .ok (.bipush 7, 2) := by decide +kernel
theorem dX6_timesDrawn_11 : decode cX6_timesDrawn 11 = .ok (.iaload, 1) := by decide +kernel
theorem dX6_timesDrawn_12 : decode cX6_timesDrawn 12 = .ok (.if_icmp .ge 35, 3) := by decide +kernel
theorem dX6_timesDrawn_15 : decode cX6_timesDrawn 15 = .ok (.iload_n 2, 1) := by decide +kernel
theorem dX6_timesDrawn_16 : decode cX6_timesDrawn 16 = .ok (.aload_n 0, 1) := by decide +kernel
theorem dX6_timesDrawn_17 : decode cX6_timesDrawn 17 = .ok (.getfield 7, 3) := by decide +kernel
theorem dX6_timesDrawn_20 : decode cX6_timesDrawn 20 = .ok (.sipush 222, 3) := by decide +kernel
theorem dX6_timesDrawn_23 : decode cX6_timesDrawn 23 = .ok (.iconst 5, 1) := by decide +kernel
theorem dX6_timesDrawn_24 : decode cX6_timesDrawn 24 = .ok (.iload_n 3, 1) := by decide +kernel
theorem dX6_timesDrawn_25 : decode cX6_timesDrawn 25 = .ok (.imul, 1) := by decide +kernel
theorem dX6_timesDrawn_26 : decode cX6_timesDrawn 26 = .ok (.iadd, 1) := by decide +kernel
theorem dX6_timesDrawn_27 : decode cX6_timesDrawn 27 = .ok (.iconst 2, 1) := by decide +kernel
theorem dX6_timesDrawn_28 : decode cX6_timesDrawn 28 = .ok (.iadd, 1) := by decide +kernel
theorem dX6_timesDrawn_29 : decode cX6_timesDrawn 29 = .ok (.iaload, 1) := by decide +kernel
theorem dX6_timesDrawn_30 : decode cX6_timesDrawn 30 = .ok (.iload_n 1, 1) := by decide +kernel
theorem dX6_timesDrawn_31 : decode cX6_timesDrawn 31 = .ok (.if_icmp .ne 7, 3) := by decide +kernel
theorem dX6_timesDrawn_34 : decode cX6_timesDrawn 34 = .ok (.iconst 1, 1) := by decide +kernel
theorem dX6_timesDrawn_35 : decode cX6_timesDrawn 35 = .ok (.goto 4, 3) := by decide +kernel
theorem dX6_timesDrawn_38 : decode cX6_timesDrawn 38 = .ok (.iconst 0, 1) := by decide +kernel
theorem dX6_timesDrawn_39 : decode cX6_timesDrawn 39 = .ok (.iadd, 1) := by decide +kernel
theorem dX6_timesDrawn_40 : decode cX6_timesDrawn 40 = .ok (.istore_n 2, 1) := by decide +kernel
theorem dX6_timesDrawn_41 : decode cX6_timesDrawn 41 = .ok (.iinc 3 1, 3) := by decide +kernel
theorem dX6_timesDrawn_44 : decode cX6_timesDrawn 44 = .ok (.goto (-40), 3) := by decide +kernel
theorem dX6_timesDrawn_47 : decode cX6_timesDrawn 47 = .ok (.iload_n 2, 1) := by decide +kernel
theorem dX6_timesDrawn_48 : decode cX6_timesDrawn 48 = .ok (.ireturn, 1) := by decide +kernel
set_option maxRecDepth 20000 in
theorem ggX6_villager_X6_isVillager : GoodIn wsX6_villager wsX6_isVillager := goodIn_r _ [6, 1, 26, 27, 28, 29, 30, 31, 32, 33, 34] (by decide +kernel) (by decide +kernel)
set_option maxRecDepth 20000 in
theorem gX6_villager_X6_isVillager : GoodIn wsX6_villager (wsV RX6 55 RX6 yX6_isVillager wsX6_isVillager) := goodIn_app (goodIn_of _ (by decide +kernel)) ggX6_villager_X6_isVillager
set_option maxRecDepth 20000 in
theorem ggX6_villager_X6_in : GoodIn wsX6_villager wsX6_in := goodIn_r _ [9] (by decide +kernel) (by decide +kernel)
set_option maxRecDepth 20000 in
theorem gX6_villager_X6_in : GoodIn wsX6_villager (va_wsS RX6 58 yX6_in wsX6_in) := goodIn_app (goodIn_of _ (by decide +kernel)) ggX6_villager_X6_in
set_option maxRecDepth 20000 in
theorem ggX6_villager_X6_seatOf : GoodIn wsX6_villager wsX6_seatOf := goodIn_r _ [13, 1, 26, 27, 28, 29, 30, 31, 32, 33, 34] (by decide +kernel) (by decide +kernel)
set_option maxRecDepth 20000 in
theorem gX6_villager_X6_seatOf : GoodIn wsX6_villager (wsV RX6 34 RX6 yX6_seatOf wsX6_seatOf) := goodIn_app (goodIn_of _ (by decide +kernel)) ggX6_villager_X6_seatOf
set_option maxRecDepth 20000 in
theorem ggX6_villager_X6_newer : GoodIn wsX6_villager wsX6_newer := goodIn_r _ [17, 18, 19, 20, 5, 21, 1, 26, 27, 28, 29, 30, 31, 32, 33, 34] (by decide +kernel) (by decide +kernel)
set_option maxRecDepth 20000 in
theorem gX6_villager_X6_newer : GoodIn wsX6_villager (wsV RX6 38 RX6 yX6_newer wsX6_newer) := goodIn_app (goodIn_of _ (by decide +kernel)) ggX6_villager_X6_newer
set_option maxRecDepth 20000 in
theorem ggX6_villager_X6_timesDrawn : GoodIn wsX6_villager wsX6_timesDrawn := goodIn_r _ [25, 1, 26, 27, 28, 29, 30, 31, 32, 33, 34] (by decide +kernel) (by decide +kernel)
set_option maxRecDepth 20000 in
theorem gX6_villager_X6_timesDrawn : GoodIn wsX6_villager (wsV RX6 146 RX6 yX6_timesDrawn wsX6_timesDrawn) := goodIn_app (goodIn_of _ (by decide +kernel)) ggX6_villager_X6_timesDrawn
theorem dX6_villager_0 : decode cX6_villager 0 = .ok (.aload_n 0, 1) := by decide +kernel
theorem dX6_villager_1 : decode cX6_villager 1 = .ok (.iload_n 1, 1) := by decide +kernel
theorem dX6_villager_2 : decode cX6_villager 2 = .ok (.invokevirtual 55, 3) := by decide +kernel
theorem dX6_villager_5 : decode cX6_villager 5 = .ok (.ifCond .eq 12, 3) := by decide +kernel
theorem dX6_villager_8 : decode cX6_villager 8 = .ok (.iload_n 2, 1) := by decide +kernel
theorem dX6_villager_9 : decode cX6_villager 9 = .ok (.iconst 0, 1) := by decide +kernel
theorem dX6_villager_10 : decode cX6_villager 10 = .ok (.iconst 4, 1) := by decide +kernel
theorem dX6_villager_11 : decode cX6_villager 11 = .ok (.invokestatic 58, 3) := by decide +kernel
theorem dX6_villager_14 : decode cX6_villager 14 = .ok (.ifCond .ne 5, 3) := by decide +kernel
theorem dX6_villager_17 : decode cX6_villager 17 = .ok (.iconst (-1), 1) := by decide +kernel
theorem dX6_villager_18 : decode cX6_villager 18 = .ok (.ireturn, 1) := by decide +kernel
theorem dX6_villager_19 : decode cX6_villager 19 = .ok (.iload_n 2, 1) := by decide +kernel
theorem dX6_villager_20 : decode cX6_villager 20 = .ok (.tableswitch 70 0 3 #[32, 42, 52, 60], 32) := by decide +kernel
theorem dX6_villager_52 : decode cX6_villager 52 = .ok (.aload_n 0, 1) := by decide +kernel
theorem dX6_villager_53 : decode cX6_villager 53 = .ok (.getfield 7, 3) := by decide +kernel
theorem dX6_villager_56 : decode cX6_villager 56 = .ok (.bipush 8, 2) := by decide +kernel
theorem dX6_villager_58 : decode cX6_villager 58 = .ok (.iload_n 1, 1) := by decide +kernel
theorem dX6_villager_59 : decode cX6_villager 59 = .ok (.iadd, 1) := by decide +kernel
theorem dX6_villager_60 : decode cX6_villager 60 = .ok (.iaload, 1) := by decide +kernel
theorem dX6_villager_61 : decode cX6_villager 61 = .ok (.ireturn, 1) := by decide +kernel
theorem dX6_villager_62 : decode cX6_villager 62 = .ok (.aload_n 0, 1) := by decide +kernel
theorem dX6_villager_63 : decode cX6_villager 63 = .ok (.getfield 7, 3) := by decide +kernel
theorem dX6_villager_66 : decode cX6_villager 66 = .ok (.bipush 20, 2) := by decide +kernel
theorem dX6_villager_68 : decode cX6_villager 68 = .ok (.iload_n 1, 1) := by decide +kernel
theorem dX6_villager_69 : decode cX6_villager 69 = .ok (.iadd, 1) := by decide +kernel
theorem dX6_villager_70 : decode cX6_villager 70 = .ok (.iaload, 1) := by decide +kernel
theorem dX6_villager_71 : decode cX6_villager 71 = .ok (.ireturn, 1) := by decide +kernel
theorem dX6_villager_72 : decode cX6_villager 72 = .ok (.aload_n 0, 1) := by decide +kernel
theorem dX6_villager_73 : decode cX6_villager 73 = .ok (.bipush 32, 2) := by decide +kernel
theorem dX6_villager_75 : decode cX6_villager 75 = .ok (.iload_n 1, 1) := by decide +kernel
theorem dX6_villager_76 : decode cX6_villager 76 = .ok (.invokevirtual 34, 3) := by decide +kernel
theorem dX6_villager_79 : decode cX6_villager 79 = .ok (.ireturn, 1) := by decide +kernel
theorem dX6_villager_80 : decode cX6_villager 80 = .ok (.aload_n 0, 1) := by decide +kernel
theorem dX6_villager_81 : decode cX6_villager 81 = .ok (.aload_n 0, 1) := by decide +kernel
theorem dX6_villager_82 : decode cX6_villager 82 = .ok (.invokevirtual 38, 3) := by decide +kernel
theorem dX6_villager_85 : decode cX6_villager 85 = .ok (.iload_n 1, 1) := by decide +kernel
theorem dX6_villager_86 : decode cX6_villager 86 = .ok (.invokevirtual 34, 3) := by decide +kernel
theorem dX6_villager_89 : decode cX6_villager 89 = .ok (.ireturn, 1) := by decide +kernel
theorem dX6_villager_90 : decode cX6_villager 90 = .ok (.aload_n 0, 1) := by decide +kernel
theorem dX6_villager_91 : decode cX6_villager 91 = .ok (.iload_n 1, 1) := by decide +kernel
theorem dX6_villager_92 : decode cX6_villager 92 = .ok (.invokevirtual 146, 3) := by decide +kernel
theorem dX6_villager_95 : decode cX6_villager 95 = .ok (.ireturn, 1) := by decide +kernel
theorem dX6_copies_0 : decode cX6_copies 0 = .ok (.iconst 0, 1) := by decide +kernel
theorem dX6_copies_1 : decode cX6_copies 1 = .ok (.istore_n 2, 1) := by decide +kernel
theorem dX6_copies_2 : decode cX6_copies 2 = .ok (.iconst 0, 1) := by decide +kernel
theorem dX6_copies_3 : decode cX6_copies 3 = .ok (.istore_n 3, 1) := by decide +kernel
theorem dX6_copies_4 : decode cX6_copies 4 = .ok (.iload_n 3, 1) := by decide +kernel
theorem dX6_copies_5 : decode cX6_copies 5 = .ok (.aload_n 0, 1) := by decide +kernel
theorem dX6_copies_6 : decode cX6_copies 6 = .ok (.getfield 7, 3) := by decide +kernel
theorem dX6_copies_9 : decode cX6_copies 9 = .ok (.iconst 0, 1) := by decide +kernel
theorem dX6_copies_10 : decode cX6_copies 10 = .ok (.iaload, 1) := by decide +kernel
theorem dX6_copies_11 : decode cX6_copies 11 = .ok (.if_icmp .ge 30, 3) := by decide +kernel
theorem dX6_copies_14 : decode cX6_copies 14 = .ok (.iload_n 2, 1) := by decide +kernel
theorem dX6_copies_15 : decode cX6_copies 15 = .ok (.aload_n 0, 1) := by decide +kernel
theorem dX6_copies_16 : decode cX6_copies 16 = .ok (.getfield 7, 3) := by decide +kernel
theorem dX6_copies_19 : decode cX6_copies 19 = .ok (.bipush 20, 2) := by decide +kernel
theorem dX6_copies_21 : decode cX6_copies 21 = .ok (.iload_n 3, 1) := by decide +kernel
theorem dX6_copies_22 : decode cX6_copies 22 = .ok (.iadd, 1) := by decide +kernel
theorem dX6_copies_23 : decode cX6_copies 23 = .ok (.iaload, 1) := by decide +kernel
theorem dX6_copies_24 : decode cX6_copies 24 = .ok (.iload_n 1, 1) := by decide +kernel
theorem dX6_copies_25 : decode cX6_copies 25 = .ok (.if_icmp .le 7, 3) := by decide +kernel
theorem dX6_copies_28 : decode cX6_copies 28 = .ok (.iconst 1, 1) := by decide +kernel
theorem dX6_copies_29 : decode cX6_copies 29 = .ok (.goto 4, 3) := by decide +kernel
theorem dX6_copies_32 : decode cX6_copies 32 = .ok (.iconst 0, 1) := by decide +kernel
theorem dX6_copies_33 : decode cX6_copies 33 = .ok (.iadd, 1) := by decide +kernel
theorem dX6_copies_34 : decode cX6_copies 34 = .ok (.istore_n 2, 1) := by decide +kernel
theorem dX6_copies_35 : decode cX6_copies 35 = .ok (.iinc 3 1, 3) := by decide +kernel
theorem dX6_copies_38 : decode cX6_copies 38 = .ok (.goto (-34), 3) := by decide +kernel
theorem dX6_copies_41 : decode cX6_copies 41 = .ok (.iload_n 2, 1) := by decide +kernel
theorem dX6_copies_42 : decode cX6_copies 42 = .ok (.ireturn, 1) := by decide +kernel
set_option maxRecDepth 20000 in
theorem ggX6_entry_X6_isEntry : GoodIn wsX6_entry wsX6_isEntry := goodIn_r _ [6, 1, 26, 27, 28, 29, 30, 31, 32, 33, 34] (by decide +kernel) (by decide +kernel)
set_option maxRecDepth 20000 in
theorem gX6_entry_X6_isEntry : GoodIn wsX6_entry (wsV RX6 100 RX6 yX6_isEntry wsX6_isEntry) := goodIn_app (goodIn_of _ (by decide +kernel)) ggX6_entry_X6_isEntry
set_option maxRecDepth 20000 in
theorem ggX6_entry_X6_in : GoodIn wsX6_entry wsX6_in := goodIn_r _ [9] (by decide +kernel) (by decide +kernel)
set_option maxRecDepth 20000 in
theorem gX6_entry_X6_in : GoodIn wsX6_entry (va_wsS RX6 58 yX6_in wsX6_in) := goodIn_app (goodIn_of _ (by decide +kernel)) ggX6_entry_X6_in
set_option maxRecDepth 20000 in
theorem ggX6_entry_X6_copies : GoodIn wsX6_entry wsX6_copies := goodIn_r _ [13, 1, 26, 27, 28, 29, 30, 31, 32, 33, 34] (by decide +kernel) (by decide +kernel)
set_option maxRecDepth 20000 in
theorem gX6_entry_X6_copies : GoodIn wsX6_entry (wsV RX6 149 RX6 yX6_copies wsX6_copies) := goodIn_app (goodIn_of _ (by decide +kernel)) ggX6_entry_X6_copies
set_option maxRecDepth 20000 in
theorem ggX6_entry_X6_having : GoodIn wsX6_entry wsX6_having := goodIn_r _ [17, 1, 26, 27, 28, 29, 30, 31, 32, 33, 34] (by decide +kernel) (by decide +kernel)
set_option maxRecDepth 20000 in
theorem gX6_entry_X6_having : GoodIn wsX6_entry (wsV RX6 42 RX6 yX6_having wsX6_having) := goodIn_app (goodIn_of _ (by decide +kernel)) ggX6_entry_X6_having
set_option maxRecDepth 20000 in
theorem ggX6_entry_X6_newer : GoodIn wsX6_entry wsX6_newer := goodIn_r _ [21, 22, 23, 24, 5, 25, 1, 26, 27, 28, 29, 30, 31, 32, 33, 34] (by decide +kernel) (by decide +kernel)
set_option maxRecDepth 20000 in
theorem gX6_entry_X6_newer : GoodIn wsX6_entry (wsV RX6 38 RX6 yX6_newer wsX6_newer) := goodIn_app (goodIn_of _ (by decide +kernel)) ggX6_entry_X6_newer
theorem dX6_entry_0 : decode cX6_entry 0 = .ok (.aload_n 0, 1) := by decide +kernel
theorem dX6_entry_1 : decode cX6_entry 1 = .ok (.iload_n 1, 1) := by decide +kernel
theorem dX6_entry_2 : decode cX6_entry 2 = .ok (.invokevirtual 100, 3) := by decide +kernel
theorem dX6_entry_5 : decode cX6_entry 5 = .ok (.ifCond .eq 13, 3) := by decide +kernel
theorem dX6_entry_8 : decode cX6_entry 8 = .ok (.iload_n 2, 1) := by decide +kernel
theorem dX6_entry_9 : decode cX6_entry 9 = .ok (.iconst 0, 1) := by decide +kernel
theorem dX6_entry_10 : decode cX6_entry 10 = .ok (.bipush 6, 2) := by decide +kernel
theorem dX6_entry_12 : decode cX6_entry 12 = .ok (.invokestatic 58, 3) := by decide +kernel
theorem dX6_entry_15 : decode cX6_entry 15 = .ok (.ifCond .ne 5, 3) := by decide +kernel
theorem dX6_entry_18 : decode cX6_entry 18 = .ok (.iconst (-1), 1) := by decide +kernel
theorem dX6_entry_19 : decode cX6_entry 19 = .ok (.ireturn, 1) := by decide +kernel
theorem dX6_entry_20 : decode cX6_entry 20 = .ok (.iload_n 2, 1) := by decide +kernel
theorem dX6_entry_21 : decode cX6_entry 21 = .ok (.tableswitch 89 2 6 #[35, 51, 57, 71, 79], 35) := by decide +kernel
theorem dX6_entry_56 : decode cX6_entry 56 = .ok (.iload_n 1, 1) := by decide +kernel
theorem dX6_entry_57 : decode cX6_entry 57 = .ok (.aload_n 0, 1) := by decide +kernel
theorem dX6_entry_58 : decode cX6_entry 58 = .ok (.getfield 7, 3) := by decide +kernel
theorem dX6_entry_61 : decode cX6_entry 61 = .ok (.iconst 4, 1) := by decide +kernel
theorem dX6_entry_62 : decode cX6_entry 62 = .ok (.iaload, 1) := by decide +kernel
theorem dX6_entry_63 : decode cX6_entry 63 = .ok (.if_icmp .ge 7, 3) := by decide +kernel
theorem dX6_entry_66 : decode cX6_entry 66 = .ok (.iconst 1, 1) := by decide +kernel
theorem dX6_entry_67 : decode cX6_entry 67 = .ok (.goto 4, 3) := by decide +kernel
theorem dX6_entry_70 : decode cX6_entry 70 = .ok (.iconst 0, 1) := by decide +kernel
theorem dX6_entry_71 : decode cX6_entry 71 = .ok (.ireturn, 1) := by decide +kernel
theorem dX6_entry_72 : decode cX6_entry 72 = .ok (.aload_n 0, 1) := by decide +kernel
theorem dX6_entry_73 : decode cX6_entry 73 = .ok (.iload_n 1, 1) := by decide +kernel
theorem dX6_entry_74 : decode cX6_entry 74 = .ok (.invokevirtual 149, 3) := by decide +kernel
theorem dX6_entry_77 : decode cX6_entry 77 = .ok (.ireturn, 1) := by decide +kernel
theorem dX6_entry_78 : decode cX6_entry 78 = .ok (.aload_n 0, 1) := by decide +kernel
theorem dX6_entry_79 : decode cX6_entry 79 = .ok (.getfield 7, 3) := by decide +kernel
theorem dX6_entry_82 : decode cX6_entry 82 = .ok (.bipush 42, 2) := by decide +kernel
theorem dX6_entry_84 : decode cX6_entry 84 = .ok (.iconst 3, 1) := by decide +kernel
theorem dX6_entry_85 : decode cX6_entry 85 = .ok (.iload_n 1, 1) := by decide +kernel
theorem dX6_entry_86 : decode cX6_entry 86 = .ok (.imul, 1) := by decide +kernel
theorem dX6_entry_87 : decode cX6_entry 87 = .ok (.iadd, 1) := by decide +kernel
theorem dX6_entry_88 : decode cX6_entry 88 = .ok (.iconst 2, 1) := by decide +kernel
theorem dX6_entry_89 : decode cX6_entry 89 = .ok (.iadd, 1) := by decide +kernel
theorem dX6_entry_90 : decode cX6_entry 90 = .ok (.iaload, 1) := by decide +kernel
theorem dX6_entry_91 : decode cX6_entry 91 = .ok (.ireturn, 1) := by decide +kernel
theorem dX6_entry_92 : decode cX6_entry 92 = .ok (.aload_n 0, 1) := by decide +kernel
theorem dX6_entry_93 : decode cX6_entry 93 = .ok (.bipush 32, 2) := by decide +kernel
theorem dX6_entry_95 : decode cX6_entry 95 = .ok (.iload_n 1, 1) := by decide +kernel
theorem dX6_entry_96 : decode cX6_entry 96 = .ok (.invokevirtual 42, 3) := by decide +kernel
theorem dX6_entry_99 : decode cX6_entry 99 = .ok (.ireturn, 1) := by decide +kernel
theorem dX6_entry_100 : decode cX6_entry 100 = .ok (.aload_n 0, 1) := by decide +kernel
theorem dX6_entry_101 : decode cX6_entry 101 = .ok (.aload_n 0, 1) := by decide +kernel
theorem dX6_entry_102 : decode cX6_entry 102 = .ok (.invokevirtual 38, 3) := by decide +kernel
theorem dX6_entry_105 : decode cX6_entry 105 = .ok (.iload_n 1, 1) := by decide +kernel
theorem dX6_entry_106 : decode cX6_entry 106 = .ok (.invokevirtual 42, 3) := by decide +kernel
theorem dX6_entry_109 : decode cX6_entry 109 = .ok (.ireturn, 1) := by decide +kernel
theorem dX6_entry_110 : decode cX6_entry 110 = .ok (.aload_n 0, 1) := by decide +kernel
theorem dX6_entry_111 : decode cX6_entry 111 = .ok (.getfield 7, 3) := by decide +kernel
theorem dX6_entry_114 : decode cX6_entry 114 = .ok (.bipush 42, 2) := by decide +kernel
theorem dX6_entry_116 : decode cX6_entry 116 = .ok (.iconst 3, 1) := by decide +kernel
theorem dX6_entry_117 : decode cX6_entry 117 = .ok (.iload_n 1, 1) := by decide +kernel
theorem dX6_entry_118 : decode cX6_entry 118 = .ok (.imul, 1) := by decide +kernel
theorem dX6_entry_119 : decode cX6_entry 119 = .ok (.iadd, 1) := by decide +kernel
theorem dX6_entry_120 : decode cX6_entry 120 = .ok (.iload_n 2, 1) := by decide +kernel
theorem dX6_entry_121 : decode cX6_entry 121 = .ok (.iadd, 1) := by decide +kernel
theorem dX6_entry_122 : decode cX6_entry 122 = .ok (.iaload, 1) := by decide +kernel
theorem dX6_entry_123 : decode cX6_entry 123 = .ok (.ireturn, 1) := by decide +kernel
set_option maxRecDepth 20000 in
theorem ggX6_draw_X6_in : GoodIn wsX6_draw wsX6_in := goodIn_r _ [5] (by decide +kernel) (by decide +kernel)
set_option maxRecDepth 20000 in
theorem gX6_draw_X6_in : GoodIn wsX6_draw (va_wsS RX6 58 yX6_in wsX6_in) := goodIn_app (goodIn_of _ (by decide +kernel)) ggX6_draw_X6_in
set_option maxRecDepth 20000 in
theorem ggX6_draw_X6_isForged : GoodIn wsX6_draw wsX6_isForged := goodIn_r _ [9, 1, 10, 11, 12, 13, 14, 15, 16, 17, 18] (by decide +kernel) (by decide +kernel)
set_option maxRecDepth 20000 in
theorem gX6_draw_X6_isForged : GoodIn wsX6_draw (wsV RX6 140 RX6 yX6_isForged wsX6_isForged) := goodIn_app (goodIn_of _ (by decide +kernel)) ggX6_draw_X6_isForged
theorem dX6_draw_0 : decode cX6_draw 0 = .ok (.iload_n 1, 1) := by decide +kernel
theorem dX6_draw_1 : decode cX6_draw 1 = .ok (.ifCond .lt 23, 3) := by decide +kernel
theorem dX6_draw_4 : decode cX6_draw 4 = .ok (.iload_n 1, 1) := by decide +kernel
theorem dX6_draw_5 : decode cX6_draw 5 = .ok (.aload_n 0, 1) := by decide +kernel
theorem dX6_draw_6 : decode cX6_draw 6 = .ok (.getfield 7, 3) := by decide +kernel
theorem dX6_draw_9 : decode cX6_draw 9 = .ok (.bipush 7, 2) := by decide +kernel
theorem dX6_draw_11 : decode cX6_draw 11 = .ok (.iaload, 1) := by decide +kernel
theorem dX6_draw_12 : decode cX6_draw 12 = .ok (.if_icmp .ge 12, 3) := by decide +kernel
theorem dX6_draw_15 : decode cX6_draw 15 = .ok (.iload_n 2, 1) := by decide +kernel
theorem dX6_draw_16 : decode cX6_draw 16 = .ok (.iconst 0, 1) := by decide +kernel
theorem dX6_draw_17 : decode cX6_draw 17 = .ok (.iconst 4, 1) := by decide +kernel
theorem dX6_draw_18 : decode cX6_draw 18 = .ok (.invokestatic 58, 3) := by decide +kernel
theorem dX6_draw_21 : decode cX6_draw 21 = .ok (.ifCond .ne 5, 3) := by decide +kernel
theorem dX6_draw_24 : decode cX6_draw 24 = .ok (.iconst (-1), 1) := by decide +kernel
theorem dX6_draw_25 : decode cX6_draw 25 = .ok (.ireturn, 1) := by decide +kernel
theorem dX6_draw_26 : decode cX6_draw 26 = .ok (.iload_n 2, 1) := by decide +kernel
theorem dX6_draw_27 : decode cX6_draw 27 = .ok (.iconst 3, 1) := by decide +kernel
theorem dX6_draw_28 : decode cX6_draw 28 = .ok (.if_icmp .ne 19, 3) := by decide +kernel
theorem dX6_draw_31 : decode cX6_draw 31 = .ok (.aload_n 0, 1) := by decide +kernel
theorem dX6_draw_32 : decode cX6_draw 32 = .ok (.iload_n 1, 1) := by decide +kernel
theorem dX6_draw_33 : decode cX6_draw 33 = .ok (.invokevirtual 140, 3) := by decide +kernel
theorem dX6_draw_36 : decode cX6_draw 36 = .ok (.ifCond .eq 7, 3) := by decide +kernel
theorem dX6_draw_39 : decode cX6_draw 39 = .ok (.iconst 1, 1) := by decide +kernel
theorem dX6_draw_40 : decode cX6_draw 40 = .ok (.goto 21, 3) := by decide +kernel
theorem dX6_draw_43 : decode cX6_draw 43 = .ok (.iconst 0, 1) := by decide +kernel
theorem dX6_draw_44 : decode cX6_draw 44 = .ok (.goto 17, 3) := by decide +kernel
theorem dX6_draw_47 : decode cX6_draw 47 = .ok (.aload_n 0, 1) := by decide +kernel
theorem dX6_draw_48 : decode cX6_draw 48 = .ok (.getfield 7, 3) := by decide +kernel
theorem dX6_draw_51 : decode cX6_draw 51 = .ok (.sipush 222, 3) := by decide +kernel
theorem dX6_draw_54 : decode cX6_draw 54 = .ok (.iconst 5, 1) := by decide +kernel
theorem dX6_draw_55 : decode cX6_draw 55 = .ok (.iload_n 1, 1) := by decide +kernel
theorem dX6_draw_56 : decode cX6_draw 56 = .ok (.imul, 1) := by decide +kernel
theorem dX6_draw_57 : decode cX6_draw 57 = .ok (.iadd, 1) := by decide +kernel
theorem dX6_draw_58 : decode cX6_draw 58 = .ok (.iload_n 2, 1) := by decide +kernel
theorem dX6_draw_59 : decode cX6_draw 59 = .ok (.iadd, 1) := by decide +kernel
theorem dX6_draw_60 : decode cX6_draw 60 = .ok (.iaload, 1) := by decide +kernel
theorem dX6_draw_61 : decode cX6_draw 61 = .ok (.ireturn, 1) := by decide +kernel
theorem dX6_fewest_0 : decode cX6_fewest 0 = .ok (.iload_n 0, 1) := by decide +kernel
theorem dX6_fewest_1 : decode cX6_fewest 1 = .ok (.iload_n 1, 1) := by decide +kernel
theorem dX6_fewest_2 : decode cX6_fewest 2 = .ok (.if_icmp .le 7, 3) := by decide +kernel
theorem dX6_fewest_5 : decode cX6_fewest 5 = .ok (.iload_n 0, 1) := by decide +kernel
theorem dX6_fewest_6 : decode cX6_fewest 6 = .ok (.goto 4, 3) := by decide +kernel
theorem dX6_fewest_9 : decode cX6_fewest 9 = .ok (.iload_n 1, 1) := by decide +kernel
theorem dX6_fewest_10 : decode cX6_fewest 10 = .ok (.istore_n 3, 1) := by decide +kernel
theorem dX6_fewest_11 : decode cX6_fewest 11 = .ok (.iload_n 3, 1) := by decide +kernel
theorem dX6_fewest_12 : decode cX6_fewest 12 = .ok (.iload_n 2, 1) := by decide +kernel
theorem dX6_fewest_13 : decode cX6_fewest 13 = .ok (.if_icmp .ge 7, 3) := by decide +kernel
theorem dX6_fewest_16 : decode cX6_fewest 16 = .ok (.iload_n 3, 1) := by decide +kernel
theorem dX6_fewest_17 : decode cX6_fewest 17 = .ok (.goto 4, 3) := by decide +kernel
theorem dX6_fewest_20 : decode cX6_fewest 20 = .ok (.iload_n 2, 1) := by decide +kernel
theorem dX6_fewest_21 : decode cX6_fewest 21 = .ok (.istore 4, 2) := by decide +kernel
theorem dX6_fewest_23 : decode cX6_fewest 23 = .ok (.iload 4, 2) := by decide +kernel
theorem dX6_fewest_25 : decode cX6_fewest 25 = .ok (.ifCond .ge 7, 3) := by decide +kernel
theorem dX6_fewest_28 : decode cX6_fewest 28 = .ok (.iconst 0, 1) := by decide +kernel
theorem dX6_fewest_29 : decode cX6_fewest 29 = .ok (.goto 5, 3) := by decide +kernel
theorem dX6_fewest_32 : decode cX6_fewest 32 = .ok (.iload 4, 2) := by decide +kernel
theorem dX6_fewest_34 : decode cX6_fewest 34 = .ok (.istore 4, 2) := by decide +kernel
theorem dX6_fewest_36 : decode cX6_fewest 36 = .ok (.iload 4, 2) := by decide +kernel
theorem dX6_fewest_38 : decode cX6_fewest 38 = .ok (.iload_n 0, 1) := by decide +kernel
theorem dX6_fewest_39 : decode cX6_fewest 39 = .ok (.iload 4, 2) := by decide +kernel
theorem dX6_fewest_41 : decode cX6_fewest 41 = .ok (.if_icmp .le 10, 3) := by decide +kernel
theorem dX6_fewest_44 : decode cX6_fewest 44 = .ok (.iload_n 0, 1) := by decide +kernel
theorem dX6_fewest_45 : decode cX6_fewest 45 = .ok (.iload 4, 2) := by decide +kernel
theorem dX6_fewest_47 : decode cX6_fewest 47 = .ok (.isub, 1) := by decide +kernel
theorem dX6_fewest_48 : decode cX6_fewest 48 = .ok (.goto 4, 3) := by decide +kernel
theorem dX6_fewest_51 : decode cX6_fewest 51 = .ok (.iconst 0, 1) := by decide +kernel
theorem dX6_fewest_52 : decode cX6_fewest 52 = .ok (.iadd, 1) := by decide +kernel
theorem dX6_fewest_53 : decode cX6_fewest 53 = .ok (.iload_n 1, 1) := by decide +kernel
theorem dX6_fewest_54 : decode cX6_fewest 54 = .ok (.iload 4, 2) := by decide +kernel
theorem dX6_fewest_56 : decode cX6_fewest 56 = .ok (.if_icmp .le 10, 3) := by decide +kernel
theorem dX6_fewest_59 : decode cX6_fewest 59 = .ok (.iload_n 1, 1) := by decide +kernel
theorem dX6_fewest_60 : decode cX6_fewest 60 = .ok (.iload 4, 2) := by decide +kernel
theorem dX6_fewest_62 : decode cX6_fewest 62 = .ok (.isub, 1) := by decide +kernel
theorem dX6_fewest_63 : decode cX6_fewest 63 = .ok (.goto 4, 3) := by decide +kernel
theorem dX6_fewest_66 : decode cX6_fewest 66 = .ok (.iconst 0, 1) := by decide +kernel
theorem dX6_fewest_67 : decode cX6_fewest 67 = .ok (.iadd, 1) := by decide +kernel
theorem dX6_fewest_68 : decode cX6_fewest 68 = .ok (.ireturn, 1) := by decide +kernel
set_option maxRecDepth 20000 in
theorem ggX6_missing_X6_isEntry : GoodIn wsX6_missing wsX6_isEntry := goodIn_r _ [6, 1, 22, 23, 24, 25, 26, 27, 28, 29, 30] (by decide +kernel) (by decide +kernel)
set_option maxRecDepth 20000 in
theorem gX6_missing_X6_isEntry : GoodIn wsX6_missing (wsV RX6 100 RX6 yX6_isEntry wsX6_isEntry) := goodIn_app (goodIn_of _ (by decide +kernel)) ggX6_missing_X6_isEntry
set_option maxRecDepth 20000 in
theorem ggX6_missing_X6_newer : GoodIn wsX6_missing wsX6_newer := goodIn_r _ [10, 11, 12, 13, 5, 14, 1, 22, 23, 24, 25, 26, 27, 28, 29, 30] (by decide +kernel) (by decide +kernel)
set_option maxRecDepth 20000 in
theorem gX6_missing_X6_newer : GoodIn wsX6_missing (wsV RX6 38 RX6 yX6_newer wsX6_newer) := goodIn_app (goodIn_of _ (by decide +kernel)) ggX6_missing_X6_newer
set_option maxRecDepth 20000 in
theorem ggX6_missing_X6_having : GoodIn wsX6_missing wsX6_having := goodIn_r _ [18, 1, 22, 23, 24, 25, 26, 27, 28, 29, 30] (by decide +kernel) (by decide +kernel)
set_option maxRecDepth 20000 in
theorem gX6_missing_X6_having : GoodIn wsX6_missing (wsV RX6 42 RX6 yX6_having wsX6_having) := goodIn_app (goodIn_of _ (by decide +kernel)) ggX6_missing_X6_having
set_option maxRecDepth 20000 in
theorem ggX6_missing_X6_goesOn : GoodIn wsX6_missing wsX6_goesOn := goodIn_r _ [14, 1, 22, 23, 24, 25, 26, 27, 28, 29, 30] (by decide +kernel) (by decide +kernel)
set_option maxRecDepth 20000 in
theorem gX6_missing_X6_goesOn : GoodIn wsX6_missing (wsV RX6 30 RX6 yX6_goesOn wsX6_goesOn) := goodIn_app (goodIn_of _ (by decide +kernel)) ggX6_missing_X6_goesOn
set_option maxRecDepth 20000 in
theorem ggX6_missing_X6_fewest : GoodIn wsX6_missing wsX6_fewest := goodIn_r _ [21] (by decide +kernel) (by decide +kernel)
set_option maxRecDepth 20000 in
theorem gX6_missing_X6_fewest : GoodIn wsX6_missing (va_wsS RX6 152 yX6_fewest wsX6_fewest) := goodIn_app (goodIn_of _ (by decide +kernel)) ggX6_missing_X6_fewest
theorem dX6_missing_0 : decode cX6_missing 0 = .ok (.aload_n 0, 1) := by decide +kernel
theorem dX6_missing_1 : decode cX6_missing 1 = .ok (.iload_n 1, 1) := by decide +kernel
theorem dX6_missing_2 : decode cX6_missing 2 = .ok (.invokevirtual 100, 3) := by decide +kernel
theorem dX6_missing_5 : decode cX6_missing 5 = .ok (.ifCond .ne 5, 3) := by decide +kernel
theorem dX6_missing_8 : decode cX6_missing 8 = .ok (.iconst (-1), 1) := by decide +kernel
theorem dX6_missing_9 : decode cX6_missing 9 = .ok (.ireturn, 1) := by decide +kernel
theorem dX6_missing_10 : decode cX6_missing 10 = .ok (.iload_n 1, 1) := by decide +kernel
theorem dX6_missing_11 : decode cX6_missing 11 = .ok (.aload_n 0, 1) := by decide +kernel
theorem dX6_missing_12 : decode cX6_missing 12 = .ok (.getfield 7, 3) := by decide +kernel
theorem dX6_missing_15 : decode cX6_missing 15 = .ok (.iconst 4, 1) := by decide +kernel
theorem dX6_missing_16 : decode cX6_missing 16 = .ok (.iaload, 1) := by decide +kernel
theorem dX6_missing_17 : decode cX6_missing 17 = .ok (.if_icmp .ge 5, 3) := by decide +kernel
theorem dX6_missing_20 : decode cX6_missing 20 = .ok (.iconst 0, 1) := by decide +kernel
theorem dX6_missing_21 : decode cX6_missing 21 = .ok (.ireturn, 1) := by decide +kernel
theorem dX6_missing_22 : decode cX6_missing 22 = .ok (.aload_n 0, 1) := by decide +kernel
theorem dX6_missing_23 : decode cX6_missing 23 = .ok (.getfield 7, 3) := by decide +kernel
theorem dX6_missing_26 : decode cX6_missing 26 = .ok (.iconst 1, 1) := by decide +kernel
theorem dX6_missing_27 : decode cX6_missing 27 = .ok (.iaload, 1) := by decide +kernel
theorem dX6_missing_28 : decode cX6_missing 28 = .ok (.iconst 2, 1) := by decide +kernel
theorem dX6_missing_29 : decode cX6_missing 29 = .ok (.idiv, 1) := by decide +kernel
theorem dX6_missing_30 : decode cX6_missing 30 = .ok (.iconst 1, 1) := by decide +kernel
theorem dX6_missing_31 : decode cX6_missing 31 = .ok (.iadd, 1) := by decide +kernel
theorem dX6_missing_32 : decode cX6_missing 32 = .ok (.istore_n 2, 1) := by decide +kernel
theorem dX6_missing_33 : decode cX6_missing 33 = .ok (.iload_n 2, 1) := by decide +kernel
theorem dX6_missing_34 : decode cX6_missing 34 = .ok (.aload_n 0, 1) := by decide +kernel
theorem dX6_missing_35 : decode cX6_missing 35 = .ok (.aload_n 0, 1) := by decide +kernel
theorem dX6_missing_36 : decode cX6_missing 36 = .ok (.invokevirtual 38, 3) := by decide +kernel
theorem dX6_missing_39 : decode cX6_missing 39 = .ok (.iload_n 1, 1) := by decide +kernel
theorem dX6_missing_40 : decode cX6_missing 40 = .ok (.invokevirtual 42, 3) := by decide +kernel
theorem dX6_missing_43 : decode cX6_missing 43 = .ok (.isub, 1) := by decide +kernel
theorem dX6_missing_44 : decode cX6_missing 44 = .ok (.istore_n 3, 1) := by decide +kernel
theorem dX6_missing_45 : decode cX6_missing 45 = .ok (.aload_n 0, 1) := by decide +kernel
theorem dX6_missing_46 : decode cX6_missing 46 = .ok (.invokevirtual 30, 3) := by decide +kernel
theorem dX6_missing_49 : decode cX6_missing 49 = .ok (.ifCond .eq 13, 3) := by decide +kernel
theorem dX6_missing_52 : decode cX6_missing 52 = .ok (.iload_n 1, 1) := by decide +kernel
theorem dX6_missing_53 : decode cX6_missing 53 = .ok (.aload_n 0, 1) := by decide +kernel
theorem dX6_missing_54 : decode cX6_missing 54 = .ok (.getfield 7, 3) := by decide +kernel
theorem dX6_missing_57 : decode cX6_missing 57 = .ok (.iconst 5, 1) := by decide +kernel
theorem dX6_missing_58 : decode cX6_missing 58 = .ok (.iaload, 1) := by decide +kernel
theorem dX6_missing_59 : decode cX6_missing 59 = .ok (.if_icmp .le 13, 3) := by decide +kernel
theorem dX6_missing_62 : decode cX6_missing 62 = .ok (.iload_n 3, 1) := by decide +kernel
theorem dX6_missing_63 : decode cX6_missing 63 = .ok (.ifCond .ge 7, 3) := by decide +kernel
theorem dX6_missing_66 : decode cX6_missing 66 = .ok (.iconst 0, 1) := by decide +kernel
theorem dX6_missing_67 : decode cX6_missing 67 = .ok (.goto 4, 3) := by decide +kernel
theorem dX6_missing_70 : decode cX6_missing 70 = .ok (.iload_n 3, 1) := by decide +kernel
theorem dX6_missing_71 : decode cX6_missing 71 = .ok (.ireturn, 1) := by decide +kernel
theorem dX6_missing_72 : decode cX6_missing 72 = .ok (.iconst 0, 1) := by decide +kernel
theorem dX6_missing_73 : decode cX6_missing 73 = .ok (.istore 4, 2) := by decide +kernel
theorem dX6_missing_75 : decode cX6_missing 75 = .ok (.iconst 0, 1) := by decide +kernel
theorem dX6_missing_76 : decode cX6_missing 76 = .ok (.istore 5, 2) := by decide +kernel
theorem dX6_missing_78 : decode cX6_missing 78 = .ok (.iload 5, 2) := by decide +kernel
theorem dX6_missing_80 : decode cX6_missing 80 = .ok (.aload_n 0, 1) := by decide +kernel
theorem dX6_missing_81 : decode cX6_missing 81 = .ok (.getfield 7, 3) := by decide +kernel
theorem dX6_missing_84 : decode cX6_missing 84 = .ok (.iconst 1, 1) := by decide +kernel
theorem dX6_missing_85 : decode cX6_missing 85 = .ok (.iaload, 1) := by decide +kernel
theorem dX6_missing_86 : decode cX6_missing 86 = .ok (.if_icmp .ge 64, 3) := by decide +kernel
theorem dX6_missing_89 : decode cX6_missing 89 = .ok (.iload 4, 2) := by decide +kernel
theorem dX6_missing_91 : decode cX6_missing 91 = .ok (.aload_n 0, 1) := by decide +kernel
theorem dX6_missing_92 : decode cX6_missing 92 = .ok (.getfield 7, 3) := by decide +kernel
theorem dX6_missing_95 : decode cX6_missing 95 = .ok (.bipush 32, 2) := by decide +kernel
theorem dX6_missing_97 : decode cX6_missing 97 = .ok (.iload 5, 2) := by decide +kernel
theorem dX6_missing_99 : decode cX6_missing 99 = .ok (.iadd, 1) := by decide +kernel
theorem dX6_missing_100 : decode cX6_missing 100 = .ok (.iaload, 1) := by decide +kernel
theorem dX6_missing_101 : decode cX6_missing 101 = .ok (.aload_n 0, 1) := by decide +kernel
theorem dX6_missing_102 : decode cX6_missing 102 = .ok (.getfield 7, 3) := by decide +kernel
theorem dX6_missing_105 : decode cX6_missing 105 = .ok (.bipush 37, 2) := by decide +kernel
theorem dX6_missing_107 : decode cX6_missing 107 = .ok (.iload 5, 2) := by decide +kernel
theorem dX6_missing_109 : decode cX6_missing 109 = .ok (.iadd, 1) := by decide +kernel
theorem dX6_missing_110 : decode cX6_missing 110 = .ok (.iaload, 1) := by decide +kernel
theorem dX6_missing_111 : decode cX6_missing 111 = .ok (.if_icmp .ne 29, 3) := by decide +kernel
theorem dX6_missing_114 : decode cX6_missing 114 = .ok (.aload_n 0, 1) := by decide +kernel
theorem dX6_missing_115 : decode cX6_missing 115 = .ok (.getfield 7, 3) := by decide +kernel
theorem dX6_missing_118 : decode cX6_missing 118 = .ok (.bipush 20, 2) := by decide +kernel
theorem dX6_missing_120 : decode cX6_missing 120 = .ok (.aload_n 0, 1) := by decide +kernel
theorem dX6_missing_121 : decode cX6_missing 121 = .ok (.getfield 7, 3) := by decide +kernel
theorem dX6_missing_124 : decode cX6_missing 124 = .ok (.bipush 32, 2) := by decide +kernel
theorem dX6_missing_126 : decode cX6_missing 126 = .ok (.iload 5, 2) := by decide +kernel
theorem dX6_missing_128 : decode cX6_missing 128 = .ok (.iadd, 1) := by decide +kernel
theorem dX6_missing_129 : decode cX6_missing 129 = .ok (.iaload, 1) := by decide +kernel
theorem dX6_missing_130 : decode cX6_missing 130 = .ok (.iadd, 1) := by decide +kernel
theorem dX6_missing_131 : decode cX6_missing 131 = .ok (.iaload, 1) := by decide +kernel
theorem dX6_missing_132 : decode cX6_missing 132 = .ok (.iload_n 1, 1) := by decide +kernel
theorem dX6_missing_133 : decode cX6_missing 133 = .ok (.if_icmp .gt 7, 3) := by decide +kernel
theorem dX6_missing_136 : decode cX6_missing 136 = .ok (.iconst 1, 1) := by decide +kernel
theorem dX6_missing_137 : decode cX6_missing 137 = .ok (.goto 4, 3) := by decide +kernel
theorem dX6_missing_140 : decode cX6_missing 140 = .ok (.iconst 0, 1) := by decide +kernel
theorem dX6_missing_141 : decode cX6_missing 141 = .ok (.iadd, 1) := by decide +kernel
theorem dX6_missing_142 : decode cX6_missing 142 = .ok (.istore 4, 2) := by decide +kernel
theorem dX6_missing_144 : decode cX6_missing 144 = .ok (.iinc 5 1, 3) := by decide +kernel
theorem dX6_missing_147 : decode cX6_missing 147 = .ok (.goto (-69), 3) := by decide +kernel
theorem dX6_missing_150 : decode cX6_missing 150 = .ok (.iload_n 2, 1) := by decide +kernel
theorem dX6_missing_151 : decode cX6_missing 151 = .ok (.aload_n 0, 1) := by decide +kernel
theorem dX6_missing_152 : decode cX6_missing 152 = .ok (.bipush 32, 2) := by decide +kernel
theorem dX6_missing_154 : decode cX6_missing 154 = .ok (.iload_n 1, 1) := by decide +kernel
theorem dX6_missing_155 : decode cX6_missing 155 = .ok (.invokevirtual 42, 3) := by decide +kernel
theorem dX6_missing_158 : decode cX6_missing 158 = .ok (.isub, 1) := by decide +kernel
theorem dX6_missing_159 : decode cX6_missing 159 = .ok (.iload_n 3, 1) := by decide +kernel
theorem dX6_missing_160 : decode cX6_missing 160 = .ok (.iload 4, 2) := by decide +kernel
theorem dX6_missing_162 : decode cX6_missing 162 = .ok (.invokestatic 152, 3) := by decide +kernel
theorem dX6_missing_165 : decode cX6_missing 165 = .ok (.ireturn, 1) := by decide +kernel
set_option maxRecDepth 20000 in
theorem ggX6_reachable_X6_holds : GoodIn wsX6_reachable wsX6_holds := goodIn_r _ [6, 7, 1, 48, 49, 50, 51, 52, 53, 54, 55, 56] (by decide +kernel) (by decide +kernel)
set_option maxRecDepth 20000 in
theorem gX6_reachable_X6_holds : GoodIn wsX6_reachable (wsV RX6 131 RX6 yX6_holds wsX6_holds) := goodIn_app (goodIn_of _ (by decide +kernel)) ggX6_reachable_X6_holds
set_option maxRecDepth 20000 in
theorem ggX6_reachable_X6_isElder : GoodIn wsX6_reachable wsX6_isElder := goodIn_r _ [11, 12, 13, 14, 5, 15, 1, 16, 17, 18, 19, 20, 21, 22, 23, 48, 49, 50, 51, 52, 53, 54, 55, 56] (by decide +kernel) (by decide +kernel)
set_option maxRecDepth 20000 in
theorem gX6_reachable_X6_isElder : GoodIn wsX6_reachable (wsV RX6 72 RX6 yX6_isElder wsX6_isElder) := goodIn_app (goodIn_of _ (by decide +kernel)) ggX6_reachable_X6_isElder
set_option maxRecDepth 20000 in
theorem ggX6_reachable_X6_isPresent : GoodIn wsX6_reachable wsX6_isPresent := goodIn_r _ [27, 1, 48, 49, 50, 51, 52, 53, 54, 55, 56] (by decide +kernel) (by decide +kernel)
set_option maxRecDepth 20000 in
theorem gX6_reachable_X6_isPresent : GoodIn wsX6_reachable (wsV RX6 75 RX6 yX6_isPresent wsX6_isPresent) := goodIn_app (goodIn_of _ (by decide +kernel)) ggX6_reachable_X6_isPresent
set_option maxRecDepth 20000 in
theorem ggX6_reachable_X6_agrees : GoodIn wsX6_reachable wsX6_agrees := goodIn_r _ [31, 1, 32, 33, 34, 5, 35, 36, 37, 38, 39, 16, 17, 18, 19, 20, 21, 22, 23, 40, 41, 42, 43, 48, 49, 50, 51, 52, 53, 54, 55, 56] (by decide +kernel) (by decide +kernel)
set_option maxRecDepth 20000 in
theorem gX6_reachable_X6_agrees : GoodIn wsX6_reachable (wsV RX6 97 RX6 yX6_agrees wsX6_agrees) := goodIn_app (goodIn_of _ (by decide +kernel)) ggX6_reachable_X6_agrees
set_option maxRecDepth 20000 in
theorem ggX6_reachable_X6_exchanges : GoodIn wsX6_reachable wsX6_exchanges := goodIn_r _ [47, 1, 7, 48, 49, 50, 51, 52, 53, 54, 55, 56] (by decide +kernel) (by decide +kernel)
set_option maxRecDepth 20000 in
theorem gX6_reachable_X6_exchanges : GoodIn wsX6_reachable (wsV RX6 137 RX6 yX6_exchanges wsX6_exchanges) := goodIn_app (goodIn_of _ (by decide +kernel)) ggX6_reachable_X6_exchanges
theorem dX6_reachable_0 : decode cX6_reachable 0 = .ok (.aload_n 0, 1) := by decide +kernel
theorem dX6_reachable_1 : decode cX6_reachable 1 = .ok (.invokevirtual 131, 3) := by decide +kernel
theorem dX6_reachable_4 : decode cX6_reachable 4 = .ok (.iconst 0, 1) := by decide +kernel
theorem dX6_reachable_5 : decode cX6_reachable 5 = .ok (.istore_n 1, 1) := by decide +kernel
theorem dX6_reachable_6 : decode cX6_reachable 6 = .ok (.iload_n 1, 1) := by decide +kernel
theorem dX6_reachable_7 : decode cX6_reachable 7 = .ok (.aload_n 0, 1) := by decide +kernel
theorem dX6_reachable_8 : decode cX6_reachable 8 = .ok (.getfield 7, 3) := by decide +kernel
theorem dX6_reachable_11 : decode cX6_reachable 11 = .ok (.iconst 0, 1) := by decide +kernel
theorem dX6_reachable_12 : decode cX6_reachable 12 = .ok (.iaload, 1) := by decide +kernel
theorem dX6_reachable_13 : decode cX6_reachable 13 = .ok (.if_icmp .ge 52, 3) := by decide +kernel
theorem dX6_reachable_16 : decode cX6_reachable 16 = .ok (.aload_n 0, 1) := by decide +kernel
theorem dX6_reachable_17 : decode cX6_reachable 17 = .ok (.getfield 7, 3) := by decide +kernel
theorem dX6_reachable_20 : decode cX6_reachable 20 = .ok (.bipush 20, 2) := by decide +kernel
theorem dX6_reachable_22 : decode cX6_reachable 22 = .ok (.iload_n 1, 1) := by decide +kernel
theorem dX6_reachable_23 : decode cX6_reachable 23 = .ok (.iadd, 1) := by decide +kernel
theorem dX6_reachable_24 : decode cX6_reachable 24 = .ok (.aload_n 0, 1) := by decide +kernel
theorem dX6_reachable_25 : decode cX6_reachable 25 = .ok (.iload_n 1, 1) := by decide +kernel
theorem dX6_reachable_26 : decode cX6_reachable 26 = .ok (.invokevirtual 72, 3) := by decide +kernel
theorem dX6_reachable_29 : decode cX6_reachable 29 = .ok (.ifCond .eq 20, 3) := by decide +kernel
theorem dX6_reachable_32 : decode cX6_reachable 32 = .ok (.aload_n 0, 1) := by decide +kernel
theorem dX6_reachable_33 : decode cX6_reachable 33 = .ok (.iload_n 1, 1) := by decide +kernel
theorem dX6_reachable_34 : decode cX6_reachable 34 = .ok (.invokevirtual 75, 3) := by decide +kernel
theorem dX6_reachable_37 : decode cX6_reachable 37 = .ok (.ifCond .eq 12, 3) := by decide +kernel
theorem dX6_reachable_40 : decode cX6_reachable 40 = .ok (.aload_n 0, 1) := by decide +kernel
theorem dX6_reachable_41 : decode cX6_reachable 41 = .ok (.getfield 7, 3) := by decide +kernel
theorem dX6_reachable_44 : decode cX6_reachable 44 = .ok (.iconst 3, 1) := by decide +kernel
theorem dX6_reachable_45 : decode cX6_reachable 45 = .ok (.iaload, 1) := by decide +kernel
theorem dX6_reachable_46 : decode cX6_reachable 46 = .ok (.goto 12, 3) := by decide +kernel
theorem dX6_reachable_49 : decode cX6_reachable 49 = .ok (.aload_n 0, 1) := by decide +kernel
theorem dX6_reachable_50 : decode cX6_reachable 50 = .ok (.getfield 7, 3) := by decide +kernel
theorem dX6_reachable_53 : decode cX6_reachable 53 = .ok (.bipush 20, 2) := by decide +kernel
theorem dX6_reachable_55 : decode cX6_reachable 55 = .ok (.iload_n 1, 1) := by decide +kernel
theorem dX6_reachable_56 : decode cX6_reachable 56 = .ok (.iadd, 1) := by decide +kernel
theorem dX6_reachable_57 : decode cX6_reachable 57 = .ok (.iaload, 1) := by decide +kernel
theorem dX6_reachable_58 : decode cX6_reachable 58 = .ok (.iastore, 1) := by decide +kernel
theorem dX6_reachable_59 : decode cX6_reachable 59 = .ok (.iinc 1 1, 3) := by decide +kernel
theorem dX6_reachable_62 : decode cX6_reachable 62 = .ok (.goto (-56), 3) := by decide +kernel
theorem dX6_reachable_65 : decode cX6_reachable 65 = .ok (.aload_n 0, 1) := by decide +kernel
theorem dX6_reachable_66 : decode cX6_reachable 66 = .ok (.getfield 7, 3) := by decide +kernel
theorem dX6_reachable_69 : decode cX6_reachable 69 = .ok (.iconst 1, 1) := by decide +kernel
theorem dX6_reachable_70 : decode cX6_reachable 70 = .ok (.iaload, 1) := by decide +kernel
theorem dX6_reachable_71 : decode cX6_reachable 71 = .ok (.ifCond .ne 7, 3) := by decide +kernel
theorem dX6_reachable_74 : decode cX6_reachable 74 = .ok (.iconst 0, 1) := by decide +kernel
theorem dX6_reachable_75 : decode cX6_reachable 75 = .ok (.goto 7, 3) := by decide +kernel
theorem dX6_reachable_78 : decode cX6_reachable 78 = .ok (.aload_n 0, 1) := by decide +kernel
theorem dX6_reachable_79 : decode cX6_reachable 79 = .ok (.invokevirtual 97, 3) := by decide +kernel
theorem dX6_reachable_82 : decode cX6_reachable 82 = .ok (.istore_n 1, 1) := by decide +kernel
theorem dX6_reachable_83 : decode cX6_reachable 83 = .ok (.aload_n 0, 1) := by decide +kernel
theorem dX6_reachable_84 : decode cX6_reachable 84 = .ok (.invokevirtual 137, 3) := by decide +kernel
theorem dX6_reachable_87 : decode cX6_reachable 87 = .ok (.iload_n 1, 1) := by decide +kernel
theorem dX6_reachable_88 : decode cX6_reachable 88 = .ok (.ireturn, 1) := by decide +kernel
set_option maxRecDepth 20000 in
theorem ggX6_nextDrawn_X6_isSeat : GoodIn wsX6_nextDrawn wsX6_isSeat := goodIn_r _ [6, 1, 29, 30, 31, 32, 33, 34, 35, 36, 37] (by decide +kernel) (by decide +kernel)
set_option maxRecDepth 20000 in
theorem gX6_nextDrawn_X6_isSeat : GoodIn wsX6_nextDrawn (wsV RX6 78 RX6 yX6_isSeat wsX6_isSeat) := goodIn_app (goodIn_of _ (by decide +kernel)) ggX6_nextDrawn_X6_isSeat
set_option maxRecDepth 20000 in
theorem ggX6_nextDrawn_X6_goesOn : GoodIn wsX6_nextDrawn wsX6_goesOn := goodIn_r _ [10, 1, 29, 30, 31, 32, 33, 34, 35, 36, 37] (by decide +kernel) (by decide +kernel)
set_option maxRecDepth 20000 in
theorem gX6_nextDrawn_X6_goesOn : GoodIn wsX6_nextDrawn (wsV RX6 30 RX6 yX6_goesOn wsX6_goesOn) := goodIn_app (goodIn_of _ (by decide +kernel)) ggX6_nextDrawn_X6_goesOn
set_option maxRecDepth 20000 in
theorem ggX6_nextDrawn_X6_candidates : GoodIn wsX6_nextDrawn wsX6_candidates := goodIn_r _ [14, 1, 15, 16, 17, 5, 18, 29, 30, 31, 32, 33, 34, 35, 36, 37] (by decide +kernel) (by decide +kernel)
set_option maxRecDepth 20000 in
theorem gX6_nextDrawn_X6_candidates : GoodIn wsX6_nextDrawn (wsV RX6 81 RX6 yX6_candidates wsX6_candidates) := goodIn_app (goodIn_of _ (by decide +kernel)) ggX6_nextDrawn_X6_candidates
set_option maxRecDepth 20000 in
theorem ggX6_nextDrawn_X6_drawn : GoodIn wsX6_nextDrawn wsX6_drawn := goodIn_r _ [21, 22, 23, 24] (by decide +kernel) (by decide +kernel)
set_option maxRecDepth 20000 in
theorem gX6_nextDrawn_X6_drawn : GoodIn wsX6_nextDrawn (va_wsS RX6 87 yX6_drawn wsX6_drawn) := goodIn_app (goodIn_of _ (by decide +kernel)) ggX6_nextDrawn_X6_drawn
set_option maxRecDepth 20000 in
theorem ggX6_nextDrawn_X6_candidate : GoodIn wsX6_nextDrawn wsX6_candidate := goodIn_r _ [28, 1, 15, 16, 17, 5, 18, 29, 30, 31, 32, 33, 34, 35, 36, 37] (by decide +kernel) (by decide +kernel)
set_option maxRecDepth 20000 in
theorem gX6_nextDrawn_X6_candidate : GoodIn wsX6_nextDrawn (wsV RX6 91 RX6 yX6_candidate wsX6_candidate) := goodIn_app (goodIn_of _ (by decide +kernel)) ggX6_nextDrawn_X6_candidate
theorem dX6_nextDrawn_0 : decode cX6_nextDrawn 0 = .ok (.aload_n 0, 1) := by decide +kernel
theorem dX6_nextDrawn_1 : decode cX6_nextDrawn 1 = .ok (.iload_n 1, 1) := by decide +kernel
theorem dX6_nextDrawn_2 : decode cX6_nextDrawn 2 = .ok (.invokevirtual 78, 3) := by decide +kernel
theorem dX6_nextDrawn_5 : decode cX6_nextDrawn 5 = .ok (.ifCond .ne 5, 3) := by decide +kernel
theorem dX6_nextDrawn_8 : decode cX6_nextDrawn 8 = .ok (.iconst (-1), 1) := by decide +kernel
theorem dX6_nextDrawn_9 : decode cX6_nextDrawn 9 = .ok (.ireturn, 1) := by decide +kernel
theorem dX6_nextDrawn_10 : decode cX6_nextDrawn 10 = .ok (.aload_n 0, 1) := by decide +kernel
theorem dX6_nextDrawn_11 : decode cX6_nextDrawn 11 = .ok (.invokevirtual 30, 3) := by decide +kernel
theorem dX6_nextDrawn_14 : decode cX6_nextDrawn 14 = .ok (.ifCond .eq 6, 3) := by decide +kernel
theorem dX6_nextDrawn_17 : decode cX6_nextDrawn 17 = .ok (.bipush (-2), 2) := by decide +kernel
theorem dX6_nextDrawn_19 : decode cX6_nextDrawn 19 = .ok (.ireturn, 1) := by decide +kernel
theorem dX6_nextDrawn_20 : decode cX6_nextDrawn 20 = .ok (.aload_n 0, 1) := by decide +kernel
theorem dX6_nextDrawn_21 : decode cX6_nextDrawn 21 = .ok (.invokevirtual 81, 3) := by decide +kernel
theorem dX6_nextDrawn_24 : decode cX6_nextDrawn 24 = .ok (.istore_n 2, 1) := by decide +kernel
theorem dX6_nextDrawn_25 : decode cX6_nextDrawn 25 = .ok (.iload_n 2, 1) := by decide +kernel
theorem dX6_nextDrawn_26 : decode cX6_nextDrawn 26 = .ok (.ifCond .ne 8, 3) := by decide +kernel
theorem dX6_nextDrawn_29 : decode cX6_nextDrawn 29 = .ok (.bipush (-9), 2) := by decide +kernel
theorem dX6_nextDrawn_31 : decode cX6_nextDrawn 31 = .ok (.goto 19, 3) := by decide +kernel
theorem dX6_nextDrawn_34 : decode cX6_nextDrawn 34 = .ok (.aload_n 0, 1) := by decide +kernel
theorem dX6_nextDrawn_35 : decode cX6_nextDrawn 35 = .ok (.aload_n 0, 1) := by decide +kernel
theorem dX6_nextDrawn_36 : decode cX6_nextDrawn 36 = .ok (.getfield 7, 3) := by decide +kernel
theorem dX6_nextDrawn_39 : decode cX6_nextDrawn 39 = .ok (.bipush 6, 2) := by decide +kernel
theorem dX6_nextDrawn_41 : decode cX6_nextDrawn 41 = .ok (.iaload, 1) := by decide +kernel
theorem dX6_nextDrawn_42 : decode cX6_nextDrawn 42 = .ok (.invokestatic 87, 3) := by decide +kernel
theorem dX6_nextDrawn_45 : decode cX6_nextDrawn 45 = .ok (.iload_n 2, 1) := by decide +kernel
theorem dX6_nextDrawn_46 : decode cX6_nextDrawn 46 = .ok (.irem, 1) := by decide +kernel
theorem dX6_nextDrawn_47 : decode cX6_nextDrawn 47 = .ok (.invokevirtual 91, 3) := by decide +kernel
theorem dX6_nextDrawn_50 : decode cX6_nextDrawn 50 = .ok (.ireturn, 1) := by decide +kernel
set_option maxRecDepth 20000 in
theorem ggX6_spare_X6_goesOn : GoodIn wsX6_spare wsX6_goesOn := goodIn_r _ [6, 1, 10, 11, 12, 13, 14, 15, 16, 17, 18] (by decide +kernel) (by decide +kernel)
set_option maxRecDepth 20000 in
theorem gX6_spare_X6_goesOn : GoodIn wsX6_spare (wsV RX6 30 RX6 yX6_goesOn wsX6_goesOn) := goodIn_app (goodIn_of _ (by decide +kernel)) ggX6_spare_X6_goesOn
set_option maxRecDepth 20000 in
theorem ggX6_spare_X6_fewest : GoodIn wsX6_spare wsX6_fewest := goodIn_r _ [9] (by decide +kernel) (by decide +kernel)
set_option maxRecDepth 20000 in
theorem gX6_spare_X6_fewest : GoodIn wsX6_spare (va_wsS RX6 152 yX6_fewest wsX6_fewest) := goodIn_app (goodIn_of _ (by decide +kernel)) ggX6_spare_X6_fewest
theorem dX6_spare_0 : decode cX6_spare 0 = .ok (.aload_n 0, 1) := by decide +kernel
theorem dX6_spare_1 : decode cX6_spare 1 = .ok (.getfield 7, 3) := by decide +kernel
theorem dX6_spare_4 : decode cX6_spare 4 = .ok (.iconst 1, 1) := by decide +kernel
theorem dX6_spare_5 : decode cX6_spare 5 = .ok (.iaload, 1) := by decide +kernel
theorem dX6_spare_6 : decode cX6_spare 6 = .ok (.ifCond .ne 6, 3) := by decide +kernel
theorem dX6_spare_9 : decode cX6_spare 9 = .ok (.bipush (-9), 2) := by decide +kernel
theorem dX6_spare_11 : decode cX6_spare 11 = .ok (.ireturn, 1) := by decide +kernel
theorem dX6_spare_12 : decode cX6_spare 12 = .ok (.aload_n 0, 1) := by decide +kernel
theorem dX6_spare_13 : decode cX6_spare 13 = .ok (.getfield 7, 3) := by decide +kernel
theorem dX6_spare_16 : decode cX6_spare 16 = .ok (.iconst 1, 1) := by decide +kernel
theorem dX6_spare_17 : decode cX6_spare 17 = .ok (.iaload, 1) := by decide +kernel
theorem dX6_spare_18 : decode cX6_spare 18 = .ok (.iconst 2, 1) := by decide +kernel
theorem dX6_spare_19 : decode cX6_spare 19 = .ok (.idiv, 1) := by decide +kernel
theorem dX6_spare_20 : decode cX6_spare 20 = .ok (.iconst 1, 1) := by decide +kernel
theorem dX6_spare_21 : decode cX6_spare 21 = .ok (.iadd, 1) := by decide +kernel
theorem dX6_spare_22 : decode cX6_spare 22 = .ok (.istore_n 1, 1) := by decide +kernel
theorem dX6_spare_23 : decode cX6_spare 23 = .ok (.aload_n 0, 1) := by decide +kernel
theorem dX6_spare_24 : decode cX6_spare 24 = .ok (.getfield 7, 3) := by decide +kernel
theorem dX6_spare_27 : decode cX6_spare 27 = .ok (.iconst 0, 1) := by decide +kernel
theorem dX6_spare_28 : decode cX6_spare 28 = .ok (.iaload, 1) := by decide +kernel
theorem dX6_spare_29 : decode cX6_spare 29 = .ok (.aload_n 0, 1) := by decide +kernel
theorem dX6_spare_30 : decode cX6_spare 30 = .ok (.invokevirtual 30, 3) := by decide +kernel
theorem dX6_spare_33 : decode cX6_spare 33 = .ok (.ifCond .eq 19, 3) := by decide +kernel
theorem dX6_spare_36 : decode cX6_spare 36 = .ok (.iload_n 1, 1) := by decide +kernel
theorem dX6_spare_37 : decode cX6_spare 37 = .ok (.iload_n 1, 1) := by decide +kernel
theorem dX6_spare_38 : decode cX6_spare 38 = .ok (.aload_n 0, 1) := by decide +kernel
theorem dX6_spare_39 : decode cX6_spare 39 = .ok (.getfield 7, 3) := by decide +kernel
theorem dX6_spare_42 : decode cX6_spare 42 = .ok (.iconst 1, 1) := by decide +kernel
theorem dX6_spare_43 : decode cX6_spare 43 = .ok (.iaload, 1) := by decide +kernel
theorem dX6_spare_44 : decode cX6_spare 44 = .ok (.iconst 1, 1) := by decide +kernel
theorem dX6_spare_45 : decode cX6_spare 45 = .ok (.isub, 1) := by decide +kernel
theorem dX6_spare_46 : decode cX6_spare 46 = .ok (.invokestatic 152, 3) := by decide +kernel
theorem dX6_spare_49 : decode cX6_spare 49 = .ok (.goto 4, 3) := by decide +kernel
theorem dX6_spare_52 : decode cX6_spare 52 = .ok (.iload_n 1, 1) := by decide +kernel
theorem dX6_spare_53 : decode cX6_spare 53 = .ok (.isub, 1) := by decide +kernel
theorem dX6_spare_54 : decode cX6_spare 54 = .ok (.ireturn, 1) := by decide +kernel
set_option maxRecDepth 20000 in
theorem ggX6_lotFor_X6_isVillager : GoodIn wsX6_lotFor wsX6_isVillager := goodIn_r _ [6, 7, 34, 35, 36, 37, 38, 39, 40, 41, 42] (by decide +kernel) (by decide +kernel)
set_option maxRecDepth 20000 in
theorem gX6_lotFor_X6_isVillager : GoodIn wsX6_lotFor (wsV RX6 55 RX6 yX6_isVillager wsX6_isVillager) := goodIn_app (goodIn_of _ (by decide +kernel)) ggX6_lotFor_X6_isVillager
set_option maxRecDepth 20000 in
theorem ggX6_lotFor_X6_isSeat : GoodIn wsX6_lotFor wsX6_isSeat := goodIn_r _ [11, 7, 34, 35, 36, 37, 38, 39, 40, 41, 42] (by decide +kernel) (by decide +kernel)
set_option maxRecDepth 20000 in
theorem gX6_lotFor_X6_isSeat : GoodIn wsX6_lotFor (wsV RX6 78 RX6 yX6_isSeat wsX6_isSeat) := goodIn_app (goodIn_of _ (by decide +kernel)) ggX6_lotFor_X6_isSeat
set_option maxRecDepth 20000 in
theorem ggX6_lotFor_X6_goesOn : GoodIn wsX6_lotFor wsX6_goesOn := goodIn_r _ [15, 7, 34, 35, 36, 37, 38, 39, 40, 41, 42] (by decide +kernel) (by decide +kernel)
set_option maxRecDepth 20000 in
theorem gX6_lotFor_X6_goesOn : GoodIn wsX6_lotFor (wsV RX6 30 RX6 yX6_goesOn wsX6_goesOn) := goodIn_app (goodIn_of _ (by decide +kernel)) ggX6_lotFor_X6_goesOn
set_option maxRecDepth 20000 in
theorem ggX6_lotFor_X6_candidates : GoodIn wsX6_lotFor wsX6_candidates := goodIn_r _ [19, 7, 20, 21, 22, 5, 23, 34, 35, 36, 37, 38, 39, 40, 41, 42] (by decide +kernel) (by decide +kernel)
set_option maxRecDepth 20000 in
theorem gX6_lotFor_X6_candidates : GoodIn wsX6_lotFor (wsV RX6 81 RX6 yX6_candidates wsX6_candidates) := goodIn_app (goodIn_of _ (by decide +kernel)) ggX6_lotFor_X6_candidates
set_option maxRecDepth 20000 in
theorem ggX6_lotFor_X6_seatOf : GoodIn wsX6_lotFor wsX6_seatOf := goodIn_r _ [23, 7, 34, 35, 36, 37, 38, 39, 40, 41, 42] (by decide +kernel) (by decide +kernel)
set_option maxRecDepth 20000 in
theorem gX6_lotFor_X6_seatOf : GoodIn wsX6_lotFor (wsV RX6 34 RX6 yX6_seatOf wsX6_seatOf) := goodIn_app (goodIn_of _ (by decide +kernel)) ggX6_lotFor_X6_seatOf
set_option maxRecDepth 20000 in
theorem ggX6_lotFor_X6_drawn : GoodIn wsX6_lotFor wsX6_drawn := goodIn_r _ [26, 27, 28, 29] (by decide +kernel) (by decide +kernel)
set_option maxRecDepth 20000 in
theorem gX6_lotFor_X6_drawn : GoodIn wsX6_lotFor (va_wsS RX6 87 yX6_drawn wsX6_drawn) := goodIn_app (goodIn_of _ (by decide +kernel)) ggX6_lotFor_X6_drawn
set_option maxRecDepth 20000 in
theorem ggX6_lotFor_X6_candidate : GoodIn wsX6_lotFor wsX6_candidate := goodIn_r _ [33, 7, 20, 21, 22, 5, 23, 34, 35, 36, 37, 38, 39, 40, 41, 42] (by decide +kernel) (by decide +kernel)
set_option maxRecDepth 20000 in
theorem gX6_lotFor_X6_candidate : GoodIn wsX6_lotFor (wsV RX6 91 RX6 yX6_candidate wsX6_candidate) := goodIn_app (goodIn_of _ (by decide +kernel)) ggX6_lotFor_X6_candidate
theorem dX6_lotFor_0 : decode cX6_lotFor 0 = .ok (.aload_n 0, 1) := by decide +kernel
theorem dX6_lotFor_1 : decode cX6_lotFor 1 = .ok (.iload_n 1, 1) := by decide +kernel
theorem dX6_lotFor_2 : decode cX6_lotFor 2 = .ok (.invokevirtual 55, 3) := by decide +kernel
theorem dX6_lotFor_5 : decode cX6_lotFor 5 = .ok (.ifCond .eq 11, 3) := by decide +kernel
theorem dX6_lotFor_8 : decode cX6_lotFor 8 = .ok (.aload_n 0, 1) := by decide +kernel
theorem dX6_lotFor_9 : decode cX6_lotFor 9 = .ok (.iload_n 2, 1) := by decide +kernel
theorem dX6_lotFor_10 : decode cX6_lotFor 10 = .ok (.invokevirtual 78, 3) := by decide +kernel
theorem dX6_lotFor_13 : decode cX6_lotFor 13 = .ok (.ifCond .ne 5, 3) := by decide +kernel
theorem dX6_lotFor_16 : decode cX6_lotFor 16 = .ok (.iconst (-1), 1) := by decide +kernel
theorem dX6_lotFor_17 : decode cX6_lotFor 17 = .ok (.ireturn, 1) := by decide +kernel
theorem dX6_lotFor_18 : decode cX6_lotFor 18 = .ok (.aload_n 0, 1) := by decide +kernel
theorem dX6_lotFor_19 : decode cX6_lotFor 19 = .ok (.invokevirtual 30, 3) := by decide +kernel
theorem dX6_lotFor_22 : decode cX6_lotFor 22 = .ok (.ifCond .eq 6, 3) := by decide +kernel
theorem dX6_lotFor_25 : decode cX6_lotFor 25 = .ok (.bipush (-2), 2) := by decide +kernel
theorem dX6_lotFor_27 : decode cX6_lotFor 27 = .ok (.ireturn, 1) := by decide +kernel
theorem dX6_lotFor_28 : decode cX6_lotFor 28 = .ok (.aload_n 0, 1) := by decide +kernel
theorem dX6_lotFor_29 : decode cX6_lotFor 29 = .ok (.invokevirtual 81, 3) := by decide +kernel
theorem dX6_lotFor_32 : decode cX6_lotFor 32 = .ok (.istore_n 3, 1) := by decide +kernel
theorem dX6_lotFor_33 : decode cX6_lotFor 33 = .ok (.iconst 0, 1) := by decide +kernel
theorem dX6_lotFor_34 : decode cX6_lotFor 34 = .ok (.istore 4, 2) := by decide +kernel
theorem dX6_lotFor_36 : decode cX6_lotFor 36 = .ok (.iload 4, 2) := by decide +kernel
theorem dX6_lotFor_38 : decode cX6_lotFor 38 = .ok (.ldc 156, 2) := by decide +kernel
theorem dX6_lotFor_40 : decode cX6_lotFor 40 = .ok (.if_icmp .ge 39, 3) := by decide +kernel
theorem dX6_lotFor_43 : decode cX6_lotFor 43 = .ok (.aload_n 0, 1) := by decide +kernel
theorem dX6_lotFor_44 : decode cX6_lotFor 44 = .ok (.bipush 32, 2) := by decide +kernel
theorem dX6_lotFor_46 : decode cX6_lotFor 46 = .ok (.iload_n 1, 1) := by decide +kernel
theorem dX6_lotFor_47 : decode cX6_lotFor 47 = .ok (.invokevirtual 34, 3) := by decide +kernel
theorem dX6_lotFor_50 : decode cX6_lotFor 50 = .ok (.bipush (-9), 2) := by decide +kernel
theorem dX6_lotFor_52 : decode cX6_lotFor 52 = .ok (.if_icmp .ne 27, 3) := by decide +kernel
theorem dX6_lotFor_55 : decode cX6_lotFor 55 = .ok (.aload_n 0, 1) := by decide +kernel
theorem dX6_lotFor_56 : decode cX6_lotFor 56 = .ok (.iload 4, 2) := by decide +kernel
theorem dX6_lotFor_58 : decode cX6_lotFor 58 = .ok (.invokestatic 87, 3) := by decide +kernel
theorem dX6_lotFor_61 : decode cX6_lotFor 61 = .ok (.iload_n 3, 1) := by decide +kernel
theorem dX6_lotFor_62 : decode cX6_lotFor 62 = .ok (.irem, 1) := by decide +kernel
theorem dX6_lotFor_63 : decode cX6_lotFor 63 = .ok (.invokevirtual 91, 3) := by decide +kernel
theorem dX6_lotFor_66 : decode cX6_lotFor 66 = .ok (.iload_n 1, 1) := by decide +kernel
theorem dX6_lotFor_67 : decode cX6_lotFor 67 = .ok (.if_icmp .ne 6, 3) := by decide +kernel
theorem dX6_lotFor_70 : decode cX6_lotFor 70 = .ok (.iload 4, 2) := by decide +kernel
theorem dX6_lotFor_72 : decode cX6_lotFor 72 = .ok (.ireturn, 1) := by decide +kernel
theorem dX6_lotFor_73 : decode cX6_lotFor 73 = .ok (.iinc 4 1, 3) := by decide +kernel
theorem dX6_lotFor_76 : decode cX6_lotFor 76 = .ok (.goto (-40), 3) := by decide +kernel
theorem dX6_lotFor_79 : decode cX6_lotFor 79 = .ok (.bipush (-9), 2) := by decide +kernel
theorem dX6_lotFor_81 : decode cX6_lotFor 81 = .ok (.ireturn, 1) := by decide +kernel
end
section
theorem dJ9_max_7cf53_0 : decode cJ9_max_7cf53 0 = .ok (.iload_n 0, 1) := by decide +kernel
theorem dJ9_max_7cf53_1 : decode cJ9_max_7cf53 1 = .ok (.iload_n 1, 1) := by decide +kernel
theorem dJ9_max_7cf53_2 : decode cJ9_max_7cf53 2 = .ok (.if_icmp .lt 7, 3) := by decide +kernel
theorem dJ9_max_7cf53_5 : decode cJ9_max_7cf53 5 = .ok (.iload_n 0, 1) := by decide +kernel
theorem dJ9_max_7cf53_6 : decode cJ9_max_7cf53 6 = .ok (.goto 4, 3) := by decide +kernel
theorem dJ9_max_7cf53_9 : decode cJ9_max_7cf53 9 = .ok (.iload_n 1, 1) := by decide +kernel
theorem dJ9_max_7cf53_10 : decode cJ9_max_7cf53 10 = .ok (.ireturn, 1) := by decide +kernel
theorem dJ9_min_7cf53_0 : decode cJ9_min_7cf53 0 = .ok (.iload_n 0, 1) := by decide +kernel
theorem dJ9_min_7cf53_1 : decode cJ9_min_7cf53 1 = .ok (.iload_n 1, 1) := by decide +kernel
theorem dJ9_min_7cf53_2 : decode cJ9_min_7cf53 2 = .ok (.if_icmp .gt 7, 3) := by decide +kernel
theorem dJ9_min_7cf53_5 : decode cJ9_min_7cf53 5 = .ok (.iload_n 0, 1) := by decide +kernel
theorem dJ9_min_7cf53_6 : decode cJ9_min_7cf53 6 = .ok (.goto 4, 3) := by decide +kernel
theorem dJ9_min_7cf53_9 : decode cJ9_min_7cf53 9 = .ok (.iload_n 1, 1) := by decide +kernel
theorem dJ9_min_7cf53_10 : decode cJ9_min_7cf53 10 = .ok (.ireturn, 1) := by decide +kernel
end
section
/-! numbers: a machine int is named by a whole number -/
def iI (n : Int) : Int32 := Int32.ofInt n
abbrev rg (a : Int) : Prop := -2147483648 ≤ a ∧ a < 2147483648
theorem iI_of (x : Int32) : iI x.toInt = x := Int32.ofInt_toInt x
theorem rg_of (x : Int32) : rg x.toInt := ⟨Int32.le_toInt x, Int32.toInt_lt x⟩
theorem iI_toInt {a : Int} (h : rg a) : (iI a).toInt = a := Int32.toInt_ofInt_of_le h.1 h.2
theorem iI_add (a b : Int) : iI a + iI b = iI (a + b) := (Int32.ofInt_add a b).symm
theorem iI_sub (a b : Int) : iI a - iI b = iI (a - b) := (Int32.ofInt_sub a b).symm
theorem iI_mul (a b : Int) : iI a * iI b = iI (a * b) := (Int32.ofInt_mul a b).symm
theorem iI_le {a b : Int} (ha : rg a) (hb : rg b) : iI a ≤ iI b ↔ a ≤ b := by rw [Int32.le_iff_toInt_le, iI_toInt ha, iI_toInt hb]
theorem iI_lt {a b : Int} (ha : rg a) (hb : rg b) : iI a < iI b ↔ a < b := by rw [Int32.lt_iff_toInt_lt, iI_toInt ha, iI_toInt hb]
theorem iI_eq {a b : Int} (ha : rg a) (hb : rg b) : iI a = iI b ↔ a = b := by rw [← Int32.toInt_inj, iI_toInt ha, iI_toInt hb]
theorem iI_0 : iI 0 = 0 := rfl
theorem iI_clamp {a : Int} (h : rg a) : (iI a).toNatClampNeg = a.toNat := Int32.toNatClampNeg_ofInt_of_le h.1 h.2
theorem rg_0 : rg 0 := by decide
theorem iI_div {a b : Int} (ha : 0 ≤ a ∧ a < 2147483648) (hb : 0 < b ∧ b < 2147483648) : iI a / iI b = iI (a / b) := by
  apply Int32.toInt_inj.mp
  have hd : a / b ≤ a := Int.ediv_le_self b ha.1
  have hd0 : 0 ≤ a / b := Int.ediv_nonneg ha.1 (by omega)
  rw [Int32.toInt_div_of_ne_right, iI_toInt ⟨by omega, by omega⟩, iI_toInt ⟨by omega, by omega⟩, iI_toInt ⟨by omega, by omega⟩, Int.tdiv_eq_ediv_of_nonneg ha.1]
  intro h
  have h2 : (iI b).toInt = (-1 : Int32).toInt := by rw [h]
  rw [iI_toInt ⟨by omega, by omega⟩] at h2
  have h3 : (-1 : Int32).toInt = -1 := by decide
  omega
theorem iI_rem {a b : Int} (ha : 0 ≤ a ∧ a < 2147483648) (hb : 0 < b ∧ b < 2147483648) : iI a - iI a / iI b * iI b = iI (a % b) := by
  rw [iI_div ha hb, iI_mul, iI_sub, Int.emod_def, Int.mul_comm]
theorem iI_in {a : Int} {n : Nat} (h : 0 ≤ a ∧ a < n) (hn : n < 2147483648) : vp_in (iI a) n := by
  have hr : rg a := ⟨by omega, by omega⟩
  rintro (h1 | h1)
  · rw [← iI_0, iI_lt hr rg_0] at h1
    omega
  · rw [iI_clamp hr] at h1
    omega
def b2i (P : Prop) [Decidable P] : Int := if P then 1 else 0
theorem b2i_t {P : Prop} [Decidable P] (h : P) : b2i P = 1 := if_pos h
theorem b2i_f {P : Prop} [Decidable P] (h : ¬ P) : b2i P = 0 := if_neg h
theorem b2i_rg {P : Prop} [Decidable P] : 0 ≤ b2i P ∧ b2i P ≤ 1 := by
  unfold b2i
  split <;> omega
def up (f : Nat → Int) (k : Nat) (v : Int) : Nat → Int := fun j => if j = k then v else f j
theorem up_eq (f : Nat → Int) (k : Nat) (v : Int) : up f k v k = v := if_pos rfl
theorem up_at {f : Nat → Int} {k j : Nat} {v : Int} (h : j = k) : up f k v j = v := if_pos h
theorem up_ne {f : Nat → Int} {k j : Nat} {v : Int} (h : j ≠ k) : up f k v j = f j := if_neg h
def cut (n : Nat) (f : Nat → Int) : Nat → Int := fun i => if i < n then f i else 0
theorem cut_at {n i : Nat} {f : Nat → Int} (h : i < n) : cut n f i = f i := if_pos h
/-- an array of ints -/
def arI (cI : ClassId) (n : Nat) (f : Nat → Int) : va_E := .inl (cI, n, .inl (fun i => iI (cut n f i)))
theorem arI_congr {cI : ClassId} {n : Nat} {f g : Nat → Int} (h : ∀ i, i < n → f i = g i) : arI cI n f = arI cI n g := by
  have hc : cut n f = cut n g := by
    funext i
    unfold cut
    split
    · exact h i (by assumption)
    · rfl
  unfold arI
  rw [hc]
theorem arI_upd {cI : ClassId} {n : Nat} {f : Nat → Int} {k : Nat} {x : Int} (hk : k < n) : (.inl (cI, n, .inl (upd (fun i => iI (cut n f i)) k (iI x))) : va_E) = arI cI n (up f k x) := by
  unfold arI
  have : upd (fun i => iI (cut n f i)) k (iI x) = fun i => iI (cut n (up f k x) i) := by
    funext i
    unfold upd cut up
    by_cases h : i = k
    · subst h
      simp [hk]
    · simp [h]
  rw [this]
section BS
variable {p : Program} {l : Launch} {e : Env} {R : Room} {s : State} {m : MethodId} {args : Array Value} {below : List Frame} {meth : Method} {c : Code} {H : Heap} {locs : List Loc} {cells slots : Nat} {Q : State → Prop}
variable {cc : ByteArray} {pc : Nat} {ls : Array Slot} {rest : List Value}
theorem j_c (hx : p.tables.exec = Jvm.exec) (hb : c.code = cc) {n : Int} (hdg : decode cc pc = .ok (.iconst n, 1)) (k : W p l e R s m args below meth c H locs cells slots Q (F0 m (pc + 1) ls (.int (iI n) :: rest))) : W p l e R s m args below meth c H locs cells slots Q (F0 m pc ls (rest)) := lv_iconst hx hb hdg rfl k
theorem j_bi (hx : p.tables.exec = Jvm.exec) (hb : c.code = cc) {n : Int} (hdg : decode cc pc = .ok (.bipush n, 2)) (hn : (Int8.ofInt n).toInt32 = iI n) (k : W p l e R s m args below meth c H locs cells slots Q (F0 m (pc + 2) ls (.int (iI n) :: rest))) : W p l e R s m args below meth c H locs cells slots Q (F0 m pc ls (rest)) := lv_bipush hx hb hdg hn k
theorem j_si (hx : p.tables.exec = Jvm.exec) (hb : c.code = cc) {n : Int} (hdg : decode cc pc = .ok (.sipush n, 3)) (hn : (Int16.ofInt n).toInt32 = iI n) (k : W p l e R s m args below meth c H locs cells slots Q (F0 m (pc + 3) ls (.int (iI n) :: rest))) : W p l e R s m args below meth c H locs cells slots Q (F0 m pc ls (rest)) := lv_sipush hx hb hdg hn k
theorem j_add (hx : p.tables.exec = Jvm.exec) (hb : c.code = cc) {a b : Int} (hdg : decode cc pc = .ok (.iadd, 1)) (k : W p l e R s m args below meth c H locs cells slots Q (F0 m (pc + 1) ls (.int (iI (a + b)) :: rest))) : W p l e R s m args below meth c H locs cells slots Q (F0 m pc ls (.int (iI b) :: .int (iI a) :: rest)) := lv_iadd hx hb hdg (by rw [iI_add]; exact k)
theorem j_sub (hx : p.tables.exec = Jvm.exec) (hb : c.code = cc) {a b : Int} (hdg : decode cc pc = .ok (.isub, 1)) (k : W p l e R s m args below meth c H locs cells slots Q (F0 m (pc + 1) ls (.int (iI (a - b)) :: rest))) : W p l e R s m args below meth c H locs cells slots Q (F0 m pc ls (.int (iI b) :: .int (iI a) :: rest)) := lv_isub hx hb hdg (by rw [iI_sub]; exact k)
theorem j_mul (hx : p.tables.exec = Jvm.exec) (hb : c.code = cc) {a b : Int} (hdg : decode cc pc = .ok (.imul, 1)) (k : W p l e R s m args below meth c H locs cells slots Q (F0 m (pc + 1) ls (.int (iI (a * b)) :: rest))) : W p l e R s m args below meth c H locs cells slots Q (F0 m pc ls (.int (iI b) :: .int (iI a) :: rest)) := lv_imul hx hb hdg (by rw [iI_mul]; exact k)
theorem j_div (hx : p.tables.exec = Jvm.exec) (hb : c.code = cc) {a b : Int} (ha : 0 ≤ a ∧ a < 2147483648) (hbb : 0 < b ∧ b < 2147483648) (hdg : decode cc pc = .ok (.idiv, 1)) (k : W p l e R s m args below meth c H locs cells slots Q (F0 m (pc + 1) ls (.int (iI (a / b)) :: rest))) : W p l e R s m args below meth c H locs cells slots Q (F0 m pc ls (.int (iI b) :: .int (iI a) :: rest)) := lv_idiv hx hb hdg (fun h => by rw [← iI_0, iI_eq ⟨by omega, by omega⟩ rg_0] at h; omega) (by rw [iI_div ha hbb]; exact k)
theorem j_rem (hx : p.tables.exec = Jvm.exec) (hb : c.code = cc) {a b : Int} (ha : 0 ≤ a ∧ a < 2147483648) (hbb : 0 < b ∧ b < 2147483648) (hdg : decode cc pc = .ok (.irem, 1)) (k : W p l e R s m args below meth c H locs cells slots Q (F0 m (pc + 1) ls (.int (iI (a % b)) :: rest))) : W p l e R s m args below meth c H locs cells slots Q (F0 m pc ls (.int (iI b) :: .int (iI a) :: rest)) := lv_irem hx hb hdg (fun h => by rw [← iI_0, iI_eq ⟨by omega, by omega⟩ rg_0] at h; omega) (by rw [iI_rem ha hbb]; exact k)
theorem j_ige (hx : p.tables.exec = Jvm.exec) (hb : c.code = cc) {a b : Int} (ha : rg a) (hbb : rg b) {off : Int} {tgt : Nat} (hdg : decode cc pc = .ok (.if_icmp .ge off, 3)) (ht : (pc : Int) + off = (tgt : Int)) (kt : b ≤ a → W p l e R s m args below meth c H locs cells slots Q (F0 m tgt ls (rest))) (kf : a < b → W p l e R s m args below meth c H locs cells slots Q (F0 m (pc + 3) ls (rest))) : W p l e R s m args below meth c H locs cells slots Q (F0 m pc ls (.int (iI b) :: .int (iI a) :: rest)) :=
  lv_icmp_ge hx hb hdg ht (fun h => kt (by simp only [iI_le ha hbb, iI_lt ha hbb, iI_le hbb ha, iI_lt hbb ha, iI_eq ha hbb, iI_eq hbb ha, ne_eq] at h; omega)) (fun h => kf (by simp only [iI_le ha hbb, iI_lt ha hbb, iI_le hbb ha, iI_lt hbb ha, iI_eq ha hbb, iI_eq hbb ha, ne_eq] at h; omega))
theorem j_ilt (hx : p.tables.exec = Jvm.exec) (hb : c.code = cc) {a b : Int} (ha : rg a) (hbb : rg b) {off : Int} {tgt : Nat} (hdg : decode cc pc = .ok (.if_icmp .lt off, 3)) (ht : (pc : Int) + off = (tgt : Int)) (kt : a < b → W p l e R s m args below meth c H locs cells slots Q (F0 m tgt ls (rest))) (kf : b ≤ a → W p l e R s m args below meth c H locs cells slots Q (F0 m (pc + 3) ls (rest))) : W p l e R s m args below meth c H locs cells slots Q (F0 m pc ls (.int (iI b) :: .int (iI a) :: rest)) :=
  lv_icmp_lt hx hb hdg ht (fun h => kt (by simp only [iI_le ha hbb, iI_lt ha hbb, iI_le hbb ha, iI_lt hbb ha, iI_eq ha hbb, iI_eq hbb ha, ne_eq] at h; omega)) (fun h => kf (by simp only [iI_le ha hbb, iI_lt ha hbb, iI_le hbb ha, iI_lt hbb ha, iI_eq ha hbb, iI_eq hbb ha, ne_eq] at h; omega))
theorem j_igt (hx : p.tables.exec = Jvm.exec) (hb : c.code = cc) {a b : Int} (ha : rg a) (hbb : rg b) {off : Int} {tgt : Nat} (hdg : decode cc pc = .ok (.if_icmp .gt off, 3)) (ht : (pc : Int) + off = (tgt : Int)) (kt : b < a → W p l e R s m args below meth c H locs cells slots Q (F0 m tgt ls (rest))) (kf : a ≤ b → W p l e R s m args below meth c H locs cells slots Q (F0 m (pc + 3) ls (rest))) : W p l e R s m args below meth c H locs cells slots Q (F0 m pc ls (.int (iI b) :: .int (iI a) :: rest)) :=
  lv_icmp_gt hx hb hdg ht (fun h => kt (by simp only [iI_le ha hbb, iI_lt ha hbb, iI_le hbb ha, iI_lt hbb ha, iI_eq ha hbb, iI_eq hbb ha, ne_eq] at h; omega)) (fun h => kf (by simp only [iI_le ha hbb, iI_lt ha hbb, iI_le hbb ha, iI_lt hbb ha, iI_eq ha hbb, iI_eq hbb ha, ne_eq] at h; omega))
theorem j_ile (hx : p.tables.exec = Jvm.exec) (hb : c.code = cc) {a b : Int} (ha : rg a) (hbb : rg b) {off : Int} {tgt : Nat} (hdg : decode cc pc = .ok (.if_icmp .le off, 3)) (ht : (pc : Int) + off = (tgt : Int)) (kt : a ≤ b → W p l e R s m args below meth c H locs cells slots Q (F0 m tgt ls (rest))) (kf : b < a → W p l e R s m args below meth c H locs cells slots Q (F0 m (pc + 3) ls (rest))) : W p l e R s m args below meth c H locs cells slots Q (F0 m pc ls (.int (iI b) :: .int (iI a) :: rest)) :=
  lv_icmp_le hx hb hdg ht (fun h => kt (by simp only [iI_le ha hbb, iI_lt ha hbb, iI_le hbb ha, iI_lt hbb ha, iI_eq ha hbb, iI_eq hbb ha, ne_eq] at h; omega)) (fun h => kf (by simp only [iI_le ha hbb, iI_lt ha hbb, iI_le hbb ha, iI_lt hbb ha, iI_eq ha hbb, iI_eq hbb ha, ne_eq] at h; omega))
theorem j_ieq (hx : p.tables.exec = Jvm.exec) (hb : c.code = cc) {a b : Int} (ha : rg a) (hbb : rg b) {off : Int} {tgt : Nat} (hdg : decode cc pc = .ok (.if_icmp .eq off, 3)) (ht : (pc : Int) + off = (tgt : Int)) (kt : a = b → W p l e R s m args below meth c H locs cells slots Q (F0 m tgt ls (rest))) (kf : a ≠ b → W p l e R s m args below meth c H locs cells slots Q (F0 m (pc + 3) ls (rest))) : W p l e R s m args below meth c H locs cells slots Q (F0 m pc ls (.int (iI b) :: .int (iI a) :: rest)) :=
  lv_icmp_eq hx hb hdg ht (fun h => kt (by simp only [iI_le ha hbb, iI_lt ha hbb, iI_le hbb ha, iI_lt hbb ha, iI_eq ha hbb, iI_eq hbb ha, ne_eq] at h; omega)) (fun h => kf (by simp only [iI_le ha hbb, iI_lt ha hbb, iI_le hbb ha, iI_lt hbb ha, iI_eq ha hbb, iI_eq hbb ha, ne_eq] at h; omega))
theorem j_ine (hx : p.tables.exec = Jvm.exec) (hb : c.code = cc) {a b : Int} (ha : rg a) (hbb : rg b) {off : Int} {tgt : Nat} (hdg : decode cc pc = .ok (.if_icmp .ne off, 3)) (ht : (pc : Int) + off = (tgt : Int)) (kt : a ≠ b → W p l e R s m args below meth c H locs cells slots Q (F0 m tgt ls (rest))) (kf : a = b → W p l e R s m args below meth c H locs cells slots Q (F0 m (pc + 3) ls (rest))) : W p l e R s m args below meth c H locs cells slots Q (F0 m pc ls (.int (iI b) :: .int (iI a) :: rest)) :=
  lv_icmp_ne hx hb hdg ht (fun h => kt (by simp only [iI_le ha hbb, iI_lt ha hbb, iI_le hbb ha, iI_lt hbb ha, iI_eq ha hbb, iI_eq hbb ha, ne_eq] at h; omega)) (fun h => kf (by simp only [iI_le ha hbb, iI_lt ha hbb, iI_le hbb ha, iI_lt hbb ha, iI_eq ha hbb, iI_eq hbb ha, ne_eq] at h; omega))
theorem j_zge (hx : p.tables.exec = Jvm.exec) (hb : c.code = cc) {a : Int} (ha : rg a) {off : Int} {tgt : Nat} (hdg : decode cc pc = .ok (.ifCond .ge off, 3)) (ht : (pc : Int) + off = (tgt : Int)) (kt : 0 ≤ a → W p l e R s m args below meth c H locs cells slots Q (F0 m tgt ls (rest))) (kf : a < 0 → W p l e R s m args below meth c H locs cells slots Q (F0 m (pc + 3) ls (rest))) : W p l e R s m args below meth c H locs cells slots Q (F0 m pc ls (.int (iI a) :: rest)) :=
  lv_if_ge hx hb hdg ht (fun h => kt (by rw [← iI_0] at h; simp only [iI_le ha rg_0, iI_lt ha rg_0, iI_le rg_0 ha, iI_lt rg_0 ha, iI_eq ha rg_0, iI_eq rg_0 ha, ne_eq] at h; omega)) (fun h => kf (by rw [← iI_0] at h; simp only [iI_le ha rg_0, iI_lt ha rg_0, iI_le rg_0 ha, iI_lt rg_0 ha, iI_eq ha rg_0, iI_eq rg_0 ha, ne_eq] at h; omega))
theorem j_zlt (hx : p.tables.exec = Jvm.exec) (hb : c.code = cc) {a : Int} (ha : rg a) {off : Int} {tgt : Nat} (hdg : decode cc pc = .ok (.ifCond .lt off, 3)) (ht : (pc : Int) + off = (tgt : Int)) (kt : a < 0 → W p l e R s m args below meth c H locs cells slots Q (F0 m tgt ls (rest))) (kf : 0 ≤ a → W p l e R s m args below meth c H locs cells slots Q (F0 m (pc + 3) ls (rest))) : W p l e R s m args below meth c H locs cells slots Q (F0 m pc ls (.int (iI a) :: rest)) :=
  lv_if_lt hx hb hdg ht (fun h => kt (by rw [← iI_0] at h; simp only [iI_le ha rg_0, iI_lt ha rg_0, iI_le rg_0 ha, iI_lt rg_0 ha, iI_eq ha rg_0, iI_eq rg_0 ha, ne_eq] at h; omega)) (fun h => kf (by rw [← iI_0] at h; simp only [iI_le ha rg_0, iI_lt ha rg_0, iI_le rg_0 ha, iI_lt rg_0 ha, iI_eq ha rg_0, iI_eq rg_0 ha, ne_eq] at h; omega))
theorem j_zgt (hx : p.tables.exec = Jvm.exec) (hb : c.code = cc) {a : Int} (ha : rg a) {off : Int} {tgt : Nat} (hdg : decode cc pc = .ok (.ifCond .gt off, 3)) (ht : (pc : Int) + off = (tgt : Int)) (kt : 0 < a → W p l e R s m args below meth c H locs cells slots Q (F0 m tgt ls (rest))) (kf : a ≤ 0 → W p l e R s m args below meth c H locs cells slots Q (F0 m (pc + 3) ls (rest))) : W p l e R s m args below meth c H locs cells slots Q (F0 m pc ls (.int (iI a) :: rest)) :=
  lv_if_gt hx hb hdg ht (fun h => kt (by rw [← iI_0] at h; simp only [iI_le ha rg_0, iI_lt ha rg_0, iI_le rg_0 ha, iI_lt rg_0 ha, iI_eq ha rg_0, iI_eq rg_0 ha, ne_eq] at h; omega)) (fun h => kf (by rw [← iI_0] at h; simp only [iI_le ha rg_0, iI_lt ha rg_0, iI_le rg_0 ha, iI_lt rg_0 ha, iI_eq ha rg_0, iI_eq rg_0 ha, ne_eq] at h; omega))
theorem j_zle (hx : p.tables.exec = Jvm.exec) (hb : c.code = cc) {a : Int} (ha : rg a) {off : Int} {tgt : Nat} (hdg : decode cc pc = .ok (.ifCond .le off, 3)) (ht : (pc : Int) + off = (tgt : Int)) (kt : a ≤ 0 → W p l e R s m args below meth c H locs cells slots Q (F0 m tgt ls (rest))) (kf : 0 < a → W p l e R s m args below meth c H locs cells slots Q (F0 m (pc + 3) ls (rest))) : W p l e R s m args below meth c H locs cells slots Q (F0 m pc ls (.int (iI a) :: rest)) :=
  lv_if_le hx hb hdg ht (fun h => kt (by rw [← iI_0] at h; simp only [iI_le ha rg_0, iI_lt ha rg_0, iI_le rg_0 ha, iI_lt rg_0 ha, iI_eq ha rg_0, iI_eq rg_0 ha, ne_eq] at h; omega)) (fun h => kf (by rw [← iI_0] at h; simp only [iI_le ha rg_0, iI_lt ha rg_0, iI_le rg_0 ha, iI_lt rg_0 ha, iI_eq ha rg_0, iI_eq rg_0 ha, ne_eq] at h; omega))
theorem j_zeq (hx : p.tables.exec = Jvm.exec) (hb : c.code = cc) {a : Int} (ha : rg a) {off : Int} {tgt : Nat} (hdg : decode cc pc = .ok (.ifCond .eq off, 3)) (ht : (pc : Int) + off = (tgt : Int)) (kt : a = 0 → W p l e R s m args below meth c H locs cells slots Q (F0 m tgt ls (rest))) (kf : a ≠ 0 → W p l e R s m args below meth c H locs cells slots Q (F0 m (pc + 3) ls (rest))) : W p l e R s m args below meth c H locs cells slots Q (F0 m pc ls (.int (iI a) :: rest)) :=
  lv_if_eq hx hb hdg ht (fun h => kt (by rw [← iI_0] at h; simp only [iI_le ha rg_0, iI_lt ha rg_0, iI_le rg_0 ha, iI_lt rg_0 ha, iI_eq ha rg_0, iI_eq rg_0 ha, ne_eq] at h; omega)) (fun h => kf (by rw [← iI_0] at h; simp only [iI_le ha rg_0, iI_lt ha rg_0, iI_le rg_0 ha, iI_lt rg_0 ha, iI_eq ha rg_0, iI_eq rg_0 ha, ne_eq] at h; omega))
theorem j_zne (hx : p.tables.exec = Jvm.exec) (hb : c.code = cc) {a : Int} (ha : rg a) {off : Int} {tgt : Nat} (hdg : decode cc pc = .ok (.ifCond .ne off, 3)) (ht : (pc : Int) + off = (tgt : Int)) (kt : a ≠ 0 → W p l e R s m args below meth c H locs cells slots Q (F0 m tgt ls (rest))) (kf : a = 0 → W p l e R s m args below meth c H locs cells slots Q (F0 m (pc + 3) ls (rest))) : W p l e R s m args below meth c H locs cells slots Q (F0 m pc ls (.int (iI a) :: rest)) :=
  lv_if_ne hx hb hdg ht (fun h => kt (by rw [← iI_0] at h; simp only [iI_le ha rg_0, iI_lt ha rg_0, iI_le rg_0 ha, iI_lt rg_0 ha, iI_eq ha rg_0, iI_eq rg_0 ha, ne_eq] at h; omega)) (fun h => kf (by rw [← iI_0] at h; simp only [iI_le ha rg_0, iI_lt ha rg_0, iI_le rg_0 ha, iI_lt rg_0 ha, iI_eq ha rg_0, iI_eq rg_0 ha, ne_eq] at h; omega))
theorem j_beq (hx : p.tables.exec = Jvm.exec) (hb : c.code = cc) {P : Prop} [Decidable P] {off : Int} {tgt : Nat} (hdg : decode cc pc = .ok (.ifCond .eq off, 3)) (ht : (pc : Int) + off = (tgt : Int)) (kt : ¬ P → W p l e R s m args below meth c H locs cells slots Q (F0 m tgt ls (rest))) (kf : P → W p l e R s m args below meth c H locs cells slots Q (F0 m (pc + 3) ls (rest))) : W p l e R s m args below meth c H locs cells slots Q (F0 m pc ls (.int (iI (b2i P)) :: rest)) := by
  have hr := b2i_rg (P := P)
  refine j_zeq hx hb ⟨by omega, by omega⟩ hdg ht (fun h => kt ?_) (fun h => kf ?_)
  · unfold b2i at h
    split at h <;> first | assumption | omega
  · unfold b2i at h
    split at h <;> first | assumption | omega
theorem j_bne (hx : p.tables.exec = Jvm.exec) (hb : c.code = cc) {P : Prop} [Decidable P] {off : Int} {tgt : Nat} (hdg : decode cc pc = .ok (.ifCond .ne off, 3)) (ht : (pc : Int) + off = (tgt : Int)) (kt : P → W p l e R s m args below meth c H locs cells slots Q (F0 m tgt ls (rest))) (kf : ¬ P → W p l e R s m args below meth c H locs cells slots Q (F0 m (pc + 3) ls (rest))) : W p l e R s m args below meth c H locs cells slots Q (F0 m pc ls (.int (iI (b2i P)) :: rest)) := by
  have hr := b2i_rg (P := P)
  refine j_zne hx hb ⟨by omega, by omega⟩ hdg ht (fun h => kt ?_) (fun h => kf ?_)
  · unfold b2i at h
    split at h <;> first | assumption | omega
  · unfold b2i at h
    split at h <;> first | assumption | omega
end BS
abbrev bd (a : Int) : Prop := -100000 ≤ a ∧ a ≤ 100000
theorem b2i_or {P : Prop} [Decidable P] : b2i P = 0 ∨ b2i P = 1 := by
  unfold b2i
  split <;> omega
/-- the first place of v, or -9 -/
def seatF (el : Nat → Int) (v : Int) : Nat → Int
  | 0 => -9
  | n + 1 => if seatF el v n ≠ -9 then seatF el v n else if el n = v then (n : Int) else -9
def sm (f : Nat → Int) : Nat → Int
  | 0 => 0
  | n + 1 => sm f n + f n
/-- the place at which f counts to p -/
def pick (f : Nat → Int) (p : Int) : Nat → Int
  | 0 => -9
  | n + 1 => if pick f p n ≠ -9 then pick f p n else if f n = 1 ∧ sm f n = p then (n : Int) else -9
theorem seatF_rg {el : Nat → Int} {v : Int} : ∀ n, -9 ≤ seatF el v n ∧ (seatF el v n < n ∨ seatF el v n = -9) ∧ (seatF el v n = -9 ∨ 0 ≤ seatF el v n)
  | 0 => ⟨by simp [seatF], by simp [seatF], by simp [seatF]⟩
  | n + 1 => by
    have := seatF_rg (el := el) (v := v) n
    simp only [seatF]
    split
    · omega
    · split <;> omega
theorem seatF_keep {el : Nat → Int} {v : Int} {k : Nat} (h : seatF el v k ≠ -9) : ∀ d, seatF el v (k + d) = seatF el v k
  | 0 => rfl
  | d + 1 => by
    rw [show k + (d + 1) = (k + d) + 1 from rfl]
    simp only [seatF]
    rw [seatF_keep h d, if_pos h]
theorem seatF_found {el : Nat → Int} {v : Int} {i n : Nat} (h : seatF el v i = -9) (he : el i = v) (hn : i < n) : seatF el v n = i := by
  have h1 : seatF el v (i + 1) = i := by
    simp only [seatF]
    rw [if_neg (by omega), if_pos he]
  have := seatF_keep (el := el) (v := v) (k := i + 1) (by omega) (n - (i + 1))
  rw [show i + 1 + (n - (i + 1)) = n from by omega] at this
  omega
theorem seatF_step {el : Nat → Int} {v : Int} {i : Nat} (h : seatF el v i = -9) (he : el i ≠ v) : seatF el v (i + 1) = -9 := by
  simp only [seatF]
  rw [if_neg (by omega), if_neg he]
theorem pick_keep {f : Nat → Int} {p : Int} {k : Nat} (h : pick f p k ≠ -9) : ∀ d, pick f p (k + d) = pick f p k
  | 0 => rfl
  | d + 1 => by
    rw [show k + (d + 1) = (k + d) + 1 from rfl]
    simp only [pick]
    rw [pick_keep h d, if_pos h]
theorem pick_found {f : Nat → Int} {p : Int} {i n : Nat} (h : pick f p i = -9) (he : f i = 1 ∧ sm f i = p) (hn : i < n) : pick f p n = i := by
  have h1 : pick f p (i + 1) = i := by
    simp only [pick]
    rw [if_neg (by omega), if_pos he]
  have := pick_keep (f := f) (p := p) (k := i + 1) (by omega) (n - (i + 1))
  rw [show i + 1 + (n - (i + 1)) = n from by omega] at this
  omega
theorem pick_step {f : Nat → Int} {p : Int} {i : Nat} (h : pick f p i = -9) (he : ¬ (f i = 1 ∧ sm f i = p)) : pick f p (i + 1) = -9 := by
  simp only [pick]
  rw [if_neg (by omega), if_neg he]
theorem sm_rg {f : Nat → Int} (h : ∀ k, 0 ≤ f k ∧ f k ≤ 1) : ∀ n, 0 ≤ sm f n ∧ sm f n ≤ n
  | 0 => ⟨by simp [sm], by simp [sm]⟩
  | n + 1 => by
    have := sm_rg h n
    have := h n
    simp only [sm]
    omega
section BX
variable {p : Program} {l : Launch} {e : Env} {R : Room} {s : State} {m : MethodId} {args : Array Value} {below : List Frame} {meth : Method} {c : Code} {H : Heap} {locs : List Loc} {cells slots : Nat} {Q : State → Prop}
variable {cc : ByteArray} {pc : Nat} {ls : Array Slot} {rest : List Value}
theorem j_ldc (hx : p.tables.exec = Jvm.exec) (hb : c.code = cc) {own : String} {index : Nat} {v : Int32} {n : Int} (hown : s.vm.findClass own = some m.cls) (hconst : (Jvm.Cond.constant own index v).before args s = true) (hv : v = iI n) (hdg : decode cc pc = .ok (.ldc index, 2)) (k : W p l e R s m args below meth c H locs cells slots Q (F0 m (pc + 2) ls (.int (iI n) :: rest))) : W p l e R s m args below meth c H locs cells slots Q (F0 m pc ls (rest)) := lv_ldc hx hb hown hconst hdg (hv ▸ k)
theorem j_mmax (hx : p.tables.exec = Jvm.exec) (hb : c.code = cc) (hml : c.maxLocals = ls.size) {own : String} {index : Nat} (hown : s.vm.findClass own = some m.cls) (hlink : (Cond.methodLink own index Lib.Math.max.name).before args s = true) (hstat : (Cond.static Lib.Math.max.name).before args s = true) (hini : (Cond.initialized "java/lang/Math").before args s = true) (hcode : (Cond.code Lib.Math.max.name Lib.Math.max.code 2 (some .int)).before args s = true) (hframes : 1 ≤ R.frames) (hlocals : (rest.map fun v => v.category).sum + 13 ≤ R.locals) (hc : cells ≤ R.cells) (hs : slots ≤ R.slots) {a b : Int} (ha : rg a) (hbb : rg b) (hdg : decode cc pc = .ok (.invokestatic index, 3)) (k : W p l e R s m args below meth c H locs cells slots Q (F0 m (pc + 3) ls (.int (iI (max a b)) :: rest))) : W p l e R s m args below meth c H locs cells slots Q (F0 m pc ls (.int (iI b) :: .int (iI a) :: rest)) := va_mmax hx hb hml hown hlink hstat hini hcode hframes hlocals hc hs hdg (by rw [show (if iI a < iI b then iI b else iI a) = iI (max a b) from (by simp only [iI_lt ha hbb, iI_lt hbb ha]; split <;> congr 1 <;> omega)]; exact k)
theorem j_mmin (hx : p.tables.exec = Jvm.exec) (hb : c.code = cc) (hml : c.maxLocals = ls.size) {own : String} {index : Nat} (hown : s.vm.findClass own = some m.cls) (hlink : (Cond.methodLink own index Lib.Math.min.name).before args s = true) (hstat : (Cond.static Lib.Math.min.name).before args s = true) (hini : (Cond.initialized "java/lang/Math").before args s = true) (hcode : (Cond.code Lib.Math.min.name Lib.Math.min.code 2 (some .int)).before args s = true) (hframes : 1 ≤ R.frames) (hlocals : (rest.map fun v => v.category).sum + 13 ≤ R.locals) (hc : cells ≤ R.cells) (hs : slots ≤ R.slots) {a b : Int} (ha : rg a) (hbb : rg b) (hdg : decode cc pc = .ok (.invokestatic index, 3)) (k : W p l e R s m args below meth c H locs cells slots Q (F0 m (pc + 3) ls (.int (iI (min a b)) :: rest))) : W p l e R s m args below meth c H locs cells slots Q (F0 m pc ls (.int (iI b) :: .int (iI a) :: rest)) := va_mmin hx hb hml hown hlink hstat hini hcode hframes hlocals hc hs hdg (by rw [show (if iI b < iI a then iI b else iI a) = iI (min a b) from (by simp only [iI_lt ha hbb, iI_lt hbb ha]; split <;> congr 1 <;> omega)]; exact k)
theorem j_tin (hx : p.tables.exec = Jvm.exec) (hb : c.code = cc) {dflt lo hi : Int} {offs : Array Int} {len : Nat} {a k : Int} {off : Int} {tgt : Nat} (ha : a = k) (hk : rg k) (hdg : decode cc pc = .ok (.tableswitch dflt lo hi offs, len)) (h1 : ¬ k < lo) (h2 : ¬ hi < k) (ho : offs[(k - lo).toNat]? = some off) (ht : (pc : Int) + off = (tgt : Int)) (kk : W p l e R s m args below meth c H locs cells slots Q (F0 m tgt ls (rest))) : W p l e R s m args below meth c H locs cells slots Q (F0 m pc ls (.int (iI a) :: rest)) := by
  subst ha
  exact lv_tableIn hx hb hdg (by rw [iI_toInt hk]; exact h1) (by rw [iI_toInt hk]; exact h2) (by rw [iI_toInt hk]; exact ho) ht kk
theorem j_tout (hx : p.tables.exec = Jvm.exec) (hb : c.code = cc) {dflt lo hi : Int} {offs : Array Int} {len : Nat} {a : Int} {tgt : Nat} (hk : rg a) (hdg : decode cc pc = .ok (.tableswitch dflt lo hi offs, len)) (h : a < lo ∨ hi < a) (ht : (pc : Int) + dflt = (tgt : Int)) (kk : W p l e R s m args below meth c H locs cells slots Q (F0 m tgt ls (rest))) : W p l e R s m args below meth c H locs cells slots Q (F0 m pc ls (.int (iI a) :: rest)) :=
  lv_tableOut hx hb hdg (by rw [iI_toInt hk]; exact h) ht kk
theorem j_lk (hx : p.tables.exec = Jvm.exec) (hb : c.code = cc) {dflt : Int} {ps : Array (Int × Int)} {len : Nat} {a : Int} {off : Int} {tgt : Nat} (hk : rg a) (hdg : decode cc pc = .ok (.lookupswitch dflt ps, len)) (hp : (ps.toList.zip (ps.toList.drop 1)).all (fun (a, next) => a.1 < next.1) = true) (ho : Op.lookupswitch.offset ps.toList dflt a = off) (ht : (pc : Int) + off = (tgt : Int)) (kk : W p l e R s m args below meth c H locs cells slots Q (F0 m tgt ls (rest))) : W p l e R s m args below meth c H locs cells slots Q (F0 m pc ls (.int (iI a) :: rest)) :=
  lv_lookup hx hb hdg hp (by rw [iI_toInt hk]; exact ho) ht kk
end BX
end
section
/-! worlds -/
abbrev kt (cI cV : ClassId) : List (ClassId × FieldType) := [(cI, .int), (cV, .object "VillageLog$Village")]
/-- a council: its object o, its row e -/
def couw (cI : ClassId) (o e : Nat) (z : Int) (el : Nat → Int) : va_W := [(o, .inr (0, [.int (iI z), .ref e])), (e, arI cI 5 el)]
def lotc (a : Nat → Nat) (v6 v7 : Int) (A1 A2 A3 A4 A5 : va_E) : va_W := [(a 10, .inr (2, [.int (iI v6), .int (iI v7), .ref (a 11), .ref (a 12), .ref (a 13), .ref (a 14), .ref (a 15)])), (a 11, A1), (a 12, A2), (a 13, A3), (a 14, A4), (a 15, A5)]
def lotw (cI : ClassId) (a : Nat → Nat) (s : Nat → Int) : va_W := lotc a (s 6) (s 7) (arI cI 60 (fun i => s (222 + 5 * i))) (arI cI 60 (fun i => s (223 + 5 * i))) (arI cI 60 (fun i => s (225 + 5 * i))) (arI cI 60 (fun i => s (224 + 5 * i))) (arI cI 60 (fun i => s (226 + 5 * i)))
def vilc (a : Nat → Nat) (v0 v2 v5 v3 v4 : Int) (A1 A2 A3 A4 A5 : va_E) : va_W := [(a 0, .inr (4, [.int (iI v0), .ref (a 1), .ref (a 2), .ref (a 6), .ref (a 8), .int (iI v2), .int (iI v5), .ref (a 10), .int (iI v3), .int (iI v4), .ref (a 3), .ref (a 4), .ref (a 5)])), (a 1, A1), (a 2, A2), (a 3, A3), (a 4, A4), (a 5, A5)]
def vilo (cI : ClassId) (a : Nat → Nat) (s : Nat → Int) : va_W := vilc a (s 0) (s 2) (s 5) (s 3) (s 4) (arI cI 12 (fun i => s (8 + i))) (arI cI 12 (fun i => s (20 + i))) (arI cI 60 (fun i => s (42 + 3 * i))) (arI cI 60 (fun i => s (43 + 3 * i))) (arI cI 60 (fun i => s (44 + 3 * i)))
/-- a village: its own cells, both councils, the lot -/
def vilw (cI : ClassId) (a : Nat → Nat) (s : Nat → Int) (nz : Int) (nw : Nat → Int) : va_W := vilo cI a s ++ (couw cI (a 6) (a 7) (s 1) (fun i => s (32 + i)) ++ (couw cI (a 8) (a 9) nz nw ++ lotw cI a s))
/-- the text -/
def txtw (cI : ClassId) (o ch : Nat) (t : Nat → Int) (n pl le vr nr : Int) : va_W := [(o, .inr (3, [.ref ch, .int (iI n), .int (iI pl), .int (iI le), .int (iI vr), .int (iI nr)])), (ch, arI cI 60 t)]
/-- the history's own cells -/
def hisw (cV : ClassId) (o r : Nat) (rows : Nat → Nat) (fr n : Int) : va_W := [(o, .inr (1, [.ref r, .int (iI fr), .int (iI n)])), (r, .inl (cV, 6, .inr (.inr (.inr (.inr (fun i => some (rows i)))))))]
/-- the reference's cells -/
def modw (cI : ClassId) (b : Nat → Nat) (s pa he : Nat → Int) (np ru : Int) (t : Nat → Int) (ty at_ rd : Int) : va_W := [(b 0, .inr (6, [.ref (b 1), .ref (b 2), .ref (b 3), .int (iI np), .int (iI ru), .ref (b 4), .int (iI ty), .int (iI at_), .int (iI rd)])), (b 1, arI cI 522 s), (b 2, arI cI 2610 pa), (b 3, arI cI 522 he), (b 4, arI cI 60 t)]
def Wd (D : va_G) (A : Nat → Prop) (w : va_W) (H0 H : Heap) (locs : List Loc) : Prop := va_P D vwCl w H ∧ va_D A w ∧ va_S A H0 H locs
section WB
variable {p : Program} {l : Launch} {e : Env} {R : Room} {s0 : State} {m : MethodId} {args : Array Value} {below : List Frame} {meth : Method} {c : Code} {H H0 : Heap} {locs : List Loc} {cells slots : Nat} {Q : State → Prop} {D : va_G} {cI cV : ClassId} {Ts : List Cond} {A : Nat → Prop} {w : va_W}
variable {cc : ByteArray} {pc : Nat} {ls : Array Slot} {rest : List Value}
variable {a b rows : Nat → Nat} {s nw t pa he el : Nat → Int} {nz z n pl le vr nr fr np ru ty at_ rd : Int} {o ch r e_ x_ : Nat}
theorem Cg0 (hx : p.tables.exec = Jvm.exec) (hb : c.code = cc) (hts : ∀ w ∈ Ts, w.before args s0 = true) (hin : ∀ w ∈ u_ws RX0 TX0 2, w ∈ Ts) (hown : s0.vm.findClass RX0 = some m.cls) (hK : va_K D vwCl (kt cI cV) s0) (hP : va_P D vwCl (couw cI o e_ z el) H) {idx : Nat} (hl : Cond.fieldLink RX0 idx "VillageLog$Council" "size" "I" ∈ Ts) (hdg : decode cc pc = .ok (.getfield idx, 3)) (k : W p l e R s0 m args below meth c H locs cells slots Q (F0 m (pc + 3) ls (.int (iI z) :: rest))) : W p l e R s0 m args below meth c H locs cells slots Q (F0 m pc ls (.ref (o) :: rest)) :=
  va_get (D := D) (ci := 0) (C := RX0) (T := TX0) (N := 2) hx hb hts hin hown hK hP 0 rfl rfl 0 (by decide) (hts _ hl) (fun _ h => h) rfl hdg k
theorem Cg1 (hx : p.tables.exec = Jvm.exec) (hb : c.code = cc) (hts : ∀ w ∈ Ts, w.before args s0 = true) (hin : ∀ w ∈ u_ws RX0 TX0 2, w ∈ Ts) (hown : s0.vm.findClass RX0 = some m.cls) (hK : va_K D vwCl (kt cI cV) s0) (hP : va_P D vwCl (couw cI o e_ z el) H) {idx : Nat} (hl : Cond.fieldLink RX0 idx "VillageLog$Council" "elders" "[I" ∈ Ts) (hdg : decode cc pc = .ok (.getfield idx, 3)) (k : W p l e R s0 m args below meth c H locs cells slots Q (F0 m (pc + 3) ls (.ref e_ :: rest))) : W p l e R s0 m args below meth c H locs cells slots Q (F0 m pc ls (.ref (o) :: rest)) :=
  va_get (D := D) (ci := 0) (C := RX0) (T := TX0) (N := 2) hx hb hts hin hown hK hP 0 rfl rfl 1 (by decide) (hts _ hl) (fun _ h => h) rfl hdg k
theorem Cp0 (hx : p.tables.exec = Jvm.exec) (hb : c.code = cc) (hts : ∀ w ∈ Ts, w.before args s0 = true) (hin : ∀ w ∈ u_ws RX0 TX0 2, w ∈ Ts) (hown : s0.vm.findClass RX0 = some m.cls) (hK : va_K D vwCl (kt cI cV) s0) (hW : Wd D A (couw cI o e_ z el) H0 H locs) {idx : Nat} (hl : Cond.fieldLink RX0 idx "VillageLog$Council" "size" "I" ∈ Ts) (hdg : decode cc pc = .ok (.putfield idx, 3)) {x : Int} (k : ∀ (H1 : Heap) (locs1 : List Loc), Wd D A (couw cI o e_ x el) H0 H1 locs1 → W p l e R s0 m args below meth c H1 locs1 cells slots Q (F0 m (pc + 3) ls (rest))) : W p l e R s0 m args below meth c H locs cells slots Q (F0 m pc ls (.int (iI x) :: .ref (o) :: rest)) :=
  va_put (D := D) (ci := 0) (v := .int (iI x)) (ty := .int) (C := RX0) (T := TX0) (N := 2) hx hb hts hin tyX0 tyX0_ok nmX0 hown hK hW.1 hW.2.1 hW.2.2 0 rfl rfl 0 (by decide) (hts _ hl) (fun _ h => h) rfl (by decide +kernel) rfl rfl (Nat.le_of_ble_eq_true rfl) hdg (fun H1 locs1 hP hD hS => k H1 locs1 ⟨(rfl : _ = couw cI o e_ x el) ▸ hP, (rfl : _ = couw cI o e_ x el) ▸ hD, hS⟩)
theorem Ca (hx : p.tables.exec = Jvm.exec) (hb : c.code = cc) (hK : va_K D vwCl (kt cI cV) s0) (hP : va_P D vwCl (couw cI o e_ z el) H) {i : Int} (hi : 0 ≤ i ∧ i < 5) (hdg : decode cc pc = .ok (.iaload, 1)) (k : W p l e R s0 m args below meth c H locs cells slots Q (F0 m (pc + 1) ls (.int (iI (el i.toNat)) :: rest))) : W p l e R s0 m args below meth c H locs cells slots Q (F0 m pc ls (.int (iI i) :: .ref (e_) :: rest)) := by
  refine va_iald hx hb hK hP 1 0 rfl rfl (iI_in (n := 5) (by omega) (by omega)) hdg ?_
  rw [iI_clamp ⟨by omega, by omega⟩, cut_at (by omega)]
  exact k
theorem Cs (hx : p.tables.exec = Jvm.exec) (hb : c.code = cc) (hK : va_K D vwCl (kt cI cV) s0) (hW : Wd D A (couw cI o e_ z el) H0 H locs) {i x : Int} (hi : 0 ≤ i ∧ i < 5) (hdg : decode cc pc = .ok (.iastore, 1)) (k : ∀ (H1 : Heap) (locs1 : List Loc), Wd D A (couw cI o e_ z (up el i.toNat x)) H0 H1 locs1 → W p l e R s0 m args below meth c H1 locs1 cells slots Q (F0 m (pc + 1) ls (rest))) : W p l e R s0 m args below meth c H locs cells slots Q (F0 m pc ls (.int (iI x) :: .int (iI i) :: .ref (e_) :: rest)) := by
  refine va_iast hx hb hK hW.1 hW.2.1 hW.2.2 1 0 (f := fun j => iI (cut 5 (el) j)) rfl rfl (iI_in (n := 5) (by omega) (by omega)) hdg (fun H1 locs1 hP hD hS => k H1 locs1 ?_)
  rw [iI_clamp ⟨by omega, by omega⟩, arI_upd (by omega)] at hP hD
  have hk : i.toNat < 5 := by omega
  exact ⟨hP, hD, hS⟩
theorem Lg0 (hx : p.tables.exec = Jvm.exec) (hb : c.code = cc) (hts : ∀ w ∈ Ts, w.before args s0 = true) (hin : ∀ w ∈ u_ws RX2 TX2 7, w ∈ Ts) (hown : s0.vm.findClass RX2 = some m.cls) (hK : va_K D vwCl (kt cI cV) s0) (hP : va_P D vwCl (lotw cI a s) H) {idx : Nat} (hl : Cond.fieldLink RX2 idx "VillageLog$Lot" "state" "I" ∈ Ts) (hdg : decode cc pc = .ok (.getfield idx, 3)) (k : W p l e R s0 m args below meth c H locs cells slots Q (F0 m (pc + 3) ls (.int (iI (s 6)) :: rest))) : W p l e R s0 m args below meth c H locs cells slots Q (F0 m pc ls (.ref (a 10) :: rest)) :=
  va_get (D := D) (ci := 2) (C := RX2) (T := TX2) (N := 7) hx hb hts hin hown hK hP 0 rfl rfl 0 (by decide) (hts _ hl) (fun _ h => h) rfl hdg k
theorem Lg1 (hx : p.tables.exec = Jvm.exec) (hb : c.code = cc) (hts : ∀ w ∈ Ts, w.before args s0 = true) (hin : ∀ w ∈ u_ws RX2 TX2 7, w ∈ Ts) (hown : s0.vm.findClass RX2 = some m.cls) (hK : va_K D vwCl (kt cI cV) s0) (hP : va_P D vwCl (lotw cI a s) H) {idx : Nat} (hl : Cond.fieldLink RX2 idx "VillageLog$Lot" "draws" "I" ∈ Ts) (hdg : decode cc pc = .ok (.getfield idx, 3)) (k : W p l e R s0 m args below meth c H locs cells slots Q (F0 m (pc + 3) ls (.int (iI (s 7)) :: rest))) : W p l e R s0 m args below meth c H locs cells slots Q (F0 m pc ls (.ref (a 10) :: rest)) :=
  va_get (D := D) (ci := 2) (C := RX2) (T := TX2) (N := 7) hx hb hts hin hown hK hP 0 rfl rfl 1 (by decide) (hts _ hl) (fun _ h => h) rfl hdg k
theorem Lg2 (hx : p.tables.exec = Jvm.exec) (hb : c.code = cc) (hts : ∀ w ∈ Ts, w.before args s0 = true) (hin : ∀ w ∈ u_ws RX2 TX2 7, w ∈ Ts) (hown : s0.vm.findClass RX2 = some m.cls) (hK : va_K D vwCl (kt cI cV) s0) (hP : va_P D vwCl (lotw cI a s) H) {idx : Nat} (hl : Cond.fieldLink RX2 idx "VillageLog$Lot" "states" "[I" ∈ Ts) (hdg : decode cc pc = .ok (.getfield idx, 3)) (k : W p l e R s0 m args below meth c H locs cells slots Q (F0 m (pc + 3) ls (.ref (a 11) :: rest))) : W p l e R s0 m args below meth c H locs cells slots Q (F0 m pc ls (.ref (a 10) :: rest)) :=
  va_get (D := D) (ci := 2) (C := RX2) (T := TX2) (N := 7) hx hb hts hin hown hK hP 0 rfl rfl 2 (by decide) (hts _ hl) (fun _ h => h) rfl hdg k
theorem Lg3 (hx : p.tables.exec = Jvm.exec) (hb : c.code = cc) (hts : ∀ w ∈ Ts, w.before args s0 = true) (hin : ∀ w ∈ u_ws RX2 TX2 7, w ∈ Ts) (hown : s0.vm.findClass RX2 = some m.cls) (hK : va_K D vwCl (kt cI cV) s0) (hP : va_P D vwCl (lotw cI a s) H) {idx : Nat} (hl : Cond.fieldLink RX2 idx "VillageLog$Lot" "candidates" "[I" ∈ Ts) (hdg : decode cc pc = .ok (.getfield idx, 3)) (k : W p l e R s0 m args below meth c H locs cells slots Q (F0 m (pc + 3) ls (.ref (a 12) :: rest))) : W p l e R s0 m args below meth c H locs cells slots Q (F0 m pc ls (.ref (a 10) :: rest)) :=
  va_get (D := D) (ci := 2) (C := RX2) (T := TX2) (N := 7) hx hb hts hin hown hK hP 0 rfl rfl 3 (by decide) (hts _ hl) (fun _ h => h) rfl hdg k
theorem Lg4 (hx : p.tables.exec = Jvm.exec) (hb : c.code = cc) (hts : ∀ w ∈ Ts, w.before args s0 = true) (hin : ∀ w ∈ u_ws RX2 TX2 7, w ∈ Ts) (hown : s0.vm.findClass RX2 = some m.cls) (hK : va_K D vwCl (kt cI cV) s0) (hP : va_P D vwCl (lotw cI a s) H) {idx : Nat} (hl : Cond.fieldLink RX2 idx "VillageLog$Lot" "drawn" "[I" ∈ Ts) (hdg : decode cc pc = .ok (.getfield idx, 3)) (k : W p l e R s0 m args below meth c H locs cells slots Q (F0 m (pc + 3) ls (.ref (a 13) :: rest))) : W p l e R s0 m args below meth c H locs cells slots Q (F0 m pc ls (.ref (a 10) :: rest)) :=
  va_get (D := D) (ci := 2) (C := RX2) (T := TX2) (N := 7) hx hb hts hin hown hK hP 0 rfl rfl 4 (by decide) (hts _ hl) (fun _ h => h) rfl hdg k
theorem Lg5 (hx : p.tables.exec = Jvm.exec) (hb : c.code = cc) (hts : ∀ w ∈ Ts, w.before args s0 = true) (hin : ∀ w ∈ u_ws RX2 TX2 7, w ∈ Ts) (hown : s0.vm.findClass RX2 = some m.cls) (hK : va_K D vwCl (kt cI cV) s0) (hP : va_P D vwCl (lotw cI a s) H) {idx : Nat} (hl : Cond.fieldLink RX2 idx "VillageLog$Lot" "standing" "[I" ∈ Ts) (hdg : decode cc pc = .ok (.getfield idx, 3)) (k : W p l e R s0 m args below meth c H locs cells slots Q (F0 m (pc + 3) ls (.ref (a 14) :: rest))) : W p l e R s0 m args below meth c H locs cells slots Q (F0 m pc ls (.ref (a 10) :: rest)) :=
  va_get (D := D) (ci := 2) (C := RX2) (T := TX2) (N := 7) hx hb hts hin hown hK hP 0 rfl rfl 5 (by decide) (hts _ hl) (fun _ h => h) rfl hdg k
theorem Lg6 (hx : p.tables.exec = Jvm.exec) (hb : c.code = cc) (hts : ∀ w ∈ Ts, w.before args s0 = true) (hin : ∀ w ∈ u_ws RX2 TX2 7, w ∈ Ts) (hown : s0.vm.findClass RX2 = some m.cls) (hK : va_K D vwCl (kt cI cV) s0) (hP : va_P D vwCl (lotw cI a s) H) {idx : Nat} (hl : Cond.fieldLink RX2 idx "VillageLog$Lot" "seats" "[I" ∈ Ts) (hdg : decode cc pc = .ok (.getfield idx, 3)) (k : W p l e R s0 m args below meth c H locs cells slots Q (F0 m (pc + 3) ls (.ref (a 15) :: rest))) : W p l e R s0 m args below meth c H locs cells slots Q (F0 m pc ls (.ref (a 10) :: rest)) :=
  va_get (D := D) (ci := 2) (C := RX2) (T := TX2) (N := 7) hx hb hts hin hown hK hP 0 rfl rfl 6 (by decide) (hts _ hl) (fun _ h => h) rfl hdg k
theorem eL0 {x : Int} : lotw cI a (up s 6 x) = lotc a x (s 7) (arI cI 60 (fun i => s (222 + 5 * i))) (arI cI 60 (fun i => s (223 + 5 * i))) (arI cI 60 (fun i => s (225 + 5 * i))) (arI cI 60 (fun i => s (224 + 5 * i))) (arI cI 60 (fun i => s (226 + 5 * i))) := by
  unfold lotw
  rw [show up s 6 x 6 = x from up_at (by omega), show up s 6 x 7 = s 7 from up_ne (by omega), show arI cI 60 (fun i => up s 6 x (222 + 5 * i)) = arI cI 60 (fun i => s (222 + 5 * i)) from arI_congr (fun i hi => up_ne (by omega)), show arI cI 60 (fun i => up s 6 x (223 + 5 * i)) = arI cI 60 (fun i => s (223 + 5 * i)) from arI_congr (fun i hi => up_ne (by omega)), show arI cI 60 (fun i => up s 6 x (225 + 5 * i)) = arI cI 60 (fun i => s (225 + 5 * i)) from arI_congr (fun i hi => up_ne (by omega)), show arI cI 60 (fun i => up s 6 x (224 + 5 * i)) = arI cI 60 (fun i => s (224 + 5 * i)) from arI_congr (fun i hi => up_ne (by omega)), show arI cI 60 (fun i => up s 6 x (226 + 5 * i)) = arI cI 60 (fun i => s (226 + 5 * i)) from arI_congr (fun i hi => up_ne (by omega))]
  first | done | rfl
theorem Lp0 (hx : p.tables.exec = Jvm.exec) (hb : c.code = cc) (hts : ∀ w ∈ Ts, w.before args s0 = true) (hin : ∀ w ∈ u_ws RX2 TX2 7, w ∈ Ts) (hown : s0.vm.findClass RX2 = some m.cls) (hK : va_K D vwCl (kt cI cV) s0) (hW : Wd D A (lotw cI a s) H0 H locs) {idx : Nat} (hl : Cond.fieldLink RX2 idx "VillageLog$Lot" "state" "I" ∈ Ts) (hdg : decode cc pc = .ok (.putfield idx, 3)) {x : Int} (k : ∀ (H1 : Heap) (locs1 : List Loc), Wd D A (lotw cI a (up s 6 x)) H0 H1 locs1 → W p l e R s0 m args below meth c H1 locs1 cells slots Q (F0 m (pc + 3) ls (rest))) : W p l e R s0 m args below meth c H locs cells slots Q (F0 m pc ls (.int (iI x) :: .ref (a 10) :: rest)) :=
  va_put (D := D) (ci := 2) (v := .int (iI x)) (ty := .int) (C := RX2) (T := TX2) (N := 7) hx hb hts hin tyX2 tyX2_ok nmX2 hown hK hW.1 hW.2.1 hW.2.2 0 rfl rfl 0 (by decide) (hts _ hl) (fun _ h => h) rfl (by decide +kernel) rfl rfl (Nat.le_of_ble_eq_true rfl) hdg (fun H1 locs1 hP hD hS => k H1 locs1 ⟨(eL0.symm : _ = lotw cI a (up s 6 x)) ▸ hP, (eL0.symm : _ = lotw cI a (up s 6 x)) ▸ hD, hS⟩)
theorem eL1 {x : Int} : lotw cI a (up s 7 x) = lotc a (s 6) x (arI cI 60 (fun i => s (222 + 5 * i))) (arI cI 60 (fun i => s (223 + 5 * i))) (arI cI 60 (fun i => s (225 + 5 * i))) (arI cI 60 (fun i => s (224 + 5 * i))) (arI cI 60 (fun i => s (226 + 5 * i))) := by
  unfold lotw
  rw [show up s 7 x 6 = s 6 from up_ne (by omega), show up s 7 x 7 = x from up_at (by omega), show arI cI 60 (fun i => up s 7 x (222 + 5 * i)) = arI cI 60 (fun i => s (222 + 5 * i)) from arI_congr (fun i hi => up_ne (by omega)), show arI cI 60 (fun i => up s 7 x (223 + 5 * i)) = arI cI 60 (fun i => s (223 + 5 * i)) from arI_congr (fun i hi => up_ne (by omega)), show arI cI 60 (fun i => up s 7 x (225 + 5 * i)) = arI cI 60 (fun i => s (225 + 5 * i)) from arI_congr (fun i hi => up_ne (by omega)), show arI cI 60 (fun i => up s 7 x (224 + 5 * i)) = arI cI 60 (fun i => s (224 + 5 * i)) from arI_congr (fun i hi => up_ne (by omega)), show arI cI 60 (fun i => up s 7 x (226 + 5 * i)) = arI cI 60 (fun i => s (226 + 5 * i)) from arI_congr (fun i hi => up_ne (by omega))]
  first | done | rfl
theorem Lp1 (hx : p.tables.exec = Jvm.exec) (hb : c.code = cc) (hts : ∀ w ∈ Ts, w.before args s0 = true) (hin : ∀ w ∈ u_ws RX2 TX2 7, w ∈ Ts) (hown : s0.vm.findClass RX2 = some m.cls) (hK : va_K D vwCl (kt cI cV) s0) (hW : Wd D A (lotw cI a s) H0 H locs) {idx : Nat} (hl : Cond.fieldLink RX2 idx "VillageLog$Lot" "draws" "I" ∈ Ts) (hdg : decode cc pc = .ok (.putfield idx, 3)) {x : Int} (k : ∀ (H1 : Heap) (locs1 : List Loc), Wd D A (lotw cI a (up s 7 x)) H0 H1 locs1 → W p l e R s0 m args below meth c H1 locs1 cells slots Q (F0 m (pc + 3) ls (rest))) : W p l e R s0 m args below meth c H locs cells slots Q (F0 m pc ls (.int (iI x) :: .ref (a 10) :: rest)) :=
  va_put (D := D) (ci := 2) (v := .int (iI x)) (ty := .int) (C := RX2) (T := TX2) (N := 7) hx hb hts hin tyX2 tyX2_ok nmX2 hown hK hW.1 hW.2.1 hW.2.2 0 rfl rfl 1 (by decide) (hts _ hl) (fun _ h => h) rfl (by decide +kernel) rfl rfl (Nat.le_of_ble_eq_true rfl) hdg (fun H1 locs1 hP hD hS => k H1 locs1 ⟨(eL1.symm : _ = lotw cI a (up s 7 x)) ▸ hP, (eL1.symm : _ = lotw cI a (up s 7 x)) ▸ hD, hS⟩)
theorem La0 (hx : p.tables.exec = Jvm.exec) (hb : c.code = cc) (hK : va_K D vwCl (kt cI cV) s0) (hP : va_P D vwCl (lotw cI a s) H) {i : Int} (hi : 0 ≤ i ∧ i < 60) (hdg : decode cc pc = .ok (.iaload, 1)) (k : W p l e R s0 m args below meth c H locs cells slots Q (F0 m (pc + 1) ls (.int (iI (s (222 + 5 * i.toNat))) :: rest))) : W p l e R s0 m args below meth c H locs cells slots Q (F0 m pc ls (.int (iI i) :: .ref (a 11) :: rest)) := by
  refine va_iald hx hb hK hP 1 0 rfl rfl (iI_in (n := 60) (by omega) (by omega)) hdg ?_
  rw [iI_clamp ⟨by omega, by omega⟩, cut_at (by omega)]
  exact k
theorem eLa0 {k : Nat} {x : Int} (hk : k < 60) : lotw cI a (up s (222 + 5 * k) x) = lotc a (s 6) (s 7) (arI cI 60 (up (fun i => s (222 + 5 * i)) k x)) (arI cI 60 (fun i => s (223 + 5 * i))) (arI cI 60 (fun i => s (225 + 5 * i))) (arI cI 60 (fun i => s (224 + 5 * i))) (arI cI 60 (fun i => s (226 + 5 * i))) := by
  unfold lotw
  rw [show up s (222 + 5 * k) x 6 = s 6 from up_ne (by omega), show up s (222 + 5 * k) x 7 = s 7 from up_ne (by omega), show arI cI 60 (fun i => up s (222 + 5 * k) x (222 + 5 * i)) = arI cI 60 (up (fun i => s (222 + 5 * i)) k x) from arI_congr (fun i hi => by unfold up; by_cases h : i = k <;> first | (subst h; simp; done) | (rw [if_neg h, if_neg (by omega)])), show arI cI 60 (fun i => up s (222 + 5 * k) x (223 + 5 * i)) = arI cI 60 (fun i => s (223 + 5 * i)) from arI_congr (fun i hi => up_ne (by omega)), show arI cI 60 (fun i => up s (222 + 5 * k) x (225 + 5 * i)) = arI cI 60 (fun i => s (225 + 5 * i)) from arI_congr (fun i hi => up_ne (by omega)), show arI cI 60 (fun i => up s (222 + 5 * k) x (224 + 5 * i)) = arI cI 60 (fun i => s (224 + 5 * i)) from arI_congr (fun i hi => up_ne (by omega)), show arI cI 60 (fun i => up s (222 + 5 * k) x (226 + 5 * i)) = arI cI 60 (fun i => s (226 + 5 * i)) from arI_congr (fun i hi => up_ne (by omega))]
  first | done | rfl
theorem Ls0 (hx : p.tables.exec = Jvm.exec) (hb : c.code = cc) (hK : va_K D vwCl (kt cI cV) s0) (hW : Wd D A (lotw cI a s) H0 H locs) {i x : Int} (hi : 0 ≤ i ∧ i < 60) (hdg : decode cc pc = .ok (.iastore, 1)) (k : ∀ (H1 : Heap) (locs1 : List Loc), Wd D A (lotw cI a (up s (222 + 5 * i.toNat) x)) H0 H1 locs1 → W p l e R s0 m args below meth c H1 locs1 cells slots Q (F0 m (pc + 1) ls (rest))) : W p l e R s0 m args below meth c H locs cells slots Q (F0 m pc ls (.int (iI x) :: .int (iI i) :: .ref (a 11) :: rest)) := by
  refine va_iast hx hb hK hW.1 hW.2.1 hW.2.2 1 0 (f := fun j => iI (cut 60 (fun i => s (222 + 5 * i)) j)) rfl rfl (iI_in (n := 60) (by omega) (by omega)) hdg (fun H1 locs1 hP hD hS => k H1 locs1 ?_)
  rw [iI_clamp ⟨by omega, by omega⟩, arI_upd (by omega)] at hP hD
  have hk : i.toNat < 60 := by omega
  have hee := (eLa0 (cI := cI) (a := a) (s := s) (x := x) hk).symm
  exact ⟨hee ▸ hP, hee ▸ hD, hS⟩
theorem La1 (hx : p.tables.exec = Jvm.exec) (hb : c.code = cc) (hK : va_K D vwCl (kt cI cV) s0) (hP : va_P D vwCl (lotw cI a s) H) {i : Int} (hi : 0 ≤ i ∧ i < 60) (hdg : decode cc pc = .ok (.iaload, 1)) (k : W p l e R s0 m args below meth c H locs cells slots Q (F0 m (pc + 1) ls (.int (iI (s (223 + 5 * i.toNat))) :: rest))) : W p l e R s0 m args below meth c H locs cells slots Q (F0 m pc ls (.int (iI i) :: .ref (a 12) :: rest)) := by
  refine va_iald hx hb hK hP 2 0 rfl rfl (iI_in (n := 60) (by omega) (by omega)) hdg ?_
  rw [iI_clamp ⟨by omega, by omega⟩, cut_at (by omega)]
  exact k
theorem eLa1 {k : Nat} {x : Int} (hk : k < 60) : lotw cI a (up s (223 + 5 * k) x) = lotc a (s 6) (s 7) (arI cI 60 (fun i => s (222 + 5 * i))) (arI cI 60 (up (fun i => s (223 + 5 * i)) k x)) (arI cI 60 (fun i => s (225 + 5 * i))) (arI cI 60 (fun i => s (224 + 5 * i))) (arI cI 60 (fun i => s (226 + 5 * i))) := by
  unfold lotw
  rw [show up s (223 + 5 * k) x 6 = s 6 from up_ne (by omega), show up s (223 + 5 * k) x 7 = s 7 from up_ne (by omega), show arI cI 60 (fun i => up s (223 + 5 * k) x (222 + 5 * i)) = arI cI 60 (fun i => s (222 + 5 * i)) from arI_congr (fun i hi => up_ne (by omega)), show arI cI 60 (fun i => up s (223 + 5 * k) x (223 + 5 * i)) = arI cI 60 (up (fun i => s (223 + 5 * i)) k x) from arI_congr (fun i hi => by unfold up; by_cases h : i = k <;> first | (subst h; simp; done) | (rw [if_neg h, if_neg (by omega)])), show arI cI 60 (fun i => up s (223 + 5 * k) x (225 + 5 * i)) = arI cI 60 (fun i => s (225 + 5 * i)) from arI_congr (fun i hi => up_ne (by omega)), show arI cI 60 (fun i => up s (223 + 5 * k) x (224 + 5 * i)) = arI cI 60 (fun i => s (224 + 5 * i)) from arI_congr (fun i hi => up_ne (by omega)), show arI cI 60 (fun i => up s (223 + 5 * k) x (226 + 5 * i)) = arI cI 60 (fun i => s (226 + 5 * i)) from arI_congr (fun i hi => up_ne (by omega))]
  first | done | rfl
theorem Ls1 (hx : p.tables.exec = Jvm.exec) (hb : c.code = cc) (hK : va_K D vwCl (kt cI cV) s0) (hW : Wd D A (lotw cI a s) H0 H locs) {i x : Int} (hi : 0 ≤ i ∧ i < 60) (hdg : decode cc pc = .ok (.iastore, 1)) (k : ∀ (H1 : Heap) (locs1 : List Loc), Wd D A (lotw cI a (up s (223 + 5 * i.toNat) x)) H0 H1 locs1 → W p l e R s0 m args below meth c H1 locs1 cells slots Q (F0 m (pc + 1) ls (rest))) : W p l e R s0 m args below meth c H locs cells slots Q (F0 m pc ls (.int (iI x) :: .int (iI i) :: .ref (a 12) :: rest)) := by
  refine va_iast hx hb hK hW.1 hW.2.1 hW.2.2 2 0 (f := fun j => iI (cut 60 (fun i => s (223 + 5 * i)) j)) rfl rfl (iI_in (n := 60) (by omega) (by omega)) hdg (fun H1 locs1 hP hD hS => k H1 locs1 ?_)
  rw [iI_clamp ⟨by omega, by omega⟩, arI_upd (by omega)] at hP hD
  have hk : i.toNat < 60 := by omega
  have hee := (eLa1 (cI := cI) (a := a) (s := s) (x := x) hk).symm
  exact ⟨hee ▸ hP, hee ▸ hD, hS⟩
theorem La2 (hx : p.tables.exec = Jvm.exec) (hb : c.code = cc) (hK : va_K D vwCl (kt cI cV) s0) (hP : va_P D vwCl (lotw cI a s) H) {i : Int} (hi : 0 ≤ i ∧ i < 60) (hdg : decode cc pc = .ok (.iaload, 1)) (k : W p l e R s0 m args below meth c H locs cells slots Q (F0 m (pc + 1) ls (.int (iI (s (225 + 5 * i.toNat))) :: rest))) : W p l e R s0 m args below meth c H locs cells slots Q (F0 m pc ls (.int (iI i) :: .ref (a 13) :: rest)) := by
  refine va_iald hx hb hK hP 3 0 rfl rfl (iI_in (n := 60) (by omega) (by omega)) hdg ?_
  rw [iI_clamp ⟨by omega, by omega⟩, cut_at (by omega)]
  exact k
theorem eLa2 {k : Nat} {x : Int} (hk : k < 60) : lotw cI a (up s (225 + 5 * k) x) = lotc a (s 6) (s 7) (arI cI 60 (fun i => s (222 + 5 * i))) (arI cI 60 (fun i => s (223 + 5 * i))) (arI cI 60 (up (fun i => s (225 + 5 * i)) k x)) (arI cI 60 (fun i => s (224 + 5 * i))) (arI cI 60 (fun i => s (226 + 5 * i))) := by
  unfold lotw
  rw [show up s (225 + 5 * k) x 6 = s 6 from up_ne (by omega), show up s (225 + 5 * k) x 7 = s 7 from up_ne (by omega), show arI cI 60 (fun i => up s (225 + 5 * k) x (222 + 5 * i)) = arI cI 60 (fun i => s (222 + 5 * i)) from arI_congr (fun i hi => up_ne (by omega)), show arI cI 60 (fun i => up s (225 + 5 * k) x (223 + 5 * i)) = arI cI 60 (fun i => s (223 + 5 * i)) from arI_congr (fun i hi => up_ne (by omega)), show arI cI 60 (fun i => up s (225 + 5 * k) x (225 + 5 * i)) = arI cI 60 (up (fun i => s (225 + 5 * i)) k x) from arI_congr (fun i hi => by unfold up; by_cases h : i = k <;> first | (subst h; simp; done) | (rw [if_neg h, if_neg (by omega)])), show arI cI 60 (fun i => up s (225 + 5 * k) x (224 + 5 * i)) = arI cI 60 (fun i => s (224 + 5 * i)) from arI_congr (fun i hi => up_ne (by omega)), show arI cI 60 (fun i => up s (225 + 5 * k) x (226 + 5 * i)) = arI cI 60 (fun i => s (226 + 5 * i)) from arI_congr (fun i hi => up_ne (by omega))]
  first | done | rfl
theorem Ls2 (hx : p.tables.exec = Jvm.exec) (hb : c.code = cc) (hK : va_K D vwCl (kt cI cV) s0) (hW : Wd D A (lotw cI a s) H0 H locs) {i x : Int} (hi : 0 ≤ i ∧ i < 60) (hdg : decode cc pc = .ok (.iastore, 1)) (k : ∀ (H1 : Heap) (locs1 : List Loc), Wd D A (lotw cI a (up s (225 + 5 * i.toNat) x)) H0 H1 locs1 → W p l e R s0 m args below meth c H1 locs1 cells slots Q (F0 m (pc + 1) ls (rest))) : W p l e R s0 m args below meth c H locs cells slots Q (F0 m pc ls (.int (iI x) :: .int (iI i) :: .ref (a 13) :: rest)) := by
  refine va_iast hx hb hK hW.1 hW.2.1 hW.2.2 3 0 (f := fun j => iI (cut 60 (fun i => s (225 + 5 * i)) j)) rfl rfl (iI_in (n := 60) (by omega) (by omega)) hdg (fun H1 locs1 hP hD hS => k H1 locs1 ?_)
  rw [iI_clamp ⟨by omega, by omega⟩, arI_upd (by omega)] at hP hD
  have hk : i.toNat < 60 := by omega
  have hee := (eLa2 (cI := cI) (a := a) (s := s) (x := x) hk).symm
  exact ⟨hee ▸ hP, hee ▸ hD, hS⟩
theorem La3 (hx : p.tables.exec = Jvm.exec) (hb : c.code = cc) (hK : va_K D vwCl (kt cI cV) s0) (hP : va_P D vwCl (lotw cI a s) H) {i : Int} (hi : 0 ≤ i ∧ i < 60) (hdg : decode cc pc = .ok (.iaload, 1)) (k : W p l e R s0 m args below meth c H locs cells slots Q (F0 m (pc + 1) ls (.int (iI (s (224 + 5 * i.toNat))) :: rest))) : W p l e R s0 m args below meth c H locs cells slots Q (F0 m pc ls (.int (iI i) :: .ref (a 14) :: rest)) := by
  refine va_iald hx hb hK hP 4 0 rfl rfl (iI_in (n := 60) (by omega) (by omega)) hdg ?_
  rw [iI_clamp ⟨by omega, by omega⟩, cut_at (by omega)]
  exact k
theorem eLa3 {k : Nat} {x : Int} (hk : k < 60) : lotw cI a (up s (224 + 5 * k) x) = lotc a (s 6) (s 7) (arI cI 60 (fun i => s (222 + 5 * i))) (arI cI 60 (fun i => s (223 + 5 * i))) (arI cI 60 (fun i => s (225 + 5 * i))) (arI cI 60 (up (fun i => s (224 + 5 * i)) k x)) (arI cI 60 (fun i => s (226 + 5 * i))) := by
  unfold lotw
  rw [show up s (224 + 5 * k) x 6 = s 6 from up_ne (by omega), show up s (224 + 5 * k) x 7 = s 7 from up_ne (by omega), show arI cI 60 (fun i => up s (224 + 5 * k) x (222 + 5 * i)) = arI cI 60 (fun i => s (222 + 5 * i)) from arI_congr (fun i hi => up_ne (by omega)), show arI cI 60 (fun i => up s (224 + 5 * k) x (223 + 5 * i)) = arI cI 60 (fun i => s (223 + 5 * i)) from arI_congr (fun i hi => up_ne (by omega)), show arI cI 60 (fun i => up s (224 + 5 * k) x (225 + 5 * i)) = arI cI 60 (fun i => s (225 + 5 * i)) from arI_congr (fun i hi => up_ne (by omega)), show arI cI 60 (fun i => up s (224 + 5 * k) x (224 + 5 * i)) = arI cI 60 (up (fun i => s (224 + 5 * i)) k x) from arI_congr (fun i hi => by unfold up; by_cases h : i = k <;> first | (subst h; simp; done) | (rw [if_neg h, if_neg (by omega)])), show arI cI 60 (fun i => up s (224 + 5 * k) x (226 + 5 * i)) = arI cI 60 (fun i => s (226 + 5 * i)) from arI_congr (fun i hi => up_ne (by omega))]
  first | done | rfl
theorem Ls3 (hx : p.tables.exec = Jvm.exec) (hb : c.code = cc) (hK : va_K D vwCl (kt cI cV) s0) (hW : Wd D A (lotw cI a s) H0 H locs) {i x : Int} (hi : 0 ≤ i ∧ i < 60) (hdg : decode cc pc = .ok (.iastore, 1)) (k : ∀ (H1 : Heap) (locs1 : List Loc), Wd D A (lotw cI a (up s (224 + 5 * i.toNat) x)) H0 H1 locs1 → W p l e R s0 m args below meth c H1 locs1 cells slots Q (F0 m (pc + 1) ls (rest))) : W p l e R s0 m args below meth c H locs cells slots Q (F0 m pc ls (.int (iI x) :: .int (iI i) :: .ref (a 14) :: rest)) := by
  refine va_iast hx hb hK hW.1 hW.2.1 hW.2.2 4 0 (f := fun j => iI (cut 60 (fun i => s (224 + 5 * i)) j)) rfl rfl (iI_in (n := 60) (by omega) (by omega)) hdg (fun H1 locs1 hP hD hS => k H1 locs1 ?_)
  rw [iI_clamp ⟨by omega, by omega⟩, arI_upd (by omega)] at hP hD
  have hk : i.toNat < 60 := by omega
  have hee := (eLa3 (cI := cI) (a := a) (s := s) (x := x) hk).symm
  exact ⟨hee ▸ hP, hee ▸ hD, hS⟩
theorem La4 (hx : p.tables.exec = Jvm.exec) (hb : c.code = cc) (hK : va_K D vwCl (kt cI cV) s0) (hP : va_P D vwCl (lotw cI a s) H) {i : Int} (hi : 0 ≤ i ∧ i < 60) (hdg : decode cc pc = .ok (.iaload, 1)) (k : W p l e R s0 m args below meth c H locs cells slots Q (F0 m (pc + 1) ls (.int (iI (s (226 + 5 * i.toNat))) :: rest))) : W p l e R s0 m args below meth c H locs cells slots Q (F0 m pc ls (.int (iI i) :: .ref (a 15) :: rest)) := by
  refine va_iald hx hb hK hP 5 0 rfl rfl (iI_in (n := 60) (by omega) (by omega)) hdg ?_
  rw [iI_clamp ⟨by omega, by omega⟩, cut_at (by omega)]
  exact k
theorem eLa4 {k : Nat} {x : Int} (hk : k < 60) : lotw cI a (up s (226 + 5 * k) x) = lotc a (s 6) (s 7) (arI cI 60 (fun i => s (222 + 5 * i))) (arI cI 60 (fun i => s (223 + 5 * i))) (arI cI 60 (fun i => s (225 + 5 * i))) (arI cI 60 (fun i => s (224 + 5 * i))) (arI cI 60 (up (fun i => s (226 + 5 * i)) k x)) := by
  unfold lotw
  rw [show up s (226 + 5 * k) x 6 = s 6 from up_ne (by omega), show up s (226 + 5 * k) x 7 = s 7 from up_ne (by omega), show arI cI 60 (fun i => up s (226 + 5 * k) x (222 + 5 * i)) = arI cI 60 (fun i => s (222 + 5 * i)) from arI_congr (fun i hi => up_ne (by omega)), show arI cI 60 (fun i => up s (226 + 5 * k) x (223 + 5 * i)) = arI cI 60 (fun i => s (223 + 5 * i)) from arI_congr (fun i hi => up_ne (by omega)), show arI cI 60 (fun i => up s (226 + 5 * k) x (225 + 5 * i)) = arI cI 60 (fun i => s (225 + 5 * i)) from arI_congr (fun i hi => up_ne (by omega)), show arI cI 60 (fun i => up s (226 + 5 * k) x (224 + 5 * i)) = arI cI 60 (fun i => s (224 + 5 * i)) from arI_congr (fun i hi => up_ne (by omega)), show arI cI 60 (fun i => up s (226 + 5 * k) x (226 + 5 * i)) = arI cI 60 (up (fun i => s (226 + 5 * i)) k x) from arI_congr (fun i hi => by unfold up; by_cases h : i = k <;> first | (subst h; simp; done) | (rw [if_neg h, if_neg (by omega)]))]
  first | done | rfl
theorem Ls4 (hx : p.tables.exec = Jvm.exec) (hb : c.code = cc) (hK : va_K D vwCl (kt cI cV) s0) (hW : Wd D A (lotw cI a s) H0 H locs) {i x : Int} (hi : 0 ≤ i ∧ i < 60) (hdg : decode cc pc = .ok (.iastore, 1)) (k : ∀ (H1 : Heap) (locs1 : List Loc), Wd D A (lotw cI a (up s (226 + 5 * i.toNat) x)) H0 H1 locs1 → W p l e R s0 m args below meth c H1 locs1 cells slots Q (F0 m (pc + 1) ls (rest))) : W p l e R s0 m args below meth c H locs cells slots Q (F0 m pc ls (.int (iI x) :: .int (iI i) :: .ref (a 15) :: rest)) := by
  refine va_iast hx hb hK hW.1 hW.2.1 hW.2.2 5 0 (f := fun j => iI (cut 60 (fun i => s (226 + 5 * i)) j)) rfl rfl (iI_in (n := 60) (by omega) (by omega)) hdg (fun H1 locs1 hP hD hS => k H1 locs1 ?_)
  rw [iI_clamp ⟨by omega, by omega⟩, arI_upd (by omega)] at hP hD
  have hk : i.toNat < 60 := by omega
  have hee := (eLa4 (cI := cI) (a := a) (s := s) (x := x) hk).symm
  exact ⟨hee ▸ hP, hee ▸ hD, hS⟩
theorem Vg0 (hx : p.tables.exec = Jvm.exec) (hb : c.code = cc) (hts : ∀ w ∈ Ts, w.before args s0 = true) (hin : ∀ w ∈ u_ws RX4 TX4 13, w ∈ Ts) (hown : s0.vm.findClass RX4 = some m.cls) (hK : va_K D vwCl (kt cI cV) s0) (hP : va_P D vwCl (vilw cI a s nz nw) H) {idx : Nat} (hl : Cond.fieldLink RX4 idx "VillageLog$Village" "villagers" "I" ∈ Ts) (hdg : decode cc pc = .ok (.getfield idx, 3)) (k : W p l e R s0 m args below meth c H locs cells slots Q (F0 m (pc + 3) ls (.int (iI (s 0)) :: rest))) : W p l e R s0 m args below meth c H locs cells slots Q (F0 m pc ls (.ref (a 0) :: rest)) :=
  va_get (D := D) (ci := 4) (C := RX4) (T := TX4) (N := 13) hx hb hts hin hown hK hP 0 rfl rfl 0 (by decide) (hts _ hl) (fun _ h => h) rfl hdg k
theorem Vg1 (hx : p.tables.exec = Jvm.exec) (hb : c.code = cc) (hts : ∀ w ∈ Ts, w.before args s0 = true) (hin : ∀ w ∈ u_ws RX4 TX4 13, w ∈ Ts) (hown : s0.vm.findClass RX4 = some m.cls) (hK : va_K D vwCl (kt cI cV) s0) (hP : va_P D vwCl (vilw cI a s nz nw) H) {idx : Nat} (hl : Cond.fieldLink RX4 idx "VillageLog$Village" "present" "[I" ∈ Ts) (hdg : decode cc pc = .ok (.getfield idx, 3)) (k : W p l e R s0 m args below meth c H locs cells slots Q (F0 m (pc + 3) ls (.ref (a 1) :: rest))) : W p l e R s0 m args below meth c H locs cells slots Q (F0 m pc ls (.ref (a 0) :: rest)) :=
  va_get (D := D) (ci := 4) (C := RX4) (T := TX4) (N := 13) hx hb hts hin hown hK hP 0 rfl rfl 1 (by decide) (hts _ hl) (fun _ h => h) rfl hdg k
theorem Vg2 (hx : p.tables.exec = Jvm.exec) (hb : c.code = cc) (hts : ∀ w ∈ Ts, w.before args s0 = true) (hin : ∀ w ∈ u_ws RX4 TX4 13, w ∈ Ts) (hown : s0.vm.findClass RX4 = some m.cls) (hK : va_K D vwCl (kt cI cV) s0) (hP : va_P D vwCl (vilw cI a s nz nw) H) {idx : Nat} (hl : Cond.fieldLink RX4 idx "VillageLog$Village" "copied" "[I" ∈ Ts) (hdg : decode cc pc = .ok (.getfield idx, 3)) (k : W p l e R s0 m args below meth c H locs cells slots Q (F0 m (pc + 3) ls (.ref (a 2) :: rest))) : W p l e R s0 m args below meth c H locs cells slots Q (F0 m pc ls (.ref (a 0) :: rest)) :=
  va_get (D := D) (ci := 4) (C := RX4) (T := TX4) (N := 13) hx hb hts hin hown hK hP 0 rfl rfl 2 (by decide) (hts _ hl) (fun _ h => h) rfl hdg k
theorem Vg3 (hx : p.tables.exec = Jvm.exec) (hb : c.code = cc) (hts : ∀ w ∈ Ts, w.before args s0 = true) (hin : ∀ w ∈ u_ws RX4 TX4 13, w ∈ Ts) (hown : s0.vm.findClass RX4 = some m.cls) (hK : va_K D vwCl (kt cI cV) s0) (hP : va_P D vwCl (vilw cI a s nz nw) H) {idx : Nat} (hl : Cond.fieldLink RX4 idx "VillageLog$Village" "oldCouncil" "LVillageLog$Council;" ∈ Ts) (hdg : decode cc pc = .ok (.getfield idx, 3)) (k : W p l e R s0 m args below meth c H locs cells slots Q (F0 m (pc + 3) ls (.ref (a 6) :: rest))) : W p l e R s0 m args below meth c H locs cells slots Q (F0 m pc ls (.ref (a 0) :: rest)) :=
  va_get (D := D) (ci := 4) (C := RX4) (T := TX4) (N := 13) hx hb hts hin hown hK hP 0 rfl rfl 3 (by decide) (hts _ hl) (fun _ h => h) rfl hdg k
theorem Vg4 (hx : p.tables.exec = Jvm.exec) (hb : c.code = cc) (hts : ∀ w ∈ Ts, w.before args s0 = true) (hin : ∀ w ∈ u_ws RX4 TX4 13, w ∈ Ts) (hown : s0.vm.findClass RX4 = some m.cls) (hK : va_K D vwCl (kt cI cV) s0) (hP : va_P D vwCl (vilw cI a s nz nw) H) {idx : Nat} (hl : Cond.fieldLink RX4 idx "VillageLog$Village" "newCouncil" "LVillageLog$Council;" ∈ Ts) (hdg : decode cc pc = .ok (.getfield idx, 3)) (k : W p l e R s0 m args below meth c H locs cells slots Q (F0 m (pc + 3) ls (.ref (a 8) :: rest))) : W p l e R s0 m args below meth c H locs cells slots Q (F0 m pc ls (.ref (a 0) :: rest)) :=
  va_get (D := D) (ci := 4) (C := RX4) (T := TX4) (N := 13) hx hb hts hin hown hK hP 0 rfl rfl 4 (by decide) (hts _ hl) (fun _ h => h) rfl hdg k
theorem Vg5 (hx : p.tables.exec = Jvm.exec) (hb : c.code = cc) (hts : ∀ w ∈ Ts, w.before args s0 = true) (hin : ∀ w ∈ u_ws RX4 TX4 13, w ∈ Ts) (hown : s0.vm.findClass RX4 = some m.cls) (hK : va_K D vwCl (kt cI cV) s0) (hP : va_P D vwCl (vilw cI a s nz nw) H) {idx : Nat} (hl : Cond.fieldLink RX4 idx "VillageLog$Village" "term" "I" ∈ Ts) (hdg : decode cc pc = .ok (.getfield idx, 3)) (k : W p l e R s0 m args below meth c H locs cells slots Q (F0 m (pc + 3) ls (.int (iI (s 2)) :: rest))) : W p l e R s0 m args below meth c H locs cells slots Q (F0 m pc ls (.ref (a 0) :: rest)) :=
  va_get (D := D) (ci := 4) (C := RX4) (T := TX4) (N := 13) hx hb hts hin hown hK hP 0 rfl rfl 5 (by decide) (hts _ hl) (fun _ h => h) rfl hdg k
theorem Vg6 (hx : p.tables.exec = Jvm.exec) (hb : c.code = cc) (hts : ∀ w ∈ Ts, w.before args s0 = true) (hin : ∀ w ∈ u_ws RX4 TX4 13, w ∈ Ts) (hown : s0.vm.findClass RX4 = some m.cls) (hK : va_K D vwCl (kt cI cV) s0) (hP : va_P D vwCl (vilw cI a s nz nw) H) {idx : Nat} (hl : Cond.fieldLink RX4 idx "VillageLog$Village" "changeEntry" "I" ∈ Ts) (hdg : decode cc pc = .ok (.getfield idx, 3)) (k : W p l e R s0 m args below meth c H locs cells slots Q (F0 m (pc + 3) ls (.int (iI (s 5)) :: rest))) : W p l e R s0 m args below meth c H locs cells slots Q (F0 m pc ls (.ref (a 0) :: rest)) :=
  va_get (D := D) (ci := 4) (C := RX4) (T := TX4) (N := 13) hx hb hts hin hown hK hP 0 rfl rfl 6 (by decide) (hts _ hl) (fun _ h => h) rfl hdg k
theorem Vg7 (hx : p.tables.exec = Jvm.exec) (hb : c.code = cc) (hts : ∀ w ∈ Ts, w.before args s0 = true) (hin : ∀ w ∈ u_ws RX4 TX4 13, w ∈ Ts) (hown : s0.vm.findClass RX4 = some m.cls) (hK : va_K D vwCl (kt cI cV) s0) (hP : va_P D vwCl (vilw cI a s nz nw) H) {idx : Nat} (hl : Cond.fieldLink RX4 idx "VillageLog$Village" "lot" "LVillageLog$Lot;" ∈ Ts) (hdg : decode cc pc = .ok (.getfield idx, 3)) (k : W p l e R s0 m args below meth c H locs cells slots Q (F0 m (pc + 3) ls (.ref (a 10) :: rest))) : W p l e R s0 m args below meth c H locs cells slots Q (F0 m pc ls (.ref (a 0) :: rest)) :=
  va_get (D := D) (ci := 4) (C := RX4) (T := TX4) (N := 13) hx hb hts hin hown hK hP 0 rfl rfl 7 (by decide) (hts _ hl) (fun _ h => h) rfl hdg k
theorem Vg8 (hx : p.tables.exec = Jvm.exec) (hb : c.code = cc) (hts : ∀ w ∈ Ts, w.before args s0 = true) (hin : ∀ w ∈ u_ws RX4 TX4 13, w ∈ Ts) (hown : s0.vm.findClass RX4 = some m.cls) (hK : va_K D vwCl (kt cI cV) s0) (hP : va_P D vwCl (vilw cI a s nz nw) H) {idx : Nat} (hl : Cond.fieldLink RX4 idx "VillageLog$Village" "entries" "I" ∈ Ts) (hdg : decode cc pc = .ok (.getfield idx, 3)) (k : W p l e R s0 m args below meth c H locs cells slots Q (F0 m (pc + 3) ls (.int (iI (s 3)) :: rest))) : W p l e R s0 m args below meth c H locs cells slots Q (F0 m pc ls (.ref (a 0) :: rest)) :=
  va_get (D := D) (ci := 4) (C := RX4) (T := TX4) (N := 13) hx hb hts hin hown hK hP 0 rfl rfl 8 (by decide) (hts _ hl) (fun _ h => h) rfl hdg k
theorem Vg9 (hx : p.tables.exec = Jvm.exec) (hb : c.code = cc) (hts : ∀ w ∈ Ts, w.before args s0 = true) (hin : ∀ w ∈ u_ws RX4 TX4 13, w ∈ Ts) (hown : s0.vm.findClass RX4 = some m.cls) (hK : va_K D vwCl (kt cI cV) s0) (hP : va_P D vwCl (vilw cI a s nz nw) H) {idx : Nat} (hl : Cond.fieldLink RX4 idx "VillageLog$Village" "agreed" "I" ∈ Ts) (hdg : decode cc pc = .ok (.getfield idx, 3)) (k : W p l e R s0 m args below meth c H locs cells slots Q (F0 m (pc + 3) ls (.int (iI (s 4)) :: rest))) : W p l e R s0 m args below meth c H locs cells slots Q (F0 m pc ls (.ref (a 0) :: rest)) :=
  va_get (D := D) (ci := 4) (C := RX4) (T := TX4) (N := 13) hx hb hts hin hown hK hP 0 rfl rfl 9 (by decide) (hts _ hl) (fun _ h => h) rfl hdg k
theorem Vg10 (hx : p.tables.exec = Jvm.exec) (hb : c.code = cc) (hts : ∀ w ∈ Ts, w.before args s0 = true) (hin : ∀ w ∈ u_ws RX4 TX4 13, w ∈ Ts) (hown : s0.vm.findClass RX4 = some m.cls) (hK : va_K D vwCl (kt cI cV) s0) (hP : va_P D vwCl (vilw cI a s nz nw) H) {idx : Nat} (hl : Cond.fieldLink RX4 idx "VillageLog$Village" "numbers" "[I" ∈ Ts) (hdg : decode cc pc = .ok (.getfield idx, 3)) (k : W p l e R s0 m args below meth c H locs cells slots Q (F0 m (pc + 3) ls (.ref (a 3) :: rest))) : W p l e R s0 m args below meth c H locs cells slots Q (F0 m pc ls (.ref (a 0) :: rest)) :=
  va_get (D := D) (ci := 4) (C := RX4) (T := TX4) (N := 13) hx hb hts hin hown hK hP 0 rfl rfl 10 (by decide) (hts _ hl) (fun _ h => h) rfl hdg k
theorem Vg11 (hx : p.tables.exec = Jvm.exec) (hb : c.code = cc) (hts : ∀ w ∈ Ts, w.before args s0 = true) (hin : ∀ w ∈ u_ws RX4 TX4 13, w ∈ Ts) (hown : s0.vm.findClass RX4 = some m.cls) (hK : va_K D vwCl (kt cI cV) s0) (hP : va_P D vwCl (vilw cI a s nz nw) H) {idx : Nat} (hl : Cond.fieldLink RX4 idx "VillageLog$Village" "terms" "[I" ∈ Ts) (hdg : decode cc pc = .ok (.getfield idx, 3)) (k : W p l e R s0 m args below meth c H locs cells slots Q (F0 m (pc + 3) ls (.ref (a 4) :: rest))) : W p l e R s0 m args below meth c H locs cells slots Q (F0 m pc ls (.ref (a 0) :: rest)) :=
  va_get (D := D) (ci := 4) (C := RX4) (T := TX4) (N := 13) hx hb hts hin hown hK hP 0 rfl rfl 11 (by decide) (hts _ hl) (fun _ h => h) rfl hdg k
theorem Vg12 (hx : p.tables.exec = Jvm.exec) (hb : c.code = cc) (hts : ∀ w ∈ Ts, w.before args s0 = true) (hin : ∀ w ∈ u_ws RX4 TX4 13, w ∈ Ts) (hown : s0.vm.findClass RX4 = some m.cls) (hK : va_K D vwCl (kt cI cV) s0) (hP : va_P D vwCl (vilw cI a s nz nw) H) {idx : Nat} (hl : Cond.fieldLink RX4 idx "VillageLog$Village" "proposers" "[I" ∈ Ts) (hdg : decode cc pc = .ok (.getfield idx, 3)) (k : W p l e R s0 m args below meth c H locs cells slots Q (F0 m (pc + 3) ls (.ref (a 5) :: rest))) : W p l e R s0 m args below meth c H locs cells slots Q (F0 m pc ls (.ref (a 0) :: rest)) :=
  va_get (D := D) (ci := 4) (C := RX4) (T := TX4) (N := 13) hx hb hts hin hown hK hP 0 rfl rfl 12 (by decide) (hts _ hl) (fun _ h => h) rfl hdg k
theorem eV0_l {x : Int} : lotw cI a (up s 0 x) = lotw cI a s := by
  unfold lotw
  rw [show up s 0 x 6 = s 6 from up_ne (by omega), show up s 0 x 7 = s 7 from up_ne (by omega), show arI cI 60 (fun i => up s 0 x (222 + 5 * i)) = arI cI 60 (fun i => s (222 + 5 * i)) from arI_congr (fun i hi => up_ne (by omega)), show arI cI 60 (fun i => up s 0 x (223 + 5 * i)) = arI cI 60 (fun i => s (223 + 5 * i)) from arI_congr (fun i hi => up_ne (by omega)), show arI cI 60 (fun i => up s 0 x (225 + 5 * i)) = arI cI 60 (fun i => s (225 + 5 * i)) from arI_congr (fun i hi => up_ne (by omega)), show arI cI 60 (fun i => up s 0 x (224 + 5 * i)) = arI cI 60 (fun i => s (224 + 5 * i)) from arI_congr (fun i hi => up_ne (by omega)), show arI cI 60 (fun i => up s 0 x (226 + 5 * i)) = arI cI 60 (fun i => s (226 + 5 * i)) from arI_congr (fun i hi => up_ne (by omega))]
theorem eV0 {x : Int} : vilw cI a (up s 0 x) nz nw = vilc a x (s 2) (s 5) (s 3) (s 4) (arI cI 12 (fun i => s (8 + i))) (arI cI 12 (fun i => s (20 + i))) (arI cI 60 (fun i => s (42 + 3 * i))) (arI cI 60 (fun i => s (43 + 3 * i))) (arI cI 60 (fun i => s (44 + 3 * i))) ++ (couw cI (a 6) (a 7) (s 1) (fun i => s (32 + i)) ++ (couw cI (a 8) (a 9) nz nw ++ lotw cI a s)) := by
  unfold vilw vilo
  rw [show up s 0 x 0 = x from up_at (by omega), show up s 0 x 2 = s 2 from up_ne (by omega), show up s 0 x 5 = s 5 from up_ne (by omega), show up s 0 x 3 = s 3 from up_ne (by omega), show up s 0 x 4 = s 4 from up_ne (by omega), show arI cI 12 (fun i => up s 0 x (8 + i)) = arI cI 12 (fun i => s (8 + i)) from arI_congr (fun i hi => up_ne (by omega)), show arI cI 12 (fun i => up s 0 x (20 + i)) = arI cI 12 (fun i => s (20 + i)) from arI_congr (fun i hi => up_ne (by omega)), show arI cI 60 (fun i => up s 0 x (42 + 3 * i)) = arI cI 60 (fun i => s (42 + 3 * i)) from arI_congr (fun i hi => up_ne (by omega)), show arI cI 60 (fun i => up s 0 x (43 + 3 * i)) = arI cI 60 (fun i => s (43 + 3 * i)) from arI_congr (fun i hi => up_ne (by omega)), show arI cI 60 (fun i => up s 0 x (44 + 3 * i)) = arI cI 60 (fun i => s (44 + 3 * i)) from arI_congr (fun i hi => up_ne (by omega)), show up s 0 x 1 = s 1 from up_ne (by omega), show couw cI (a 6) (a 7) (s 1) (fun i => up s 0 x (32 + i)) = couw cI (a 6) (a 7) (s 1) (fun i => s (32 + i)) from (by unfold couw; rw [show arI cI 5 (fun i => up s 0 x (32 + i)) = arI cI 5 (fun i => s (32 + i)) from arI_congr (fun i hi => up_ne (by omega))]), eV0_l]
theorem Vp0 (hx : p.tables.exec = Jvm.exec) (hb : c.code = cc) (hts : ∀ w ∈ Ts, w.before args s0 = true) (hin : ∀ w ∈ u_ws RX4 TX4 13, w ∈ Ts) (hown : s0.vm.findClass RX4 = some m.cls) (hK : va_K D vwCl (kt cI cV) s0) (hW : Wd D A (vilw cI a s nz nw) H0 H locs) {idx : Nat} (hl : Cond.fieldLink RX4 idx "VillageLog$Village" "villagers" "I" ∈ Ts) (hdg : decode cc pc = .ok (.putfield idx, 3)) {x : Int} (k : ∀ (H1 : Heap) (locs1 : List Loc), Wd D A (vilw cI a (up s 0 x) nz nw) H0 H1 locs1 → W p l e R s0 m args below meth c H1 locs1 cells slots Q (F0 m (pc + 3) ls (rest))) : W p l e R s0 m args below meth c H locs cells slots Q (F0 m pc ls (.int (iI x) :: .ref (a 0) :: rest)) :=
  va_put (D := D) (ci := 4) (v := .int (iI x)) (ty := .int) (C := RX4) (T := TX4) (N := 13) hx hb hts hin tyX4 tyX4_ok nmX4 hown hK hW.1 hW.2.1 hW.2.2 0 rfl rfl 0 (by decide) (hts _ hl) (fun _ h => h) rfl (by decide +kernel) rfl rfl (Nat.le_of_ble_eq_true rfl) hdg (fun H1 locs1 hP hD hS => k H1 locs1 ⟨(eV0.symm : _ = vilw cI a (up s 0 x) nz nw) ▸ hP, (eV0.symm : _ = vilw cI a (up s 0 x) nz nw) ▸ hD, hS⟩)
theorem eV5_l {x : Int} : lotw cI a (up s 2 x) = lotw cI a s := by
  unfold lotw
  rw [show up s 2 x 6 = s 6 from up_ne (by omega), show up s 2 x 7 = s 7 from up_ne (by omega), show arI cI 60 (fun i => up s 2 x (222 + 5 * i)) = arI cI 60 (fun i => s (222 + 5 * i)) from arI_congr (fun i hi => up_ne (by omega)), show arI cI 60 (fun i => up s 2 x (223 + 5 * i)) = arI cI 60 (fun i => s (223 + 5 * i)) from arI_congr (fun i hi => up_ne (by omega)), show arI cI 60 (fun i => up s 2 x (225 + 5 * i)) = arI cI 60 (fun i => s (225 + 5 * i)) from arI_congr (fun i hi => up_ne (by omega)), show arI cI 60 (fun i => up s 2 x (224 + 5 * i)) = arI cI 60 (fun i => s (224 + 5 * i)) from arI_congr (fun i hi => up_ne (by omega)), show arI cI 60 (fun i => up s 2 x (226 + 5 * i)) = arI cI 60 (fun i => s (226 + 5 * i)) from arI_congr (fun i hi => up_ne (by omega))]
theorem eV5 {x : Int} : vilw cI a (up s 2 x) nz nw = vilc a (s 0) x (s 5) (s 3) (s 4) (arI cI 12 (fun i => s (8 + i))) (arI cI 12 (fun i => s (20 + i))) (arI cI 60 (fun i => s (42 + 3 * i))) (arI cI 60 (fun i => s (43 + 3 * i))) (arI cI 60 (fun i => s (44 + 3 * i))) ++ (couw cI (a 6) (a 7) (s 1) (fun i => s (32 + i)) ++ (couw cI (a 8) (a 9) nz nw ++ lotw cI a s)) := by
  unfold vilw vilo
  rw [show up s 2 x 0 = s 0 from up_ne (by omega), show up s 2 x 2 = x from up_at (by omega), show up s 2 x 5 = s 5 from up_ne (by omega), show up s 2 x 3 = s 3 from up_ne (by omega), show up s 2 x 4 = s 4 from up_ne (by omega), show arI cI 12 (fun i => up s 2 x (8 + i)) = arI cI 12 (fun i => s (8 + i)) from arI_congr (fun i hi => up_ne (by omega)), show arI cI 12 (fun i => up s 2 x (20 + i)) = arI cI 12 (fun i => s (20 + i)) from arI_congr (fun i hi => up_ne (by omega)), show arI cI 60 (fun i => up s 2 x (42 + 3 * i)) = arI cI 60 (fun i => s (42 + 3 * i)) from arI_congr (fun i hi => up_ne (by omega)), show arI cI 60 (fun i => up s 2 x (43 + 3 * i)) = arI cI 60 (fun i => s (43 + 3 * i)) from arI_congr (fun i hi => up_ne (by omega)), show arI cI 60 (fun i => up s 2 x (44 + 3 * i)) = arI cI 60 (fun i => s (44 + 3 * i)) from arI_congr (fun i hi => up_ne (by omega)), show up s 2 x 1 = s 1 from up_ne (by omega), show couw cI (a 6) (a 7) (s 1) (fun i => up s 2 x (32 + i)) = couw cI (a 6) (a 7) (s 1) (fun i => s (32 + i)) from (by unfold couw; rw [show arI cI 5 (fun i => up s 2 x (32 + i)) = arI cI 5 (fun i => s (32 + i)) from arI_congr (fun i hi => up_ne (by omega))]), eV5_l]
theorem Vp5 (hx : p.tables.exec = Jvm.exec) (hb : c.code = cc) (hts : ∀ w ∈ Ts, w.before args s0 = true) (hin : ∀ w ∈ u_ws RX4 TX4 13, w ∈ Ts) (hown : s0.vm.findClass RX4 = some m.cls) (hK : va_K D vwCl (kt cI cV) s0) (hW : Wd D A (vilw cI a s nz nw) H0 H locs) {idx : Nat} (hl : Cond.fieldLink RX4 idx "VillageLog$Village" "term" "I" ∈ Ts) (hdg : decode cc pc = .ok (.putfield idx, 3)) {x : Int} (k : ∀ (H1 : Heap) (locs1 : List Loc), Wd D A (vilw cI a (up s 2 x) nz nw) H0 H1 locs1 → W p l e R s0 m args below meth c H1 locs1 cells slots Q (F0 m (pc + 3) ls (rest))) : W p l e R s0 m args below meth c H locs cells slots Q (F0 m pc ls (.int (iI x) :: .ref (a 0) :: rest)) :=
  va_put (D := D) (ci := 4) (v := .int (iI x)) (ty := .int) (C := RX4) (T := TX4) (N := 13) hx hb hts hin tyX4 tyX4_ok nmX4 hown hK hW.1 hW.2.1 hW.2.2 0 rfl rfl 5 (by decide) (hts _ hl) (fun _ h => h) rfl (by decide +kernel) rfl rfl (Nat.le_of_ble_eq_true rfl) hdg (fun H1 locs1 hP hD hS => k H1 locs1 ⟨(eV5.symm : _ = vilw cI a (up s 2 x) nz nw) ▸ hP, (eV5.symm : _ = vilw cI a (up s 2 x) nz nw) ▸ hD, hS⟩)
theorem eV6_l {x : Int} : lotw cI a (up s 5 x) = lotw cI a s := by
  unfold lotw
  rw [show up s 5 x 6 = s 6 from up_ne (by omega), show up s 5 x 7 = s 7 from up_ne (by omega), show arI cI 60 (fun i => up s 5 x (222 + 5 * i)) = arI cI 60 (fun i => s (222 + 5 * i)) from arI_congr (fun i hi => up_ne (by omega)), show arI cI 60 (fun i => up s 5 x (223 + 5 * i)) = arI cI 60 (fun i => s (223 + 5 * i)) from arI_congr (fun i hi => up_ne (by omega)), show arI cI 60 (fun i => up s 5 x (225 + 5 * i)) = arI cI 60 (fun i => s (225 + 5 * i)) from arI_congr (fun i hi => up_ne (by omega)), show arI cI 60 (fun i => up s 5 x (224 + 5 * i)) = arI cI 60 (fun i => s (224 + 5 * i)) from arI_congr (fun i hi => up_ne (by omega)), show arI cI 60 (fun i => up s 5 x (226 + 5 * i)) = arI cI 60 (fun i => s (226 + 5 * i)) from arI_congr (fun i hi => up_ne (by omega))]
theorem eV6 {x : Int} : vilw cI a (up s 5 x) nz nw = vilc a (s 0) (s 2) x (s 3) (s 4) (arI cI 12 (fun i => s (8 + i))) (arI cI 12 (fun i => s (20 + i))) (arI cI 60 (fun i => s (42 + 3 * i))) (arI cI 60 (fun i => s (43 + 3 * i))) (arI cI 60 (fun i => s (44 + 3 * i))) ++ (couw cI (a 6) (a 7) (s 1) (fun i => s (32 + i)) ++ (couw cI (a 8) (a 9) nz nw ++ lotw cI a s)) := by
  unfold vilw vilo
  rw [show up s 5 x 0 = s 0 from up_ne (by omega), show up s 5 x 2 = s 2 from up_ne (by omega), show up s 5 x 5 = x from up_at (by omega), show up s 5 x 3 = s 3 from up_ne (by omega), show up s 5 x 4 = s 4 from up_ne (by omega), show arI cI 12 (fun i => up s 5 x (8 + i)) = arI cI 12 (fun i => s (8 + i)) from arI_congr (fun i hi => up_ne (by omega)), show arI cI 12 (fun i => up s 5 x (20 + i)) = arI cI 12 (fun i => s (20 + i)) from arI_congr (fun i hi => up_ne (by omega)), show arI cI 60 (fun i => up s 5 x (42 + 3 * i)) = arI cI 60 (fun i => s (42 + 3 * i)) from arI_congr (fun i hi => up_ne (by omega)), show arI cI 60 (fun i => up s 5 x (43 + 3 * i)) = arI cI 60 (fun i => s (43 + 3 * i)) from arI_congr (fun i hi => up_ne (by omega)), show arI cI 60 (fun i => up s 5 x (44 + 3 * i)) = arI cI 60 (fun i => s (44 + 3 * i)) from arI_congr (fun i hi => up_ne (by omega)), show up s 5 x 1 = s 1 from up_ne (by omega), show couw cI (a 6) (a 7) (s 1) (fun i => up s 5 x (32 + i)) = couw cI (a 6) (a 7) (s 1) (fun i => s (32 + i)) from (by unfold couw; rw [show arI cI 5 (fun i => up s 5 x (32 + i)) = arI cI 5 (fun i => s (32 + i)) from arI_congr (fun i hi => up_ne (by omega))]), eV6_l]
theorem Vp6 (hx : p.tables.exec = Jvm.exec) (hb : c.code = cc) (hts : ∀ w ∈ Ts, w.before args s0 = true) (hin : ∀ w ∈ u_ws RX4 TX4 13, w ∈ Ts) (hown : s0.vm.findClass RX4 = some m.cls) (hK : va_K D vwCl (kt cI cV) s0) (hW : Wd D A (vilw cI a s nz nw) H0 H locs) {idx : Nat} (hl : Cond.fieldLink RX4 idx "VillageLog$Village" "changeEntry" "I" ∈ Ts) (hdg : decode cc pc = .ok (.putfield idx, 3)) {x : Int} (k : ∀ (H1 : Heap) (locs1 : List Loc), Wd D A (vilw cI a (up s 5 x) nz nw) H0 H1 locs1 → W p l e R s0 m args below meth c H1 locs1 cells slots Q (F0 m (pc + 3) ls (rest))) : W p l e R s0 m args below meth c H locs cells slots Q (F0 m pc ls (.int (iI x) :: .ref (a 0) :: rest)) :=
  va_put (D := D) (ci := 4) (v := .int (iI x)) (ty := .int) (C := RX4) (T := TX4) (N := 13) hx hb hts hin tyX4 tyX4_ok nmX4 hown hK hW.1 hW.2.1 hW.2.2 0 rfl rfl 6 (by decide) (hts _ hl) (fun _ h => h) rfl (by decide +kernel) rfl rfl (Nat.le_of_ble_eq_true rfl) hdg (fun H1 locs1 hP hD hS => k H1 locs1 ⟨(eV6.symm : _ = vilw cI a (up s 5 x) nz nw) ▸ hP, (eV6.symm : _ = vilw cI a (up s 5 x) nz nw) ▸ hD, hS⟩)
theorem eV8_l {x : Int} : lotw cI a (up s 3 x) = lotw cI a s := by
  unfold lotw
  rw [show up s 3 x 6 = s 6 from up_ne (by omega), show up s 3 x 7 = s 7 from up_ne (by omega), show arI cI 60 (fun i => up s 3 x (222 + 5 * i)) = arI cI 60 (fun i => s (222 + 5 * i)) from arI_congr (fun i hi => up_ne (by omega)), show arI cI 60 (fun i => up s 3 x (223 + 5 * i)) = arI cI 60 (fun i => s (223 + 5 * i)) from arI_congr (fun i hi => up_ne (by omega)), show arI cI 60 (fun i => up s 3 x (225 + 5 * i)) = arI cI 60 (fun i => s (225 + 5 * i)) from arI_congr (fun i hi => up_ne (by omega)), show arI cI 60 (fun i => up s 3 x (224 + 5 * i)) = arI cI 60 (fun i => s (224 + 5 * i)) from arI_congr (fun i hi => up_ne (by omega)), show arI cI 60 (fun i => up s 3 x (226 + 5 * i)) = arI cI 60 (fun i => s (226 + 5 * i)) from arI_congr (fun i hi => up_ne (by omega))]
theorem eV8 {x : Int} : vilw cI a (up s 3 x) nz nw = vilc a (s 0) (s 2) (s 5) x (s 4) (arI cI 12 (fun i => s (8 + i))) (arI cI 12 (fun i => s (20 + i))) (arI cI 60 (fun i => s (42 + 3 * i))) (arI cI 60 (fun i => s (43 + 3 * i))) (arI cI 60 (fun i => s (44 + 3 * i))) ++ (couw cI (a 6) (a 7) (s 1) (fun i => s (32 + i)) ++ (couw cI (a 8) (a 9) nz nw ++ lotw cI a s)) := by
  unfold vilw vilo
  rw [show up s 3 x 0 = s 0 from up_ne (by omega), show up s 3 x 2 = s 2 from up_ne (by omega), show up s 3 x 5 = s 5 from up_ne (by omega), show up s 3 x 3 = x from up_at (by omega), show up s 3 x 4 = s 4 from up_ne (by omega), show arI cI 12 (fun i => up s 3 x (8 + i)) = arI cI 12 (fun i => s (8 + i)) from arI_congr (fun i hi => up_ne (by omega)), show arI cI 12 (fun i => up s 3 x (20 + i)) = arI cI 12 (fun i => s (20 + i)) from arI_congr (fun i hi => up_ne (by omega)), show arI cI 60 (fun i => up s 3 x (42 + 3 * i)) = arI cI 60 (fun i => s (42 + 3 * i)) from arI_congr (fun i hi => up_ne (by omega)), show arI cI 60 (fun i => up s 3 x (43 + 3 * i)) = arI cI 60 (fun i => s (43 + 3 * i)) from arI_congr (fun i hi => up_ne (by omega)), show arI cI 60 (fun i => up s 3 x (44 + 3 * i)) = arI cI 60 (fun i => s (44 + 3 * i)) from arI_congr (fun i hi => up_ne (by omega)), show up s 3 x 1 = s 1 from up_ne (by omega), show couw cI (a 6) (a 7) (s 1) (fun i => up s 3 x (32 + i)) = couw cI (a 6) (a 7) (s 1) (fun i => s (32 + i)) from (by unfold couw; rw [show arI cI 5 (fun i => up s 3 x (32 + i)) = arI cI 5 (fun i => s (32 + i)) from arI_congr (fun i hi => up_ne (by omega))]), eV8_l]
theorem Vp8 (hx : p.tables.exec = Jvm.exec) (hb : c.code = cc) (hts : ∀ w ∈ Ts, w.before args s0 = true) (hin : ∀ w ∈ u_ws RX4 TX4 13, w ∈ Ts) (hown : s0.vm.findClass RX4 = some m.cls) (hK : va_K D vwCl (kt cI cV) s0) (hW : Wd D A (vilw cI a s nz nw) H0 H locs) {idx : Nat} (hl : Cond.fieldLink RX4 idx "VillageLog$Village" "entries" "I" ∈ Ts) (hdg : decode cc pc = .ok (.putfield idx, 3)) {x : Int} (k : ∀ (H1 : Heap) (locs1 : List Loc), Wd D A (vilw cI a (up s 3 x) nz nw) H0 H1 locs1 → W p l e R s0 m args below meth c H1 locs1 cells slots Q (F0 m (pc + 3) ls (rest))) : W p l e R s0 m args below meth c H locs cells slots Q (F0 m pc ls (.int (iI x) :: .ref (a 0) :: rest)) :=
  va_put (D := D) (ci := 4) (v := .int (iI x)) (ty := .int) (C := RX4) (T := TX4) (N := 13) hx hb hts hin tyX4 tyX4_ok nmX4 hown hK hW.1 hW.2.1 hW.2.2 0 rfl rfl 8 (by decide) (hts _ hl) (fun _ h => h) rfl (by decide +kernel) rfl rfl (Nat.le_of_ble_eq_true rfl) hdg (fun H1 locs1 hP hD hS => k H1 locs1 ⟨(eV8.symm : _ = vilw cI a (up s 3 x) nz nw) ▸ hP, (eV8.symm : _ = vilw cI a (up s 3 x) nz nw) ▸ hD, hS⟩)
theorem eV9_l {x : Int} : lotw cI a (up s 4 x) = lotw cI a s := by
  unfold lotw
  rw [show up s 4 x 6 = s 6 from up_ne (by omega), show up s 4 x 7 = s 7 from up_ne (by omega), show arI cI 60 (fun i => up s 4 x (222 + 5 * i)) = arI cI 60 (fun i => s (222 + 5 * i)) from arI_congr (fun i hi => up_ne (by omega)), show arI cI 60 (fun i => up s 4 x (223 + 5 * i)) = arI cI 60 (fun i => s (223 + 5 * i)) from arI_congr (fun i hi => up_ne (by omega)), show arI cI 60 (fun i => up s 4 x (225 + 5 * i)) = arI cI 60 (fun i => s (225 + 5 * i)) from arI_congr (fun i hi => up_ne (by omega)), show arI cI 60 (fun i => up s 4 x (224 + 5 * i)) = arI cI 60 (fun i => s (224 + 5 * i)) from arI_congr (fun i hi => up_ne (by omega)), show arI cI 60 (fun i => up s 4 x (226 + 5 * i)) = arI cI 60 (fun i => s (226 + 5 * i)) from arI_congr (fun i hi => up_ne (by omega))]
theorem eV9 {x : Int} : vilw cI a (up s 4 x) nz nw = vilc a (s 0) (s 2) (s 5) (s 3) x (arI cI 12 (fun i => s (8 + i))) (arI cI 12 (fun i => s (20 + i))) (arI cI 60 (fun i => s (42 + 3 * i))) (arI cI 60 (fun i => s (43 + 3 * i))) (arI cI 60 (fun i => s (44 + 3 * i))) ++ (couw cI (a 6) (a 7) (s 1) (fun i => s (32 + i)) ++ (couw cI (a 8) (a 9) nz nw ++ lotw cI a s)) := by
  unfold vilw vilo
  rw [show up s 4 x 0 = s 0 from up_ne (by omega), show up s 4 x 2 = s 2 from up_ne (by omega), show up s 4 x 5 = s 5 from up_ne (by omega), show up s 4 x 3 = s 3 from up_ne (by omega), show up s 4 x 4 = x from up_at (by omega), show arI cI 12 (fun i => up s 4 x (8 + i)) = arI cI 12 (fun i => s (8 + i)) from arI_congr (fun i hi => up_ne (by omega)), show arI cI 12 (fun i => up s 4 x (20 + i)) = arI cI 12 (fun i => s (20 + i)) from arI_congr (fun i hi => up_ne (by omega)), show arI cI 60 (fun i => up s 4 x (42 + 3 * i)) = arI cI 60 (fun i => s (42 + 3 * i)) from arI_congr (fun i hi => up_ne (by omega)), show arI cI 60 (fun i => up s 4 x (43 + 3 * i)) = arI cI 60 (fun i => s (43 + 3 * i)) from arI_congr (fun i hi => up_ne (by omega)), show arI cI 60 (fun i => up s 4 x (44 + 3 * i)) = arI cI 60 (fun i => s (44 + 3 * i)) from arI_congr (fun i hi => up_ne (by omega)), show up s 4 x 1 = s 1 from up_ne (by omega), show couw cI (a 6) (a 7) (s 1) (fun i => up s 4 x (32 + i)) = couw cI (a 6) (a 7) (s 1) (fun i => s (32 + i)) from (by unfold couw; rw [show arI cI 5 (fun i => up s 4 x (32 + i)) = arI cI 5 (fun i => s (32 + i)) from arI_congr (fun i hi => up_ne (by omega))]), eV9_l]
theorem Vp9 (hx : p.tables.exec = Jvm.exec) (hb : c.code = cc) (hts : ∀ w ∈ Ts, w.before args s0 = true) (hin : ∀ w ∈ u_ws RX4 TX4 13, w ∈ Ts) (hown : s0.vm.findClass RX4 = some m.cls) (hK : va_K D vwCl (kt cI cV) s0) (hW : Wd D A (vilw cI a s nz nw) H0 H locs) {idx : Nat} (hl : Cond.fieldLink RX4 idx "VillageLog$Village" "agreed" "I" ∈ Ts) (hdg : decode cc pc = .ok (.putfield idx, 3)) {x : Int} (k : ∀ (H1 : Heap) (locs1 : List Loc), Wd D A (vilw cI a (up s 4 x) nz nw) H0 H1 locs1 → W p l e R s0 m args below meth c H1 locs1 cells slots Q (F0 m (pc + 3) ls (rest))) : W p l e R s0 m args below meth c H locs cells slots Q (F0 m pc ls (.int (iI x) :: .ref (a 0) :: rest)) :=
  va_put (D := D) (ci := 4) (v := .int (iI x)) (ty := .int) (C := RX4) (T := TX4) (N := 13) hx hb hts hin tyX4 tyX4_ok nmX4 hown hK hW.1 hW.2.1 hW.2.2 0 rfl rfl 9 (by decide) (hts _ hl) (fun _ h => h) rfl (by decide +kernel) rfl rfl (Nat.le_of_ble_eq_true rfl) hdg (fun H1 locs1 hP hD hS => k H1 locs1 ⟨(eV9.symm : _ = vilw cI a (up s 4 x) nz nw) ▸ hP, (eV9.symm : _ = vilw cI a (up s 4 x) nz nw) ▸ hD, hS⟩)
theorem Va0 (hx : p.tables.exec = Jvm.exec) (hb : c.code = cc) (hK : va_K D vwCl (kt cI cV) s0) (hP : va_P D vwCl (vilw cI a s nz nw) H) {i : Int} (hi : 0 ≤ i ∧ i < 12) (hdg : decode cc pc = .ok (.iaload, 1)) (k : W p l e R s0 m args below meth c H locs cells slots Q (F0 m (pc + 1) ls (.int (iI (s (8 + i.toNat))) :: rest))) : W p l e R s0 m args below meth c H locs cells slots Q (F0 m pc ls (.int (iI i) :: .ref (a 1) :: rest)) := by
  refine va_iald hx hb hK hP 1 0 rfl rfl (iI_in (n := 12) (by omega) (by omega)) hdg ?_
  rw [iI_clamp ⟨by omega, by omega⟩, cut_at (by omega)]
  exact k
theorem eVa0_l {k : Nat} {x : Int} (hk : k < 12) : lotw cI a (up s (8 + k) x) = lotw cI a s := by
  unfold lotw
  rw [show up s (8 + k) x 6 = s 6 from up_ne (by omega), show up s (8 + k) x 7 = s 7 from up_ne (by omega), show arI cI 60 (fun i => up s (8 + k) x (222 + 5 * i)) = arI cI 60 (fun i => s (222 + 5 * i)) from arI_congr (fun i hi => up_ne (by omega)), show arI cI 60 (fun i => up s (8 + k) x (223 + 5 * i)) = arI cI 60 (fun i => s (223 + 5 * i)) from arI_congr (fun i hi => up_ne (by omega)), show arI cI 60 (fun i => up s (8 + k) x (225 + 5 * i)) = arI cI 60 (fun i => s (225 + 5 * i)) from arI_congr (fun i hi => up_ne (by omega)), show arI cI 60 (fun i => up s (8 + k) x (224 + 5 * i)) = arI cI 60 (fun i => s (224 + 5 * i)) from arI_congr (fun i hi => up_ne (by omega)), show arI cI 60 (fun i => up s (8 + k) x (226 + 5 * i)) = arI cI 60 (fun i => s (226 + 5 * i)) from arI_congr (fun i hi => up_ne (by omega))]
theorem eVa0 {k : Nat} {x : Int} (hk : k < 12) : vilw cI a (up s (8 + k) x) nz nw = vilc a (s 0) (s 2) (s 5) (s 3) (s 4) (arI cI 12 (up (fun i => s (8 + i)) k x)) (arI cI 12 (fun i => s (20 + i))) (arI cI 60 (fun i => s (42 + 3 * i))) (arI cI 60 (fun i => s (43 + 3 * i))) (arI cI 60 (fun i => s (44 + 3 * i))) ++ (couw cI (a 6) (a 7) (s 1) (fun i => s (32 + i)) ++ (couw cI (a 8) (a 9) nz nw ++ lotw cI a s)) := by
  unfold vilw vilo
  rw [show up s (8 + k) x 0 = s 0 from up_ne (by omega), show up s (8 + k) x 2 = s 2 from up_ne (by omega), show up s (8 + k) x 5 = s 5 from up_ne (by omega), show up s (8 + k) x 3 = s 3 from up_ne (by omega), show up s (8 + k) x 4 = s 4 from up_ne (by omega), show arI cI 12 (fun i => up s (8 + k) x (8 + i)) = arI cI 12 (up (fun i => s (8 + i)) k x) from arI_congr (fun i hi => by unfold up; by_cases h : i = k <;> first | (subst h; simp; done) | (rw [if_neg h, if_neg (by omega)])), show arI cI 12 (fun i => up s (8 + k) x (20 + i)) = arI cI 12 (fun i => s (20 + i)) from arI_congr (fun i hi => up_ne (by omega)), show arI cI 60 (fun i => up s (8 + k) x (42 + 3 * i)) = arI cI 60 (fun i => s (42 + 3 * i)) from arI_congr (fun i hi => up_ne (by omega)), show arI cI 60 (fun i => up s (8 + k) x (43 + 3 * i)) = arI cI 60 (fun i => s (43 + 3 * i)) from arI_congr (fun i hi => up_ne (by omega)), show arI cI 60 (fun i => up s (8 + k) x (44 + 3 * i)) = arI cI 60 (fun i => s (44 + 3 * i)) from arI_congr (fun i hi => up_ne (by omega)), show up s (8 + k) x 1 = s 1 from up_ne (by omega), show couw cI (a 6) (a 7) (s 1) (fun i => up s (8 + k) x (32 + i)) = couw cI (a 6) (a 7) (s 1) (fun i => s (32 + i)) from (by unfold couw; rw [show arI cI 5 (fun i => up s (8 + k) x (32 + i)) = arI cI 5 (fun i => s (32 + i)) from arI_congr (fun i hi => up_ne (by omega))]), eVa0_l hk]
theorem Vs0 (hx : p.tables.exec = Jvm.exec) (hb : c.code = cc) (hK : va_K D vwCl (kt cI cV) s0) (hW : Wd D A (vilw cI a s nz nw) H0 H locs) {i x : Int} (hi : 0 ≤ i ∧ i < 12) (hdg : decode cc pc = .ok (.iastore, 1)) (k : ∀ (H1 : Heap) (locs1 : List Loc), Wd D A (vilw cI a (up s (8 + i.toNat) x) nz nw) H0 H1 locs1 → W p l e R s0 m args below meth c H1 locs1 cells slots Q (F0 m (pc + 1) ls (rest))) : W p l e R s0 m args below meth c H locs cells slots Q (F0 m pc ls (.int (iI x) :: .int (iI i) :: .ref (a 1) :: rest)) := by
  refine va_iast hx hb hK hW.1 hW.2.1 hW.2.2 1 0 (f := fun j => iI (cut 12 (fun i => s (8 + i)) j)) rfl rfl (iI_in (n := 12) (by omega) (by omega)) hdg (fun H1 locs1 hP hD hS => k H1 locs1 ?_)
  rw [iI_clamp ⟨by omega, by omega⟩, arI_upd (by omega)] at hP hD
  have hk : i.toNat < 12 := by omega
  have hee := (eVa0 (cI := cI) (a := a) (s := s) (nz := nz) (nw := nw) (x := x) hk).symm
  exact ⟨hee ▸ hP, hee ▸ hD, hS⟩
theorem Va1 (hx : p.tables.exec = Jvm.exec) (hb : c.code = cc) (hK : va_K D vwCl (kt cI cV) s0) (hP : va_P D vwCl (vilw cI a s nz nw) H) {i : Int} (hi : 0 ≤ i ∧ i < 12) (hdg : decode cc pc = .ok (.iaload, 1)) (k : W p l e R s0 m args below meth c H locs cells slots Q (F0 m (pc + 1) ls (.int (iI (s (20 + i.toNat))) :: rest))) : W p l e R s0 m args below meth c H locs cells slots Q (F0 m pc ls (.int (iI i) :: .ref (a 2) :: rest)) := by
  refine va_iald hx hb hK hP 2 0 rfl rfl (iI_in (n := 12) (by omega) (by omega)) hdg ?_
  rw [iI_clamp ⟨by omega, by omega⟩, cut_at (by omega)]
  exact k
theorem eVa1_l {k : Nat} {x : Int} (hk : k < 12) : lotw cI a (up s (20 + k) x) = lotw cI a s := by
  unfold lotw
  rw [show up s (20 + k) x 6 = s 6 from up_ne (by omega), show up s (20 + k) x 7 = s 7 from up_ne (by omega), show arI cI 60 (fun i => up s (20 + k) x (222 + 5 * i)) = arI cI 60 (fun i => s (222 + 5 * i)) from arI_congr (fun i hi => up_ne (by omega)), show arI cI 60 (fun i => up s (20 + k) x (223 + 5 * i)) = arI cI 60 (fun i => s (223 + 5 * i)) from arI_congr (fun i hi => up_ne (by omega)), show arI cI 60 (fun i => up s (20 + k) x (225 + 5 * i)) = arI cI 60 (fun i => s (225 + 5 * i)) from arI_congr (fun i hi => up_ne (by omega)), show arI cI 60 (fun i => up s (20 + k) x (224 + 5 * i)) = arI cI 60 (fun i => s (224 + 5 * i)) from arI_congr (fun i hi => up_ne (by omega)), show arI cI 60 (fun i => up s (20 + k) x (226 + 5 * i)) = arI cI 60 (fun i => s (226 + 5 * i)) from arI_congr (fun i hi => up_ne (by omega))]
theorem eVa1 {k : Nat} {x : Int} (hk : k < 12) : vilw cI a (up s (20 + k) x) nz nw = vilc a (s 0) (s 2) (s 5) (s 3) (s 4) (arI cI 12 (fun i => s (8 + i))) (arI cI 12 (up (fun i => s (20 + i)) k x)) (arI cI 60 (fun i => s (42 + 3 * i))) (arI cI 60 (fun i => s (43 + 3 * i))) (arI cI 60 (fun i => s (44 + 3 * i))) ++ (couw cI (a 6) (a 7) (s 1) (fun i => s (32 + i)) ++ (couw cI (a 8) (a 9) nz nw ++ lotw cI a s)) := by
  unfold vilw vilo
  rw [show up s (20 + k) x 0 = s 0 from up_ne (by omega), show up s (20 + k) x 2 = s 2 from up_ne (by omega), show up s (20 + k) x 5 = s 5 from up_ne (by omega), show up s (20 + k) x 3 = s 3 from up_ne (by omega), show up s (20 + k) x 4 = s 4 from up_ne (by omega), show arI cI 12 (fun i => up s (20 + k) x (8 + i)) = arI cI 12 (fun i => s (8 + i)) from arI_congr (fun i hi => up_ne (by omega)), show arI cI 12 (fun i => up s (20 + k) x (20 + i)) = arI cI 12 (up (fun i => s (20 + i)) k x) from arI_congr (fun i hi => by unfold up; by_cases h : i = k <;> first | (subst h; simp; done) | (rw [if_neg h, if_neg (by omega)])), show arI cI 60 (fun i => up s (20 + k) x (42 + 3 * i)) = arI cI 60 (fun i => s (42 + 3 * i)) from arI_congr (fun i hi => up_ne (by omega)), show arI cI 60 (fun i => up s (20 + k) x (43 + 3 * i)) = arI cI 60 (fun i => s (43 + 3 * i)) from arI_congr (fun i hi => up_ne (by omega)), show arI cI 60 (fun i => up s (20 + k) x (44 + 3 * i)) = arI cI 60 (fun i => s (44 + 3 * i)) from arI_congr (fun i hi => up_ne (by omega)), show up s (20 + k) x 1 = s 1 from up_ne (by omega), show couw cI (a 6) (a 7) (s 1) (fun i => up s (20 + k) x (32 + i)) = couw cI (a 6) (a 7) (s 1) (fun i => s (32 + i)) from (by unfold couw; rw [show arI cI 5 (fun i => up s (20 + k) x (32 + i)) = arI cI 5 (fun i => s (32 + i)) from arI_congr (fun i hi => up_ne (by omega))]), eVa1_l hk]
theorem Vs1 (hx : p.tables.exec = Jvm.exec) (hb : c.code = cc) (hK : va_K D vwCl (kt cI cV) s0) (hW : Wd D A (vilw cI a s nz nw) H0 H locs) {i x : Int} (hi : 0 ≤ i ∧ i < 12) (hdg : decode cc pc = .ok (.iastore, 1)) (k : ∀ (H1 : Heap) (locs1 : List Loc), Wd D A (vilw cI a (up s (20 + i.toNat) x) nz nw) H0 H1 locs1 → W p l e R s0 m args below meth c H1 locs1 cells slots Q (F0 m (pc + 1) ls (rest))) : W p l e R s0 m args below meth c H locs cells slots Q (F0 m pc ls (.int (iI x) :: .int (iI i) :: .ref (a 2) :: rest)) := by
  refine va_iast hx hb hK hW.1 hW.2.1 hW.2.2 2 0 (f := fun j => iI (cut 12 (fun i => s (20 + i)) j)) rfl rfl (iI_in (n := 12) (by omega) (by omega)) hdg (fun H1 locs1 hP hD hS => k H1 locs1 ?_)
  rw [iI_clamp ⟨by omega, by omega⟩, arI_upd (by omega)] at hP hD
  have hk : i.toNat < 12 := by omega
  have hee := (eVa1 (cI := cI) (a := a) (s := s) (nz := nz) (nw := nw) (x := x) hk).symm
  exact ⟨hee ▸ hP, hee ▸ hD, hS⟩
theorem Va2 (hx : p.tables.exec = Jvm.exec) (hb : c.code = cc) (hK : va_K D vwCl (kt cI cV) s0) (hP : va_P D vwCl (vilw cI a s nz nw) H) {i : Int} (hi : 0 ≤ i ∧ i < 60) (hdg : decode cc pc = .ok (.iaload, 1)) (k : W p l e R s0 m args below meth c H locs cells slots Q (F0 m (pc + 1) ls (.int (iI (s (42 + 3 * i.toNat))) :: rest))) : W p l e R s0 m args below meth c H locs cells slots Q (F0 m pc ls (.int (iI i) :: .ref (a 3) :: rest)) := by
  refine va_iald hx hb hK hP 3 0 rfl rfl (iI_in (n := 60) (by omega) (by omega)) hdg ?_
  rw [iI_clamp ⟨by omega, by omega⟩, cut_at (by omega)]
  exact k
theorem eVa2_l {k : Nat} {x : Int} (hk : k < 60) : lotw cI a (up s (42 + 3 * k) x) = lotw cI a s := by
  unfold lotw
  rw [show up s (42 + 3 * k) x 6 = s 6 from up_ne (by omega), show up s (42 + 3 * k) x 7 = s 7 from up_ne (by omega), show arI cI 60 (fun i => up s (42 + 3 * k) x (222 + 5 * i)) = arI cI 60 (fun i => s (222 + 5 * i)) from arI_congr (fun i hi => up_ne (by omega)), show arI cI 60 (fun i => up s (42 + 3 * k) x (223 + 5 * i)) = arI cI 60 (fun i => s (223 + 5 * i)) from arI_congr (fun i hi => up_ne (by omega)), show arI cI 60 (fun i => up s (42 + 3 * k) x (225 + 5 * i)) = arI cI 60 (fun i => s (225 + 5 * i)) from arI_congr (fun i hi => up_ne (by omega)), show arI cI 60 (fun i => up s (42 + 3 * k) x (224 + 5 * i)) = arI cI 60 (fun i => s (224 + 5 * i)) from arI_congr (fun i hi => up_ne (by omega)), show arI cI 60 (fun i => up s (42 + 3 * k) x (226 + 5 * i)) = arI cI 60 (fun i => s (226 + 5 * i)) from arI_congr (fun i hi => up_ne (by omega))]
theorem eVa2 {k : Nat} {x : Int} (hk : k < 60) : vilw cI a (up s (42 + 3 * k) x) nz nw = vilc a (s 0) (s 2) (s 5) (s 3) (s 4) (arI cI 12 (fun i => s (8 + i))) (arI cI 12 (fun i => s (20 + i))) (arI cI 60 (up (fun i => s (42 + 3 * i)) k x)) (arI cI 60 (fun i => s (43 + 3 * i))) (arI cI 60 (fun i => s (44 + 3 * i))) ++ (couw cI (a 6) (a 7) (s 1) (fun i => s (32 + i)) ++ (couw cI (a 8) (a 9) nz nw ++ lotw cI a s)) := by
  unfold vilw vilo
  rw [show up s (42 + 3 * k) x 0 = s 0 from up_ne (by omega), show up s (42 + 3 * k) x 2 = s 2 from up_ne (by omega), show up s (42 + 3 * k) x 5 = s 5 from up_ne (by omega), show up s (42 + 3 * k) x 3 = s 3 from up_ne (by omega), show up s (42 + 3 * k) x 4 = s 4 from up_ne (by omega), show arI cI 12 (fun i => up s (42 + 3 * k) x (8 + i)) = arI cI 12 (fun i => s (8 + i)) from arI_congr (fun i hi => up_ne (by omega)), show arI cI 12 (fun i => up s (42 + 3 * k) x (20 + i)) = arI cI 12 (fun i => s (20 + i)) from arI_congr (fun i hi => up_ne (by omega)), show arI cI 60 (fun i => up s (42 + 3 * k) x (42 + 3 * i)) = arI cI 60 (up (fun i => s (42 + 3 * i)) k x) from arI_congr (fun i hi => by unfold up; by_cases h : i = k <;> first | (subst h; simp; done) | (rw [if_neg h, if_neg (by omega)])), show arI cI 60 (fun i => up s (42 + 3 * k) x (43 + 3 * i)) = arI cI 60 (fun i => s (43 + 3 * i)) from arI_congr (fun i hi => up_ne (by omega)), show arI cI 60 (fun i => up s (42 + 3 * k) x (44 + 3 * i)) = arI cI 60 (fun i => s (44 + 3 * i)) from arI_congr (fun i hi => up_ne (by omega)), show up s (42 + 3 * k) x 1 = s 1 from up_ne (by omega), show couw cI (a 6) (a 7) (s 1) (fun i => up s (42 + 3 * k) x (32 + i)) = couw cI (a 6) (a 7) (s 1) (fun i => s (32 + i)) from (by unfold couw; rw [show arI cI 5 (fun i => up s (42 + 3 * k) x (32 + i)) = arI cI 5 (fun i => s (32 + i)) from arI_congr (fun i hi => up_ne (by omega))]), eVa2_l hk]
theorem Vs2 (hx : p.tables.exec = Jvm.exec) (hb : c.code = cc) (hK : va_K D vwCl (kt cI cV) s0) (hW : Wd D A (vilw cI a s nz nw) H0 H locs) {i x : Int} (hi : 0 ≤ i ∧ i < 60) (hdg : decode cc pc = .ok (.iastore, 1)) (k : ∀ (H1 : Heap) (locs1 : List Loc), Wd D A (vilw cI a (up s (42 + 3 * i.toNat) x) nz nw) H0 H1 locs1 → W p l e R s0 m args below meth c H1 locs1 cells slots Q (F0 m (pc + 1) ls (rest))) : W p l e R s0 m args below meth c H locs cells slots Q (F0 m pc ls (.int (iI x) :: .int (iI i) :: .ref (a 3) :: rest)) := by
  refine va_iast hx hb hK hW.1 hW.2.1 hW.2.2 3 0 (f := fun j => iI (cut 60 (fun i => s (42 + 3 * i)) j)) rfl rfl (iI_in (n := 60) (by omega) (by omega)) hdg (fun H1 locs1 hP hD hS => k H1 locs1 ?_)
  rw [iI_clamp ⟨by omega, by omega⟩, arI_upd (by omega)] at hP hD
  have hk : i.toNat < 60 := by omega
  have hee := (eVa2 (cI := cI) (a := a) (s := s) (nz := nz) (nw := nw) (x := x) hk).symm
  exact ⟨hee ▸ hP, hee ▸ hD, hS⟩
theorem Va3 (hx : p.tables.exec = Jvm.exec) (hb : c.code = cc) (hK : va_K D vwCl (kt cI cV) s0) (hP : va_P D vwCl (vilw cI a s nz nw) H) {i : Int} (hi : 0 ≤ i ∧ i < 60) (hdg : decode cc pc = .ok (.iaload, 1)) (k : W p l e R s0 m args below meth c H locs cells slots Q (F0 m (pc + 1) ls (.int (iI (s (43 + 3 * i.toNat))) :: rest))) : W p l e R s0 m args below meth c H locs cells slots Q (F0 m pc ls (.int (iI i) :: .ref (a 4) :: rest)) := by
  refine va_iald hx hb hK hP 4 0 rfl rfl (iI_in (n := 60) (by omega) (by omega)) hdg ?_
  rw [iI_clamp ⟨by omega, by omega⟩, cut_at (by omega)]
  exact k
theorem eVa3_l {k : Nat} {x : Int} (hk : k < 60) : lotw cI a (up s (43 + 3 * k) x) = lotw cI a s := by
  unfold lotw
  rw [show up s (43 + 3 * k) x 6 = s 6 from up_ne (by omega), show up s (43 + 3 * k) x 7 = s 7 from up_ne (by omega), show arI cI 60 (fun i => up s (43 + 3 * k) x (222 + 5 * i)) = arI cI 60 (fun i => s (222 + 5 * i)) from arI_congr (fun i hi => up_ne (by omega)), show arI cI 60 (fun i => up s (43 + 3 * k) x (223 + 5 * i)) = arI cI 60 (fun i => s (223 + 5 * i)) from arI_congr (fun i hi => up_ne (by omega)), show arI cI 60 (fun i => up s (43 + 3 * k) x (225 + 5 * i)) = arI cI 60 (fun i => s (225 + 5 * i)) from arI_congr (fun i hi => up_ne (by omega)), show arI cI 60 (fun i => up s (43 + 3 * k) x (224 + 5 * i)) = arI cI 60 (fun i => s (224 + 5 * i)) from arI_congr (fun i hi => up_ne (by omega)), show arI cI 60 (fun i => up s (43 + 3 * k) x (226 + 5 * i)) = arI cI 60 (fun i => s (226 + 5 * i)) from arI_congr (fun i hi => up_ne (by omega))]
theorem eVa3 {k : Nat} {x : Int} (hk : k < 60) : vilw cI a (up s (43 + 3 * k) x) nz nw = vilc a (s 0) (s 2) (s 5) (s 3) (s 4) (arI cI 12 (fun i => s (8 + i))) (arI cI 12 (fun i => s (20 + i))) (arI cI 60 (fun i => s (42 + 3 * i))) (arI cI 60 (up (fun i => s (43 + 3 * i)) k x)) (arI cI 60 (fun i => s (44 + 3 * i))) ++ (couw cI (a 6) (a 7) (s 1) (fun i => s (32 + i)) ++ (couw cI (a 8) (a 9) nz nw ++ lotw cI a s)) := by
  unfold vilw vilo
  rw [show up s (43 + 3 * k) x 0 = s 0 from up_ne (by omega), show up s (43 + 3 * k) x 2 = s 2 from up_ne (by omega), show up s (43 + 3 * k) x 5 = s 5 from up_ne (by omega), show up s (43 + 3 * k) x 3 = s 3 from up_ne (by omega), show up s (43 + 3 * k) x 4 = s 4 from up_ne (by omega), show arI cI 12 (fun i => up s (43 + 3 * k) x (8 + i)) = arI cI 12 (fun i => s (8 + i)) from arI_congr (fun i hi => up_ne (by omega)), show arI cI 12 (fun i => up s (43 + 3 * k) x (20 + i)) = arI cI 12 (fun i => s (20 + i)) from arI_congr (fun i hi => up_ne (by omega)), show arI cI 60 (fun i => up s (43 + 3 * k) x (42 + 3 * i)) = arI cI 60 (fun i => s (42 + 3 * i)) from arI_congr (fun i hi => up_ne (by omega)), show arI cI 60 (fun i => up s (43 + 3 * k) x (43 + 3 * i)) = arI cI 60 (up (fun i => s (43 + 3 * i)) k x) from arI_congr (fun i hi => by unfold up; by_cases h : i = k <;> first | (subst h; simp; done) | (rw [if_neg h, if_neg (by omega)])), show arI cI 60 (fun i => up s (43 + 3 * k) x (44 + 3 * i)) = arI cI 60 (fun i => s (44 + 3 * i)) from arI_congr (fun i hi => up_ne (by omega)), show up s (43 + 3 * k) x 1 = s 1 from up_ne (by omega), show couw cI (a 6) (a 7) (s 1) (fun i => up s (43 + 3 * k) x (32 + i)) = couw cI (a 6) (a 7) (s 1) (fun i => s (32 + i)) from (by unfold couw; rw [show arI cI 5 (fun i => up s (43 + 3 * k) x (32 + i)) = arI cI 5 (fun i => s (32 + i)) from arI_congr (fun i hi => up_ne (by omega))]), eVa3_l hk]
theorem Vs3 (hx : p.tables.exec = Jvm.exec) (hb : c.code = cc) (hK : va_K D vwCl (kt cI cV) s0) (hW : Wd D A (vilw cI a s nz nw) H0 H locs) {i x : Int} (hi : 0 ≤ i ∧ i < 60) (hdg : decode cc pc = .ok (.iastore, 1)) (k : ∀ (H1 : Heap) (locs1 : List Loc), Wd D A (vilw cI a (up s (43 + 3 * i.toNat) x) nz nw) H0 H1 locs1 → W p l e R s0 m args below meth c H1 locs1 cells slots Q (F0 m (pc + 1) ls (rest))) : W p l e R s0 m args below meth c H locs cells slots Q (F0 m pc ls (.int (iI x) :: .int (iI i) :: .ref (a 4) :: rest)) := by
  refine va_iast hx hb hK hW.1 hW.2.1 hW.2.2 4 0 (f := fun j => iI (cut 60 (fun i => s (43 + 3 * i)) j)) rfl rfl (iI_in (n := 60) (by omega) (by omega)) hdg (fun H1 locs1 hP hD hS => k H1 locs1 ?_)
  rw [iI_clamp ⟨by omega, by omega⟩, arI_upd (by omega)] at hP hD
  have hk : i.toNat < 60 := by omega
  have hee := (eVa3 (cI := cI) (a := a) (s := s) (nz := nz) (nw := nw) (x := x) hk).symm
  exact ⟨hee ▸ hP, hee ▸ hD, hS⟩
theorem Va4 (hx : p.tables.exec = Jvm.exec) (hb : c.code = cc) (hK : va_K D vwCl (kt cI cV) s0) (hP : va_P D vwCl (vilw cI a s nz nw) H) {i : Int} (hi : 0 ≤ i ∧ i < 60) (hdg : decode cc pc = .ok (.iaload, 1)) (k : W p l e R s0 m args below meth c H locs cells slots Q (F0 m (pc + 1) ls (.int (iI (s (44 + 3 * i.toNat))) :: rest))) : W p l e R s0 m args below meth c H locs cells slots Q (F0 m pc ls (.int (iI i) :: .ref (a 5) :: rest)) := by
  refine va_iald hx hb hK hP 5 0 rfl rfl (iI_in (n := 60) (by omega) (by omega)) hdg ?_
  rw [iI_clamp ⟨by omega, by omega⟩, cut_at (by omega)]
  exact k
theorem eVa4_l {k : Nat} {x : Int} (hk : k < 60) : lotw cI a (up s (44 + 3 * k) x) = lotw cI a s := by
  unfold lotw
  rw [show up s (44 + 3 * k) x 6 = s 6 from up_ne (by omega), show up s (44 + 3 * k) x 7 = s 7 from up_ne (by omega), show arI cI 60 (fun i => up s (44 + 3 * k) x (222 + 5 * i)) = arI cI 60 (fun i => s (222 + 5 * i)) from arI_congr (fun i hi => up_ne (by omega)), show arI cI 60 (fun i => up s (44 + 3 * k) x (223 + 5 * i)) = arI cI 60 (fun i => s (223 + 5 * i)) from arI_congr (fun i hi => up_ne (by omega)), show arI cI 60 (fun i => up s (44 + 3 * k) x (225 + 5 * i)) = arI cI 60 (fun i => s (225 + 5 * i)) from arI_congr (fun i hi => up_ne (by omega)), show arI cI 60 (fun i => up s (44 + 3 * k) x (224 + 5 * i)) = arI cI 60 (fun i => s (224 + 5 * i)) from arI_congr (fun i hi => up_ne (by omega)), show arI cI 60 (fun i => up s (44 + 3 * k) x (226 + 5 * i)) = arI cI 60 (fun i => s (226 + 5 * i)) from arI_congr (fun i hi => up_ne (by omega))]
theorem eVa4 {k : Nat} {x : Int} (hk : k < 60) : vilw cI a (up s (44 + 3 * k) x) nz nw = vilc a (s 0) (s 2) (s 5) (s 3) (s 4) (arI cI 12 (fun i => s (8 + i))) (arI cI 12 (fun i => s (20 + i))) (arI cI 60 (fun i => s (42 + 3 * i))) (arI cI 60 (fun i => s (43 + 3 * i))) (arI cI 60 (up (fun i => s (44 + 3 * i)) k x)) ++ (couw cI (a 6) (a 7) (s 1) (fun i => s (32 + i)) ++ (couw cI (a 8) (a 9) nz nw ++ lotw cI a s)) := by
  unfold vilw vilo
  rw [show up s (44 + 3 * k) x 0 = s 0 from up_ne (by omega), show up s (44 + 3 * k) x 2 = s 2 from up_ne (by omega), show up s (44 + 3 * k) x 5 = s 5 from up_ne (by omega), show up s (44 + 3 * k) x 3 = s 3 from up_ne (by omega), show up s (44 + 3 * k) x 4 = s 4 from up_ne (by omega), show arI cI 12 (fun i => up s (44 + 3 * k) x (8 + i)) = arI cI 12 (fun i => s (8 + i)) from arI_congr (fun i hi => up_ne (by omega)), show arI cI 12 (fun i => up s (44 + 3 * k) x (20 + i)) = arI cI 12 (fun i => s (20 + i)) from arI_congr (fun i hi => up_ne (by omega)), show arI cI 60 (fun i => up s (44 + 3 * k) x (42 + 3 * i)) = arI cI 60 (fun i => s (42 + 3 * i)) from arI_congr (fun i hi => up_ne (by omega)), show arI cI 60 (fun i => up s (44 + 3 * k) x (43 + 3 * i)) = arI cI 60 (fun i => s (43 + 3 * i)) from arI_congr (fun i hi => up_ne (by omega)), show arI cI 60 (fun i => up s (44 + 3 * k) x (44 + 3 * i)) = arI cI 60 (up (fun i => s (44 + 3 * i)) k x) from arI_congr (fun i hi => by unfold up; by_cases h : i = k <;> first | (subst h; simp; done) | (rw [if_neg h, if_neg (by omega)])), show up s (44 + 3 * k) x 1 = s 1 from up_ne (by omega), show couw cI (a 6) (a 7) (s 1) (fun i => up s (44 + 3 * k) x (32 + i)) = couw cI (a 6) (a 7) (s 1) (fun i => s (32 + i)) from (by unfold couw; rw [show arI cI 5 (fun i => up s (44 + 3 * k) x (32 + i)) = arI cI 5 (fun i => s (32 + i)) from arI_congr (fun i hi => up_ne (by omega))]), eVa4_l hk]
theorem Vs4 (hx : p.tables.exec = Jvm.exec) (hb : c.code = cc) (hK : va_K D vwCl (kt cI cV) s0) (hW : Wd D A (vilw cI a s nz nw) H0 H locs) {i x : Int} (hi : 0 ≤ i ∧ i < 60) (hdg : decode cc pc = .ok (.iastore, 1)) (k : ∀ (H1 : Heap) (locs1 : List Loc), Wd D A (vilw cI a (up s (44 + 3 * i.toNat) x) nz nw) H0 H1 locs1 → W p l e R s0 m args below meth c H1 locs1 cells slots Q (F0 m (pc + 1) ls (rest))) : W p l e R s0 m args below meth c H locs cells slots Q (F0 m pc ls (.int (iI x) :: .int (iI i) :: .ref (a 5) :: rest)) := by
  refine va_iast hx hb hK hW.1 hW.2.1 hW.2.2 5 0 (f := fun j => iI (cut 60 (fun i => s (44 + 3 * i)) j)) rfl rfl (iI_in (n := 60) (by omega) (by omega)) hdg (fun H1 locs1 hP hD hS => k H1 locs1 ?_)
  rw [iI_clamp ⟨by omega, by omega⟩, arI_upd (by omega)] at hP hD
  have hk : i.toNat < 60 := by omega
  have hee := (eVa4 (cI := cI) (a := a) (s := s) (nz := nz) (nw := nw) (x := x) hk).symm
  exact ⟨hee ▸ hP, hee ▸ hD, hS⟩
theorem Tg0 (hx : p.tables.exec = Jvm.exec) (hb : c.code = cc) (hts : ∀ w ∈ Ts, w.before args s0 = true) (hin : ∀ w ∈ u_ws RX3 TX3 6, w ∈ Ts) (hown : s0.vm.findClass RX3 = some m.cls) (hK : va_K D vwCl (kt cI cV) s0) (hP : va_P D vwCl (txtw cI o ch t n pl le vr nr) H) {idx : Nat} (hl : Cond.fieldLink RX3 idx "VillageLog$Text" "characters" "[I" ∈ Ts) (hdg : decode cc pc = .ok (.getfield idx, 3)) (k : W p l e R s0 m args below meth c H locs cells slots Q (F0 m (pc + 3) ls (.ref ch :: rest))) : W p l e R s0 m args below meth c H locs cells slots Q (F0 m pc ls (.ref (o) :: rest)) :=
  va_get (D := D) (ci := 3) (C := RX3) (T := TX3) (N := 6) hx hb hts hin hown hK hP 0 rfl rfl 0 (by decide) (hts _ hl) (fun _ h => h) rfl hdg k
theorem Tg1 (hx : p.tables.exec = Jvm.exec) (hb : c.code = cc) (hts : ∀ w ∈ Ts, w.before args s0 = true) (hin : ∀ w ∈ u_ws RX3 TX3 6, w ∈ Ts) (hown : s0.vm.findClass RX3 = some m.cls) (hK : va_K D vwCl (kt cI cV) s0) (hP : va_P D vwCl (txtw cI o ch t n pl le vr nr) H) {idx : Nat} (hl : Cond.fieldLink RX3 idx "VillageLog$Text" "length" "I" ∈ Ts) (hdg : decode cc pc = .ok (.getfield idx, 3)) (k : W p l e R s0 m args below meth c H locs cells slots Q (F0 m (pc + 3) ls (.int (iI n) :: rest))) : W p l e R s0 m args below meth c H locs cells slots Q (F0 m pc ls (.ref (o) :: rest)) :=
  va_get (D := D) (ci := 3) (C := RX3) (T := TX3) (N := 6) hx hb hts hin hown hK hP 0 rfl rfl 1 (by decide) (hts _ hl) (fun _ h => h) rfl hdg k
theorem Tg2 (hx : p.tables.exec = Jvm.exec) (hb : c.code = cc) (hts : ∀ w ∈ Ts, w.before args s0 = true) (hin : ∀ w ∈ u_ws RX3 TX3 6, w ∈ Ts) (hown : s0.vm.findClass RX3 = some m.cls) (hK : va_K D vwCl (kt cI cV) s0) (hP : va_P D vwCl (txtw cI o ch t n pl le vr nr) H) {idx : Nat} (hl : Cond.fieldLink RX3 idx "VillageLog$Text" "place" "I" ∈ Ts) (hdg : decode cc pc = .ok (.getfield idx, 3)) (k : W p l e R s0 m args below meth c H locs cells slots Q (F0 m (pc + 3) ls (.int (iI pl) :: rest))) : W p l e R s0 m args below meth c H locs cells slots Q (F0 m pc ls (.ref (o) :: rest)) :=
  va_get (D := D) (ci := 3) (C := RX3) (T := TX3) (N := 6) hx hb hts hin hown hK hP 0 rfl rfl 2 (by decide) (hts _ hl) (fun _ h => h) rfl hdg k
theorem Tg3 (hx : p.tables.exec = Jvm.exec) (hb : c.code = cc) (hts : ∀ w ∈ Ts, w.before args s0 = true) (hin : ∀ w ∈ u_ws RX3 TX3 6, w ∈ Ts) (hown : s0.vm.findClass RX3 = some m.cls) (hK : va_K D vwCl (kt cI cV) s0) (hP : va_P D vwCl (txtw cI o ch t n pl le vr nr) H) {idx : Nat} (hl : Cond.fieldLink RX3 idx "VillageLog$Text" "letter" "I" ∈ Ts) (hdg : decode cc pc = .ok (.getfield idx, 3)) (k : W p l e R s0 m args below meth c H locs cells slots Q (F0 m (pc + 3) ls (.int (iI le) :: rest))) : W p l e R s0 m args below meth c H locs cells slots Q (F0 m pc ls (.ref (o) :: rest)) :=
  va_get (D := D) (ci := 3) (C := RX3) (T := TX3) (N := 6) hx hb hts hin hown hK hP 0 rfl rfl 3 (by decide) (hts _ hl) (fun _ h => h) rfl hdg k
theorem Tg4 (hx : p.tables.exec = Jvm.exec) (hb : c.code = cc) (hts : ∀ w ∈ Ts, w.before args s0 = true) (hin : ∀ w ∈ u_ws RX3 TX3 6, w ∈ Ts) (hown : s0.vm.findClass RX3 = some m.cls) (hK : va_K D vwCl (kt cI cV) s0) (hP : va_P D vwCl (txtw cI o ch t n pl le vr nr) H) {idx : Nat} (hl : Cond.fieldLink RX3 idx "VillageLog$Text" "villagerRead" "I" ∈ Ts) (hdg : decode cc pc = .ok (.getfield idx, 3)) (k : W p l e R s0 m args below meth c H locs cells slots Q (F0 m (pc + 3) ls (.int (iI vr) :: rest))) : W p l e R s0 m args below meth c H locs cells slots Q (F0 m pc ls (.ref (o) :: rest)) :=
  va_get (D := D) (ci := 3) (C := RX3) (T := TX3) (N := 6) hx hb hts hin hown hK hP 0 rfl rfl 4 (by decide) (hts _ hl) (fun _ h => h) rfl hdg k
theorem Tg5 (hx : p.tables.exec = Jvm.exec) (hb : c.code = cc) (hts : ∀ w ∈ Ts, w.before args s0 = true) (hin : ∀ w ∈ u_ws RX3 TX3 6, w ∈ Ts) (hown : s0.vm.findClass RX3 = some m.cls) (hK : va_K D vwCl (kt cI cV) s0) (hP : va_P D vwCl (txtw cI o ch t n pl le vr nr) H) {idx : Nat} (hl : Cond.fieldLink RX3 idx "VillageLog$Text" "numberRead" "I" ∈ Ts) (hdg : decode cc pc = .ok (.getfield idx, 3)) (k : W p l e R s0 m args below meth c H locs cells slots Q (F0 m (pc + 3) ls (.int (iI nr) :: rest))) : W p l e R s0 m args below meth c H locs cells slots Q (F0 m pc ls (.ref (o) :: rest)) :=
  va_get (D := D) (ci := 3) (C := RX3) (T := TX3) (N := 6) hx hb hts hin hown hK hP 0 rfl rfl 5 (by decide) (hts _ hl) (fun _ h => h) rfl hdg k
theorem Tp1 (hx : p.tables.exec = Jvm.exec) (hb : c.code = cc) (hts : ∀ w ∈ Ts, w.before args s0 = true) (hin : ∀ w ∈ u_ws RX3 TX3 6, w ∈ Ts) (hown : s0.vm.findClass RX3 = some m.cls) (hK : va_K D vwCl (kt cI cV) s0) (hW : Wd D A (txtw cI o ch t n pl le vr nr) H0 H locs) {idx : Nat} (hl : Cond.fieldLink RX3 idx "VillageLog$Text" "length" "I" ∈ Ts) (hdg : decode cc pc = .ok (.putfield idx, 3)) {x : Int} (k : ∀ (H1 : Heap) (locs1 : List Loc), Wd D A (txtw cI o ch t x pl le vr nr) H0 H1 locs1 → W p l e R s0 m args below meth c H1 locs1 cells slots Q (F0 m (pc + 3) ls (rest))) : W p l e R s0 m args below meth c H locs cells slots Q (F0 m pc ls (.int (iI x) :: .ref (o) :: rest)) :=
  va_put (D := D) (ci := 3) (v := .int (iI x)) (ty := .int) (C := RX3) (T := TX3) (N := 6) hx hb hts hin tyX3 tyX3_ok nmX3 hown hK hW.1 hW.2.1 hW.2.2 0 rfl rfl 1 (by decide) (hts _ hl) (fun _ h => h) rfl (by decide +kernel) rfl rfl (Nat.le_of_ble_eq_true rfl) hdg (fun H1 locs1 hP hD hS => k H1 locs1 ⟨(rfl : _ = txtw cI o ch t x pl le vr nr) ▸ hP, (rfl : _ = txtw cI o ch t x pl le vr nr) ▸ hD, hS⟩)
theorem Tp2 (hx : p.tables.exec = Jvm.exec) (hb : c.code = cc) (hts : ∀ w ∈ Ts, w.before args s0 = true) (hin : ∀ w ∈ u_ws RX3 TX3 6, w ∈ Ts) (hown : s0.vm.findClass RX3 = some m.cls) (hK : va_K D vwCl (kt cI cV) s0) (hW : Wd D A (txtw cI o ch t n pl le vr nr) H0 H locs) {idx : Nat} (hl : Cond.fieldLink RX3 idx "VillageLog$Text" "place" "I" ∈ Ts) (hdg : decode cc pc = .ok (.putfield idx, 3)) {x : Int} (k : ∀ (H1 : Heap) (locs1 : List Loc), Wd D A (txtw cI o ch t n x le vr nr) H0 H1 locs1 → W p l e R s0 m args below meth c H1 locs1 cells slots Q (F0 m (pc + 3) ls (rest))) : W p l e R s0 m args below meth c H locs cells slots Q (F0 m pc ls (.int (iI x) :: .ref (o) :: rest)) :=
  va_put (D := D) (ci := 3) (v := .int (iI x)) (ty := .int) (C := RX3) (T := TX3) (N := 6) hx hb hts hin tyX3 tyX3_ok nmX3 hown hK hW.1 hW.2.1 hW.2.2 0 rfl rfl 2 (by decide) (hts _ hl) (fun _ h => h) rfl (by decide +kernel) rfl rfl (Nat.le_of_ble_eq_true rfl) hdg (fun H1 locs1 hP hD hS => k H1 locs1 ⟨(rfl : _ = txtw cI o ch t n x le vr nr) ▸ hP, (rfl : _ = txtw cI o ch t n x le vr nr) ▸ hD, hS⟩)
theorem Tp3 (hx : p.tables.exec = Jvm.exec) (hb : c.code = cc) (hts : ∀ w ∈ Ts, w.before args s0 = true) (hin : ∀ w ∈ u_ws RX3 TX3 6, w ∈ Ts) (hown : s0.vm.findClass RX3 = some m.cls) (hK : va_K D vwCl (kt cI cV) s0) (hW : Wd D A (txtw cI o ch t n pl le vr nr) H0 H locs) {idx : Nat} (hl : Cond.fieldLink RX3 idx "VillageLog$Text" "letter" "I" ∈ Ts) (hdg : decode cc pc = .ok (.putfield idx, 3)) {x : Int} (k : ∀ (H1 : Heap) (locs1 : List Loc), Wd D A (txtw cI o ch t n pl x vr nr) H0 H1 locs1 → W p l e R s0 m args below meth c H1 locs1 cells slots Q (F0 m (pc + 3) ls (rest))) : W p l e R s0 m args below meth c H locs cells slots Q (F0 m pc ls (.int (iI x) :: .ref (o) :: rest)) :=
  va_put (D := D) (ci := 3) (v := .int (iI x)) (ty := .int) (C := RX3) (T := TX3) (N := 6) hx hb hts hin tyX3 tyX3_ok nmX3 hown hK hW.1 hW.2.1 hW.2.2 0 rfl rfl 3 (by decide) (hts _ hl) (fun _ h => h) rfl (by decide +kernel) rfl rfl (Nat.le_of_ble_eq_true rfl) hdg (fun H1 locs1 hP hD hS => k H1 locs1 ⟨(rfl : _ = txtw cI o ch t n pl x vr nr) ▸ hP, (rfl : _ = txtw cI o ch t n pl x vr nr) ▸ hD, hS⟩)
theorem Tp4 (hx : p.tables.exec = Jvm.exec) (hb : c.code = cc) (hts : ∀ w ∈ Ts, w.before args s0 = true) (hin : ∀ w ∈ u_ws RX3 TX3 6, w ∈ Ts) (hown : s0.vm.findClass RX3 = some m.cls) (hK : va_K D vwCl (kt cI cV) s0) (hW : Wd D A (txtw cI o ch t n pl le vr nr) H0 H locs) {idx : Nat} (hl : Cond.fieldLink RX3 idx "VillageLog$Text" "villagerRead" "I" ∈ Ts) (hdg : decode cc pc = .ok (.putfield idx, 3)) {x : Int} (k : ∀ (H1 : Heap) (locs1 : List Loc), Wd D A (txtw cI o ch t n pl le x nr) H0 H1 locs1 → W p l e R s0 m args below meth c H1 locs1 cells slots Q (F0 m (pc + 3) ls (rest))) : W p l e R s0 m args below meth c H locs cells slots Q (F0 m pc ls (.int (iI x) :: .ref (o) :: rest)) :=
  va_put (D := D) (ci := 3) (v := .int (iI x)) (ty := .int) (C := RX3) (T := TX3) (N := 6) hx hb hts hin tyX3 tyX3_ok nmX3 hown hK hW.1 hW.2.1 hW.2.2 0 rfl rfl 4 (by decide) (hts _ hl) (fun _ h => h) rfl (by decide +kernel) rfl rfl (Nat.le_of_ble_eq_true rfl) hdg (fun H1 locs1 hP hD hS => k H1 locs1 ⟨(rfl : _ = txtw cI o ch t n pl le x nr) ▸ hP, (rfl : _ = txtw cI o ch t n pl le x nr) ▸ hD, hS⟩)
theorem Tp5 (hx : p.tables.exec = Jvm.exec) (hb : c.code = cc) (hts : ∀ w ∈ Ts, w.before args s0 = true) (hin : ∀ w ∈ u_ws RX3 TX3 6, w ∈ Ts) (hown : s0.vm.findClass RX3 = some m.cls) (hK : va_K D vwCl (kt cI cV) s0) (hW : Wd D A (txtw cI o ch t n pl le vr nr) H0 H locs) {idx : Nat} (hl : Cond.fieldLink RX3 idx "VillageLog$Text" "numberRead" "I" ∈ Ts) (hdg : decode cc pc = .ok (.putfield idx, 3)) {x : Int} (k : ∀ (H1 : Heap) (locs1 : List Loc), Wd D A (txtw cI o ch t n pl le vr x) H0 H1 locs1 → W p l e R s0 m args below meth c H1 locs1 cells slots Q (F0 m (pc + 3) ls (rest))) : W p l e R s0 m args below meth c H locs cells slots Q (F0 m pc ls (.int (iI x) :: .ref (o) :: rest)) :=
  va_put (D := D) (ci := 3) (v := .int (iI x)) (ty := .int) (C := RX3) (T := TX3) (N := 6) hx hb hts hin tyX3 tyX3_ok nmX3 hown hK hW.1 hW.2.1 hW.2.2 0 rfl rfl 5 (by decide) (hts _ hl) (fun _ h => h) rfl (by decide +kernel) rfl rfl (Nat.le_of_ble_eq_true rfl) hdg (fun H1 locs1 hP hD hS => k H1 locs1 ⟨(rfl : _ = txtw cI o ch t n pl le vr x) ▸ hP, (rfl : _ = txtw cI o ch t n pl le vr x) ▸ hD, hS⟩)
theorem Ta (hx : p.tables.exec = Jvm.exec) (hb : c.code = cc) (hK : va_K D vwCl (kt cI cV) s0) (hP : va_P D vwCl (txtw cI o ch t n pl le vr nr) H) {i : Int} (hi : 0 ≤ i ∧ i < 60) (hdg : decode cc pc = .ok (.iaload, 1)) (k : W p l e R s0 m args below meth c H locs cells slots Q (F0 m (pc + 1) ls (.int (iI (t i.toNat)) :: rest))) : W p l e R s0 m args below meth c H locs cells slots Q (F0 m pc ls (.int (iI i) :: .ref (ch) :: rest)) := by
  refine va_iald hx hb hK hP 1 0 rfl rfl (iI_in (n := 60) (by omega) (by omega)) hdg ?_
  rw [iI_clamp ⟨by omega, by omega⟩, cut_at (by omega)]
  exact k
theorem Tw (hx : p.tables.exec = Jvm.exec) (hb : c.code = cc) (hK : va_K D vwCl (kt cI cV) s0) (hW : Wd D A (txtw cI o ch t n pl le vr nr) H0 H locs) {i x : Int} (hi : 0 ≤ i ∧ i < 60) (hdg : decode cc pc = .ok (.iastore, 1)) (k : ∀ (H1 : Heap) (locs1 : List Loc), Wd D A (txtw cI o ch (up t i.toNat x) n pl le vr nr) H0 H1 locs1 → W p l e R s0 m args below meth c H1 locs1 cells slots Q (F0 m (pc + 1) ls (rest))) : W p l e R s0 m args below meth c H locs cells slots Q (F0 m pc ls (.int (iI x) :: .int (iI i) :: .ref (ch) :: rest)) := by
  refine va_iast hx hb hK hW.1 hW.2.1 hW.2.2 1 0 (f := fun j => iI (cut 60 (t) j)) rfl rfl (iI_in (n := 60) (by omega) (by omega)) hdg (fun H1 locs1 hP hD hS => k H1 locs1 ?_)
  rw [iI_clamp ⟨by omega, by omega⟩, arI_upd (by omega)] at hP hD
  have hk : i.toNat < 60 := by omega
  exact ⟨hP, hD, hS⟩
theorem Mg0 (hx : p.tables.exec = Jvm.exec) (hb : c.code = cc) (hts : ∀ w ∈ Ts, w.before args s0 = true) (hin : ∀ w ∈ u_ws RX6 TX6 9, w ∈ Ts) (hown : s0.vm.findClass RX6 = some m.cls) (hK : va_K D vwCl (kt cI cV) s0) (hP : va_P D vwCl (modw cI b s pa he np ru t ty at_ rd) H) {idx : Nat} (hl : Cond.fieldLink RX6 idx "VillageLogModel" "s" "[I" ∈ Ts) (hdg : decode cc pc = .ok (.getfield idx, 3)) (k : W p l e R s0 m args below meth c H locs cells slots Q (F0 m (pc + 3) ls (.ref (b 1) :: rest))) : W p l e R s0 m args below meth c H locs cells slots Q (F0 m pc ls (.ref (b 0) :: rest)) :=
  va_get (D := D) (ci := 6) (C := RX6) (T := TX6) (N := 9) hx hb hts hin hown hK hP 0 rfl rfl 0 (by decide) (hts _ hl) (fun _ h => h) rfl hdg k
theorem Mg1 (hx : p.tables.exec = Jvm.exec) (hb : c.code = cc) (hts : ∀ w ∈ Ts, w.before args s0 = true) (hin : ∀ w ∈ u_ws RX6 TX6 9, w ∈ Ts) (hown : s0.vm.findClass RX6 = some m.cls) (hK : va_K D vwCl (kt cI cV) s0) (hP : va_P D vwCl (modw cI b s pa he np ru t ty at_ rd) H) {idx : Nat} (hl : Cond.fieldLink RX6 idx "VillageLogModel" "past" "[I" ∈ Ts) (hdg : decode cc pc = .ok (.getfield idx, 3)) (k : W p l e R s0 m args below meth c H locs cells slots Q (F0 m (pc + 3) ls (.ref (b 2) :: rest))) : W p l e R s0 m args below meth c H locs cells slots Q (F0 m pc ls (.ref (b 0) :: rest)) :=
  va_get (D := D) (ci := 6) (C := RX6) (T := TX6) (N := 9) hx hb hts hin hown hK hP 0 rfl rfl 1 (by decide) (hts _ hl) (fun _ h => h) rfl hdg k
theorem Mg2 (hx : p.tables.exec = Jvm.exec) (hb : c.code = cc) (hts : ∀ w ∈ Ts, w.before args s0 = true) (hin : ∀ w ∈ u_ws RX6 TX6 9, w ∈ Ts) (hown : s0.vm.findClass RX6 = some m.cls) (hK : va_K D vwCl (kt cI cV) s0) (hP : va_P D vwCl (modw cI b s pa he np ru t ty at_ rd) H) {idx : Nat} (hl : Cond.fieldLink RX6 idx "VillageLogModel" "held" "[I" ∈ Ts) (hdg : decode cc pc = .ok (.getfield idx, 3)) (k : W p l e R s0 m args below meth c H locs cells slots Q (F0 m (pc + 3) ls (.ref (b 3) :: rest))) : W p l e R s0 m args below meth c H locs cells slots Q (F0 m pc ls (.ref (b 0) :: rest)) :=
  va_get (D := D) (ci := 6) (C := RX6) (T := TX6) (N := 9) hx hb hts hin hown hK hP 0 rfl rfl 2 (by decide) (hts _ hl) (fun _ h => h) rfl hdg k
theorem Mg3 (hx : p.tables.exec = Jvm.exec) (hb : c.code = cc) (hts : ∀ w ∈ Ts, w.before args s0 = true) (hin : ∀ w ∈ u_ws RX6 TX6 9, w ∈ Ts) (hown : s0.vm.findClass RX6 = some m.cls) (hK : va_K D vwCl (kt cI cV) s0) (hP : va_P D vwCl (modw cI b s pa he np ru t ty at_ rd) H) {idx : Nat} (hl : Cond.fieldLink RX6 idx "VillageLogModel" "pasts" "I" ∈ Ts) (hdg : decode cc pc = .ok (.getfield idx, 3)) (k : W p l e R s0 m args below meth c H locs cells slots Q (F0 m (pc + 3) ls (.int (iI np) :: rest))) : W p l e R s0 m args below meth c H locs cells slots Q (F0 m pc ls (.ref (b 0) :: rest)) :=
  va_get (D := D) (ci := 6) (C := RX6) (T := TX6) (N := 9) hx hb hts hin hown hK hP 0 rfl rfl 3 (by decide) (hts _ hl) (fun _ h => h) rfl hdg k
theorem Mg4 (hx : p.tables.exec = Jvm.exec) (hb : c.code = cc) (hts : ∀ w ∈ Ts, w.before args s0 = true) (hin : ∀ w ∈ u_ws RX6 TX6 9, w ∈ Ts) (hown : s0.vm.findClass RX6 = some m.cls) (hK : va_K D vwCl (kt cI cV) s0) (hP : va_P D vwCl (modw cI b s pa he np ru t ty at_ rd) H) {idx : Nat} (hl : Cond.fieldLink RX6 idx "VillageLogModel" "runs" "Z" ∈ Ts) (hdg : decode cc pc = .ok (.getfield idx, 3)) (k : W p l e R s0 m args below meth c H locs cells slots Q (F0 m (pc + 3) ls (.int (iI ru) :: rest))) : W p l e R s0 m args below meth c H locs cells slots Q (F0 m pc ls (.ref (b 0) :: rest)) :=
  va_get (D := D) (ci := 6) (C := RX6) (T := TX6) (N := 9) hx hb hts hin hown hK hP 0 rfl rfl 4 (by decide) (hts _ hl) (fun _ h => h) rfl hdg k
theorem Mg5 (hx : p.tables.exec = Jvm.exec) (hb : c.code = cc) (hts : ∀ w ∈ Ts, w.before args s0 = true) (hin : ∀ w ∈ u_ws RX6 TX6 9, w ∈ Ts) (hown : s0.vm.findClass RX6 = some m.cls) (hK : va_K D vwCl (kt cI cV) s0) (hP : va_P D vwCl (modw cI b s pa he np ru t ty at_ rd) H) {idx : Nat} (hl : Cond.fieldLink RX6 idx "VillageLogModel" "text" "[I" ∈ Ts) (hdg : decode cc pc = .ok (.getfield idx, 3)) (k : W p l e R s0 m args below meth c H locs cells slots Q (F0 m (pc + 3) ls (.ref (b 4) :: rest))) : W p l e R s0 m args below meth c H locs cells slots Q (F0 m pc ls (.ref (b 0) :: rest)) :=
  va_get (D := D) (ci := 6) (C := RX6) (T := TX6) (N := 9) hx hb hts hin hown hK hP 0 rfl rfl 5 (by decide) (hts _ hl) (fun _ h => h) rfl hdg k
theorem Mg6 (hx : p.tables.exec = Jvm.exec) (hb : c.code = cc) (hts : ∀ w ∈ Ts, w.before args s0 = true) (hin : ∀ w ∈ u_ws RX6 TX6 9, w ∈ Ts) (hown : s0.vm.findClass RX6 = some m.cls) (hK : va_K D vwCl (kt cI cV) s0) (hP : va_P D vwCl (modw cI b s pa he np ru t ty at_ rd) H) {idx : Nat} (hl : Cond.fieldLink RX6 idx "VillageLogModel" "typed" "I" ∈ Ts) (hdg : decode cc pc = .ok (.getfield idx, 3)) (k : W p l e R s0 m args below meth c H locs cells slots Q (F0 m (pc + 3) ls (.int (iI ty) :: rest))) : W p l e R s0 m args below meth c H locs cells slots Q (F0 m pc ls (.ref (b 0) :: rest)) :=
  va_get (D := D) (ci := 6) (C := RX6) (T := TX6) (N := 9) hx hb hts hin hown hK hP 0 rfl rfl 6 (by decide) (hts _ hl) (fun _ h => h) rfl hdg k
theorem Mg7 (hx : p.tables.exec = Jvm.exec) (hb : c.code = cc) (hts : ∀ w ∈ Ts, w.before args s0 = true) (hin : ∀ w ∈ u_ws RX6 TX6 9, w ∈ Ts) (hown : s0.vm.findClass RX6 = some m.cls) (hK : va_K D vwCl (kt cI cV) s0) (hP : va_P D vwCl (modw cI b s pa he np ru t ty at_ rd) H) {idx : Nat} (hl : Cond.fieldLink RX6 idx "VillageLogModel" "at" "I" ∈ Ts) (hdg : decode cc pc = .ok (.getfield idx, 3)) (k : W p l e R s0 m args below meth c H locs cells slots Q (F0 m (pc + 3) ls (.int (iI at_) :: rest))) : W p l e R s0 m args below meth c H locs cells slots Q (F0 m pc ls (.ref (b 0) :: rest)) :=
  va_get (D := D) (ci := 6) (C := RX6) (T := TX6) (N := 9) hx hb hts hin hown hK hP 0 rfl rfl 7 (by decide) (hts _ hl) (fun _ h => h) rfl hdg k
theorem Mg8 (hx : p.tables.exec = Jvm.exec) (hb : c.code = cc) (hts : ∀ w ∈ Ts, w.before args s0 = true) (hin : ∀ w ∈ u_ws RX6 TX6 9, w ∈ Ts) (hown : s0.vm.findClass RX6 = some m.cls) (hK : va_K D vwCl (kt cI cV) s0) (hP : va_P D vwCl (modw cI b s pa he np ru t ty at_ rd) H) {idx : Nat} (hl : Cond.fieldLink RX6 idx "VillageLogModel" "read" "I" ∈ Ts) (hdg : decode cc pc = .ok (.getfield idx, 3)) (k : W p l e R s0 m args below meth c H locs cells slots Q (F0 m (pc + 3) ls (.int (iI rd) :: rest))) : W p l e R s0 m args below meth c H locs cells slots Q (F0 m pc ls (.ref (b 0) :: rest)) :=
  va_get (D := D) (ci := 6) (C := RX6) (T := TX6) (N := 9) hx hb hts hin hown hK hP 0 rfl rfl 8 (by decide) (hts _ hl) (fun _ h => h) rfl hdg k
theorem Mp3 (hx : p.tables.exec = Jvm.exec) (hb : c.code = cc) (hts : ∀ w ∈ Ts, w.before args s0 = true) (hin : ∀ w ∈ u_ws RX6 TX6 9, w ∈ Ts) (hown : s0.vm.findClass RX6 = some m.cls) (hK : va_K D vwCl (kt cI cV) s0) (hW : Wd D A (modw cI b s pa he np ru t ty at_ rd) H0 H locs) {idx : Nat} (hl : Cond.fieldLink RX6 idx "VillageLogModel" "pasts" "I" ∈ Ts) (hdg : decode cc pc = .ok (.putfield idx, 3)) {x : Int} (k : ∀ (H1 : Heap) (locs1 : List Loc), Wd D A (modw cI b s pa he x ru t ty at_ rd) H0 H1 locs1 → W p l e R s0 m args below meth c H1 locs1 cells slots Q (F0 m (pc + 3) ls (rest))) : W p l e R s0 m args below meth c H locs cells slots Q (F0 m pc ls (.int (iI x) :: .ref (b 0) :: rest)) :=
  va_put (D := D) (ci := 6) (v := .int (iI x)) (ty := .int) (C := RX6) (T := TX6) (N := 9) hx hb hts hin tyX6 tyX6_ok nmX6 hown hK hW.1 hW.2.1 hW.2.2 0 rfl rfl 3 (by decide) (hts _ hl) (fun _ h => h) rfl (by decide +kernel) rfl rfl (Nat.le_of_ble_eq_true rfl) hdg (fun H1 locs1 hP hD hS => k H1 locs1 ⟨(rfl : _ = modw cI b s pa he x ru t ty at_ rd) ▸ hP, (rfl : _ = modw cI b s pa he x ru t ty at_ rd) ▸ hD, hS⟩)
theorem Mp6 (hx : p.tables.exec = Jvm.exec) (hb : c.code = cc) (hts : ∀ w ∈ Ts, w.before args s0 = true) (hin : ∀ w ∈ u_ws RX6 TX6 9, w ∈ Ts) (hown : s0.vm.findClass RX6 = some m.cls) (hK : va_K D vwCl (kt cI cV) s0) (hW : Wd D A (modw cI b s pa he np ru t ty at_ rd) H0 H locs) {idx : Nat} (hl : Cond.fieldLink RX6 idx "VillageLogModel" "typed" "I" ∈ Ts) (hdg : decode cc pc = .ok (.putfield idx, 3)) {x : Int} (k : ∀ (H1 : Heap) (locs1 : List Loc), Wd D A (modw cI b s pa he np ru t x at_ rd) H0 H1 locs1 → W p l e R s0 m args below meth c H1 locs1 cells slots Q (F0 m (pc + 3) ls (rest))) : W p l e R s0 m args below meth c H locs cells slots Q (F0 m pc ls (.int (iI x) :: .ref (b 0) :: rest)) :=
  va_put (D := D) (ci := 6) (v := .int (iI x)) (ty := .int) (C := RX6) (T := TX6) (N := 9) hx hb hts hin tyX6 tyX6_ok nmX6 hown hK hW.1 hW.2.1 hW.2.2 0 rfl rfl 6 (by decide) (hts _ hl) (fun _ h => h) rfl (by decide +kernel) rfl rfl (Nat.le_of_ble_eq_true rfl) hdg (fun H1 locs1 hP hD hS => k H1 locs1 ⟨(rfl : _ = modw cI b s pa he np ru t x at_ rd) ▸ hP, (rfl : _ = modw cI b s pa he np ru t x at_ rd) ▸ hD, hS⟩)
theorem Mp7 (hx : p.tables.exec = Jvm.exec) (hb : c.code = cc) (hts : ∀ w ∈ Ts, w.before args s0 = true) (hin : ∀ w ∈ u_ws RX6 TX6 9, w ∈ Ts) (hown : s0.vm.findClass RX6 = some m.cls) (hK : va_K D vwCl (kt cI cV) s0) (hW : Wd D A (modw cI b s pa he np ru t ty at_ rd) H0 H locs) {idx : Nat} (hl : Cond.fieldLink RX6 idx "VillageLogModel" "at" "I" ∈ Ts) (hdg : decode cc pc = .ok (.putfield idx, 3)) {x : Int} (k : ∀ (H1 : Heap) (locs1 : List Loc), Wd D A (modw cI b s pa he np ru t ty x rd) H0 H1 locs1 → W p l e R s0 m args below meth c H1 locs1 cells slots Q (F0 m (pc + 3) ls (rest))) : W p l e R s0 m args below meth c H locs cells slots Q (F0 m pc ls (.int (iI x) :: .ref (b 0) :: rest)) :=
  va_put (D := D) (ci := 6) (v := .int (iI x)) (ty := .int) (C := RX6) (T := TX6) (N := 9) hx hb hts hin tyX6 tyX6_ok nmX6 hown hK hW.1 hW.2.1 hW.2.2 0 rfl rfl 7 (by decide) (hts _ hl) (fun _ h => h) rfl (by decide +kernel) rfl rfl (Nat.le_of_ble_eq_true rfl) hdg (fun H1 locs1 hP hD hS => k H1 locs1 ⟨(rfl : _ = modw cI b s pa he np ru t ty x rd) ▸ hP, (rfl : _ = modw cI b s pa he np ru t ty x rd) ▸ hD, hS⟩)
theorem Mp8 (hx : p.tables.exec = Jvm.exec) (hb : c.code = cc) (hts : ∀ w ∈ Ts, w.before args s0 = true) (hin : ∀ w ∈ u_ws RX6 TX6 9, w ∈ Ts) (hown : s0.vm.findClass RX6 = some m.cls) (hK : va_K D vwCl (kt cI cV) s0) (hW : Wd D A (modw cI b s pa he np ru t ty at_ rd) H0 H locs) {idx : Nat} (hl : Cond.fieldLink RX6 idx "VillageLogModel" "read" "I" ∈ Ts) (hdg : decode cc pc = .ok (.putfield idx, 3)) {x : Int} (k : ∀ (H1 : Heap) (locs1 : List Loc), Wd D A (modw cI b s pa he np ru t ty at_ x) H0 H1 locs1 → W p l e R s0 m args below meth c H1 locs1 cells slots Q (F0 m (pc + 3) ls (rest))) : W p l e R s0 m args below meth c H locs cells slots Q (F0 m pc ls (.int (iI x) :: .ref (b 0) :: rest)) :=
  va_put (D := D) (ci := 6) (v := .int (iI x)) (ty := .int) (C := RX6) (T := TX6) (N := 9) hx hb hts hin tyX6 tyX6_ok nmX6 hown hK hW.1 hW.2.1 hW.2.2 0 rfl rfl 8 (by decide) (hts _ hl) (fun _ h => h) rfl (by decide +kernel) rfl rfl (Nat.le_of_ble_eq_true rfl) hdg (fun H1 locs1 hP hD hS => k H1 locs1 ⟨(rfl : _ = modw cI b s pa he np ru t ty at_ x) ▸ hP, (rfl : _ = modw cI b s pa he np ru t ty at_ x) ▸ hD, hS⟩)
theorem Mp4 (hx : p.tables.exec = Jvm.exec) (hb : c.code = cc) (hts : ∀ w ∈ Ts, w.before args s0 = true) (hin : ∀ w ∈ u_ws RX6 TX6 9, w ∈ Ts) (hown : s0.vm.findClass RX6 = some m.cls) (hK : va_K D vwCl (kt cI cV) s0) (hW : Wd D A (modw cI b s pa he np ru t ty at_ rd) H0 H locs) {idx : Nat} (hl : Cond.fieldLink RX6 idx "VillageLogModel" "runs" "Z" ∈ Ts) (hdg : decode cc pc = .ok (.putfield idx, 3)) {x : Int} (hx01 : x = 0 ∨ x = 1) (k : ∀ (H1 : Heap) (locs1 : List Loc), Wd D A (modw cI b s pa he np x t ty at_ rd) H0 H1 locs1 → W p l e R s0 m args below meth c H1 locs1 cells slots Q (F0 m (pc + 3) ls (rest))) : W p l e R s0 m args below meth c H locs cells slots Q (F0 m pc ls (.int (iI x) :: .ref (b 0) :: rest)) :=
  va_put (D := D) (ci := 6) (v := .int (iI x)) (ty := .boolean) (C := RX6) (T := TX6) (N := 9) hx hb hts hin tyX6 tyX6_ok nmX6 hown hK hW.1 hW.2.1 hW.2.2 0 rfl rfl 4 (by decide) (hts _ hl) (fun _ h => h) rfl (by decide +kernel) (by rcases hx01 with h | h <;> subst h <;> decide +kernel) (by rcases hx01 with h | h <;> subst h <;> decide +kernel) (Nat.le_of_ble_eq_true rfl) hdg (fun H1 locs1 hP hD hS => k H1 locs1 ⟨hP, hD, hS⟩)
theorem Ma0 (hx : p.tables.exec = Jvm.exec) (hb : c.code = cc) (hK : va_K D vwCl (kt cI cV) s0) (hP : va_P D vwCl (modw cI b s pa he np ru t ty at_ rd) H) {i : Int} (hi : 0 ≤ i ∧ i < 522) (hdg : decode cc pc = .ok (.iaload, 1)) (k : W p l e R s0 m args below meth c H locs cells slots Q (F0 m (pc + 1) ls (.int (iI (s i.toNat)) :: rest))) : W p l e R s0 m args below meth c H locs cells slots Q (F0 m pc ls (.int (iI i) :: .ref (b 1) :: rest)) := by
  refine va_iald hx hb hK hP 1 0 rfl rfl (iI_in (n := 522) (by omega) (by omega)) hdg ?_
  rw [iI_clamp ⟨by omega, by omega⟩, cut_at (by omega)]
  exact k
theorem Ms0 (hx : p.tables.exec = Jvm.exec) (hb : c.code = cc) (hK : va_K D vwCl (kt cI cV) s0) (hW : Wd D A (modw cI b s pa he np ru t ty at_ rd) H0 H locs) {i x : Int} (hi : 0 ≤ i ∧ i < 522) (hdg : decode cc pc = .ok (.iastore, 1)) (k : ∀ (H1 : Heap) (locs1 : List Loc), Wd D A (modw cI b (up s i.toNat x) pa he np ru t ty at_ rd) H0 H1 locs1 → W p l e R s0 m args below meth c H1 locs1 cells slots Q (F0 m (pc + 1) ls (rest))) : W p l e R s0 m args below meth c H locs cells slots Q (F0 m pc ls (.int (iI x) :: .int (iI i) :: .ref (b 1) :: rest)) := by
  refine va_iast hx hb hK hW.1 hW.2.1 hW.2.2 1 0 (f := fun j => iI (cut 522 (s) j)) rfl rfl (iI_in (n := 522) (by omega) (by omega)) hdg (fun H1 locs1 hP hD hS => k H1 locs1 ?_)
  rw [iI_clamp ⟨by omega, by omega⟩, arI_upd (by omega)] at hP hD
  have hk : i.toNat < 522 := by omega
  exact ⟨hP, hD, hS⟩
theorem Ma1 (hx : p.tables.exec = Jvm.exec) (hb : c.code = cc) (hK : va_K D vwCl (kt cI cV) s0) (hP : va_P D vwCl (modw cI b s pa he np ru t ty at_ rd) H) {i : Int} (hi : 0 ≤ i ∧ i < 2610) (hdg : decode cc pc = .ok (.iaload, 1)) (k : W p l e R s0 m args below meth c H locs cells slots Q (F0 m (pc + 1) ls (.int (iI (pa i.toNat)) :: rest))) : W p l e R s0 m args below meth c H locs cells slots Q (F0 m pc ls (.int (iI i) :: .ref (b 2) :: rest)) := by
  refine va_iald hx hb hK hP 2 0 rfl rfl (iI_in (n := 2610) (by omega) (by omega)) hdg ?_
  rw [iI_clamp ⟨by omega, by omega⟩, cut_at (by omega)]
  exact k
theorem Ms1 (hx : p.tables.exec = Jvm.exec) (hb : c.code = cc) (hK : va_K D vwCl (kt cI cV) s0) (hW : Wd D A (modw cI b s pa he np ru t ty at_ rd) H0 H locs) {i x : Int} (hi : 0 ≤ i ∧ i < 2610) (hdg : decode cc pc = .ok (.iastore, 1)) (k : ∀ (H1 : Heap) (locs1 : List Loc), Wd D A (modw cI b s (up pa i.toNat x) he np ru t ty at_ rd) H0 H1 locs1 → W p l e R s0 m args below meth c H1 locs1 cells slots Q (F0 m (pc + 1) ls (rest))) : W p l e R s0 m args below meth c H locs cells slots Q (F0 m pc ls (.int (iI x) :: .int (iI i) :: .ref (b 2) :: rest)) := by
  refine va_iast hx hb hK hW.1 hW.2.1 hW.2.2 2 0 (f := fun j => iI (cut 2610 (pa) j)) rfl rfl (iI_in (n := 2610) (by omega) (by omega)) hdg (fun H1 locs1 hP hD hS => k H1 locs1 ?_)
  rw [iI_clamp ⟨by omega, by omega⟩, arI_upd (by omega)] at hP hD
  have hk : i.toNat < 2610 := by omega
  exact ⟨hP, hD, hS⟩
theorem Ma2 (hx : p.tables.exec = Jvm.exec) (hb : c.code = cc) (hK : va_K D vwCl (kt cI cV) s0) (hP : va_P D vwCl (modw cI b s pa he np ru t ty at_ rd) H) {i : Int} (hi : 0 ≤ i ∧ i < 522) (hdg : decode cc pc = .ok (.iaload, 1)) (k : W p l e R s0 m args below meth c H locs cells slots Q (F0 m (pc + 1) ls (.int (iI (he i.toNat)) :: rest))) : W p l e R s0 m args below meth c H locs cells slots Q (F0 m pc ls (.int (iI i) :: .ref (b 3) :: rest)) := by
  refine va_iald hx hb hK hP 3 0 rfl rfl (iI_in (n := 522) (by omega) (by omega)) hdg ?_
  rw [iI_clamp ⟨by omega, by omega⟩, cut_at (by omega)]
  exact k
theorem Ms2 (hx : p.tables.exec = Jvm.exec) (hb : c.code = cc) (hK : va_K D vwCl (kt cI cV) s0) (hW : Wd D A (modw cI b s pa he np ru t ty at_ rd) H0 H locs) {i x : Int} (hi : 0 ≤ i ∧ i < 522) (hdg : decode cc pc = .ok (.iastore, 1)) (k : ∀ (H1 : Heap) (locs1 : List Loc), Wd D A (modw cI b s pa (up he i.toNat x) np ru t ty at_ rd) H0 H1 locs1 → W p l e R s0 m args below meth c H1 locs1 cells slots Q (F0 m (pc + 1) ls (rest))) : W p l e R s0 m args below meth c H locs cells slots Q (F0 m pc ls (.int (iI x) :: .int (iI i) :: .ref (b 3) :: rest)) := by
  refine va_iast hx hb hK hW.1 hW.2.1 hW.2.2 3 0 (f := fun j => iI (cut 522 (he) j)) rfl rfl (iI_in (n := 522) (by omega) (by omega)) hdg (fun H1 locs1 hP hD hS => k H1 locs1 ?_)
  rw [iI_clamp ⟨by omega, by omega⟩, arI_upd (by omega)] at hP hD
  have hk : i.toNat < 522 := by omega
  exact ⟨hP, hD, hS⟩
theorem Ma3 (hx : p.tables.exec = Jvm.exec) (hb : c.code = cc) (hK : va_K D vwCl (kt cI cV) s0) (hP : va_P D vwCl (modw cI b s pa he np ru t ty at_ rd) H) {i : Int} (hi : 0 ≤ i ∧ i < 60) (hdg : decode cc pc = .ok (.iaload, 1)) (k : W p l e R s0 m args below meth c H locs cells slots Q (F0 m (pc + 1) ls (.int (iI (t i.toNat)) :: rest))) : W p l e R s0 m args below meth c H locs cells slots Q (F0 m pc ls (.int (iI i) :: .ref (b 4) :: rest)) := by
  refine va_iald hx hb hK hP 4 0 rfl rfl (iI_in (n := 60) (by omega) (by omega)) hdg ?_
  rw [iI_clamp ⟨by omega, by omega⟩, cut_at (by omega)]
  exact k
theorem Ms3 (hx : p.tables.exec = Jvm.exec) (hb : c.code = cc) (hK : va_K D vwCl (kt cI cV) s0) (hW : Wd D A (modw cI b s pa he np ru t ty at_ rd) H0 H locs) {i x : Int} (hi : 0 ≤ i ∧ i < 60) (hdg : decode cc pc = .ok (.iastore, 1)) (k : ∀ (H1 : Heap) (locs1 : List Loc), Wd D A (modw cI b s pa he np ru (up t i.toNat x) ty at_ rd) H0 H1 locs1 → W p l e R s0 m args below meth c H1 locs1 cells slots Q (F0 m (pc + 1) ls (rest))) : W p l e R s0 m args below meth c H locs cells slots Q (F0 m pc ls (.int (iI x) :: .int (iI i) :: .ref (b 4) :: rest)) := by
  refine va_iast hx hb hK hW.1 hW.2.1 hW.2.2 4 0 (f := fun j => iI (cut 60 (t) j)) rfl rfl (iI_in (n := 60) (by omega) (by omega)) hdg (fun H1 locs1 hP hD hS => k H1 locs1 ?_)
  rw [iI_clamp ⟨by omega, by omega⟩, arI_upd (by omega)] at hP hD
  have hk : i.toNat < 60 := by omega
  exact ⟨hP, hD, hS⟩
theorem Hg0 (hx : p.tables.exec = Jvm.exec) (hb : c.code = cc) (hts : ∀ w ∈ Ts, w.before args s0 = true) (hin : ∀ w ∈ u_ws RX1 TX1 3, w ∈ Ts) (hown : s0.vm.findClass RX1 = some m.cls) (hK : va_K D vwCl (kt cI cV) s0) (hP : va_P D vwCl (hisw cV o r rows fr n) H) {idx : Nat} (hl : Cond.fieldLink RX1 idx "VillageLog$History" "rows" "[LVillageLog$Village;" ∈ Ts) (hdg : decode cc pc = .ok (.getfield idx, 3)) (k : W p l e R s0 m args below meth c H locs cells slots Q (F0 m (pc + 3) ls (.ref r :: rest))) : W p l e R s0 m args below meth c H locs cells slots Q (F0 m pc ls (.ref (o) :: rest)) :=
  va_get (D := D) (ci := 1) (C := RX1) (T := TX1) (N := 3) hx hb hts hin hown hK hP 0 rfl rfl 0 (by decide) (hts _ hl) (fun _ h => h) rfl hdg k
theorem Hg1 (hx : p.tables.exec = Jvm.exec) (hb : c.code = cc) (hts : ∀ w ∈ Ts, w.before args s0 = true) (hin : ∀ w ∈ u_ws RX1 TX1 3, w ∈ Ts) (hown : s0.vm.findClass RX1 = some m.cls) (hK : va_K D vwCl (kt cI cV) s0) (hP : va_P D vwCl (hisw cV o r rows fr n) H) {idx : Nat} (hl : Cond.fieldLink RX1 idx "VillageLog$History" "free" "I" ∈ Ts) (hdg : decode cc pc = .ok (.getfield idx, 3)) (k : W p l e R s0 m args below meth c H locs cells slots Q (F0 m (pc + 3) ls (.int (iI fr) :: rest))) : W p l e R s0 m args below meth c H locs cells slots Q (F0 m pc ls (.ref (o) :: rest)) :=
  va_get (D := D) (ci := 1) (C := RX1) (T := TX1) (N := 3) hx hb hts hin hown hK hP 0 rfl rfl 1 (by decide) (hts _ hl) (fun _ h => h) rfl hdg k
theorem Hg2 (hx : p.tables.exec = Jvm.exec) (hb : c.code = cc) (hts : ∀ w ∈ Ts, w.before args s0 = true) (hin : ∀ w ∈ u_ws RX1 TX1 3, w ∈ Ts) (hown : s0.vm.findClass RX1 = some m.cls) (hK : va_K D vwCl (kt cI cV) s0) (hP : va_P D vwCl (hisw cV o r rows fr n) H) {idx : Nat} (hl : Cond.fieldLink RX1 idx "VillageLog$History" "length" "I" ∈ Ts) (hdg : decode cc pc = .ok (.getfield idx, 3)) (k : W p l e R s0 m args below meth c H locs cells slots Q (F0 m (pc + 3) ls (.int (iI n) :: rest))) : W p l e R s0 m args below meth c H locs cells slots Q (F0 m pc ls (.ref (o) :: rest)) :=
  va_get (D := D) (ci := 1) (C := RX1) (T := TX1) (N := 3) hx hb hts hin hown hK hP 0 rfl rfl 2 (by decide) (hts _ hl) (fun _ h => h) rfl hdg k
theorem Hp1 (hx : p.tables.exec = Jvm.exec) (hb : c.code = cc) (hts : ∀ w ∈ Ts, w.before args s0 = true) (hin : ∀ w ∈ u_ws RX1 TX1 3, w ∈ Ts) (hown : s0.vm.findClass RX1 = some m.cls) (hK : va_K D vwCl (kt cI cV) s0) (hW : Wd D A (hisw cV o r rows fr n) H0 H locs) {idx : Nat} (hl : Cond.fieldLink RX1 idx "VillageLog$History" "free" "I" ∈ Ts) (hdg : decode cc pc = .ok (.putfield idx, 3)) {x : Int} (k : ∀ (H1 : Heap) (locs1 : List Loc), Wd D A (hisw cV o r rows x n) H0 H1 locs1 → W p l e R s0 m args below meth c H1 locs1 cells slots Q (F0 m (pc + 3) ls (rest))) : W p l e R s0 m args below meth c H locs cells slots Q (F0 m pc ls (.int (iI x) :: .ref (o) :: rest)) :=
  va_put (D := D) (ci := 1) (v := .int (iI x)) (ty := .int) (C := RX1) (T := TX1) (N := 3) hx hb hts hin tyX1 tyX1_ok nmX1 hown hK hW.1 hW.2.1 hW.2.2 0 rfl rfl 1 (by decide) (hts _ hl) (fun _ h => h) rfl (by decide +kernel) rfl rfl (Nat.le_of_ble_eq_true rfl) hdg (fun H1 locs1 hP hD hS => k H1 locs1 ⟨(rfl : _ = hisw cV o r rows x n) ▸ hP, (rfl : _ = hisw cV o r rows x n) ▸ hD, hS⟩)
theorem Hp2 (hx : p.tables.exec = Jvm.exec) (hb : c.code = cc) (hts : ∀ w ∈ Ts, w.before args s0 = true) (hin : ∀ w ∈ u_ws RX1 TX1 3, w ∈ Ts) (hown : s0.vm.findClass RX1 = some m.cls) (hK : va_K D vwCl (kt cI cV) s0) (hW : Wd D A (hisw cV o r rows fr n) H0 H locs) {idx : Nat} (hl : Cond.fieldLink RX1 idx "VillageLog$History" "length" "I" ∈ Ts) (hdg : decode cc pc = .ok (.putfield idx, 3)) {x : Int} (k : ∀ (H1 : Heap) (locs1 : List Loc), Wd D A (hisw cV o r rows fr x) H0 H1 locs1 → W p l e R s0 m args below meth c H1 locs1 cells slots Q (F0 m (pc + 3) ls (rest))) : W p l e R s0 m args below meth c H locs cells slots Q (F0 m pc ls (.int (iI x) :: .ref (o) :: rest)) :=
  va_put (D := D) (ci := 1) (v := .int (iI x)) (ty := .int) (C := RX1) (T := TX1) (N := 3) hx hb hts hin tyX1 tyX1_ok nmX1 hown hK hW.1 hW.2.1 hW.2.2 0 rfl rfl 2 (by decide) (hts _ hl) (fun _ h => h) rfl (by decide +kernel) rfl rfl (Nat.le_of_ble_eq_true rfl) hdg (fun H1 locs1 hP hD hS => k H1 locs1 ⟨(rfl : _ = hisw cV o r rows fr x) ▸ hP, (rfl : _ = hisw cV o r rows fr x) ▸ hD, hS⟩)
theorem Ha (hx : p.tables.exec = Jvm.exec) (hb : c.code = cc) (hK : va_K D vwCl (kt cI cV) s0) (hP : va_P D vwCl (hisw cV o r rows fr n) H) {i : Int} (hi : 0 ≤ i ∧ i < 6) (hdg : decode cc pc = .ok (.aaload, 1)) (k : W p l e R s0 m args below meth c H locs cells slots Q (F0 m (pc + 1) ls (.ref (rows i.toNat) :: rest))) : W p l e R s0 m args below meth c H locs cells slots Q (F0 m pc ls (.int (iI i) :: .ref r :: rest)) := by
  refine va_aldq hx hb hK hP 1 1 rfl rfl (iI_in (n := 6) (by omega) (by omega)) hdg ?_
  rw [iI_clamp ⟨by omega, by omega⟩]
  exact k
end WB
end
section
/-! contracts: PM reads only; MM changes the world that it is given, and makes nothing -/
def pQ (v : Option Value) : Array Value → State → Outcome → State → Prop := fun _ st oc t => oc = .returned v ∧ t.heap = st.heap
abbrev rmK (f k : Nat) : Room := { frames := f, cells := 0, slots := 0, locals := k }
def PM (l : Launch) (y : MethodName) (ws : List Cond) (f k : Nat) (av : List Value) (w : va_W) (D : va_G) (cI cV : ClassId) (v : Option Value) : Prop := Met l y ws (rmK f k) (va_Pc av (fun U => va_P D vwCl w U.heap ∧ va_K D vwCl (kt cI cV) U)) (pQ v) 0 0 (fun _ => False)
def ad (w : va_W) : Nat → Prop := fun q => q ∈ w.map Prod.fst
def mQ (D : va_G) (v : Option Value) (w : va_W) (A : Nat → Prop) : Array Value → State → Outcome → State → Prop := fun _ st oc t => (oc = .returned v ∧ va_P D vwCl w t.heap) ∧ va_F A st t
def MM (l : Launch) (y : MethodName) (ws : List Cond) (f k : Nat) (av : List Value) (w w' : va_W) (D : va_G) (cI cV : ClassId) (v : Option Value) : Prop := Met l y ws (rmK f k) (va_Pc av (fun U => va_P D vwCl w U.heap ∧ va_D (fun _ => True) w ∧ va_K D vwCl (kt cI cV) U)) (mQ D v w' (ad w)) 0 0 (ad w)
theorem PM.of {l : Launch} {y : MethodName} {ws ws' : List Cond} {f k : Nat} {av : List Value} {w : va_W} {D : va_G} {cI cV : ClassId} {v : Option Value} {cc : ByteArray} {maxL : Nat} {ret : Option FieldType} (hy : plainName y.cls = true) (hw : ws = Cond.code y cc maxL ret :: ws') (hn : (lg_sl av).length ≤ maxL)
    (body : ∀ (p : Program) (e : Env) (s0 : State) (m : MethodId) (below : List Frame) (meth : Method) (c : Code) (ls : Array Slot), p.tables.exec = Jvm.exec → c.code = cc → meth.sig.returnType = ret → (∀ w ∈ ws, w.before av.toArray s0 = true) → s0.vm.findClass y.cls = some m.cls → meth.locks = false → c.maxLocals = maxL → va_P D vwCl w s0.heap → va_K D vwCl (kt cI cV) s0 → lv_has ls maxL (lv_args 0 av) →
      W p l e (headSpec ws (rmK f k)).room s0 m av.toArray below meth c s0.heap [] 0 0 (MQ below (pQ v) av.toArray s0 0 0 (fun _ => False)) (F0 m 0 ls [])) : PM l y ws f k av w D cI cV v := by
  refine Met.ofW (cc := cc) (maxL := maxL) (ret := ret) hy hw ?_
  intro p e s m args below meth c s₁ B hml hv
  obtain ⟨rfl, hP, hK⟩ := hv
  rw [lg_entry_eq]
  exact body p e s m below meth c _ B.exec B.bytes B.returns (atoms_spec (ws := ws) B.pre) (findClass_of_methodNamed B.named) B.notSynchronized hml hP hK (lv_entry av hn)
theorem MM.of {l : Launch} {y : MethodName} {ws ws' : List Cond} {f k : Nat} {av : List Value} {w w' : va_W} {D : va_G} {cI cV : ClassId} {v : Option Value} {cc : ByteArray} {maxL : Nat} {ret : Option FieldType} (hy : plainName y.cls = true) (hw : ws = Cond.code y cc maxL ret :: ws') (hn : (lg_sl av).length ≤ maxL)
    (body : ∀ (p : Program) (e : Env) (s0 : State) (m : MethodId) (below : List Frame) (meth : Method) (c : Code) (ls : Array Slot), p.tables.exec = Jvm.exec → c.code = cc → meth.sig.returnType = ret → (∀ w ∈ ws, w.before av.toArray s0 = true) → s0.vm.findClass y.cls = some m.cls → meth.locks = false → c.maxLocals = maxL → Wd D (ad w) w s0.heap s0.heap [] → va_K D vwCl (kt cI cV) s0 → lv_has ls maxL (lv_args 0 av) →
      W p l e (headSpec ws (rmK f k)).room s0 m av.toArray below meth c s0.heap [] 0 0 (MQ below (mQ D v w' (ad w)) av.toArray s0 0 0 (ad w)) (F0 m 0 ls [])) : MM l y ws f k av w w' D cI cV v := by
  refine Met.ofW (cc := cc) (maxL := maxL) (ret := ret) hy hw ?_
  intro p e s m args below meth c s₁ B hml hv
  obtain ⟨rfl, hP, hD, hK⟩ := hv
  rw [lg_entry_eq]
  exact body p e s m below meth c _ B.exec B.bytes B.returns (atoms_spec (ws := ws) B.pre) (findClass_of_methodNamed B.named) B.notSynchronized hml ⟨hP, ⟨hD.1, fun k q hq => List.mem_map_of_mem (List.mem_of_getElem? hq)⟩, va_S.rf⟩ hK (lv_entry av hn)
theorem Wd.frame {D : va_G} {A : Nat → Prop} {pre wc wc' post : va_W} {H0 H H1 : Heap} {locs locs1 : List Loc} (h : Wd D A (pre ++ (wc ++ post)) H0 H locs) (hf : wc'.map Prod.fst = wc.map Prod.fst) (hP1 : va_P D vwCl wc' H1) (hk : ∀ q : Nat, q < H.size → ¬ ad wc q → H1[q]? = H[q]?) (hS : va_S A H0 H1 locs1) : Wd D A (pre ++ (wc' ++ post)) H0 H1 locs1 := by
  obtain ⟨hP, hD, -⟩ := h
  have hlen : wc'.length = wc.length := by simpa using congrArg List.length hf
  have keep : ∀ (k : Nat) (q : Nat × va_E), (pre ++ (wc ++ post))[k]? = some q → (k < pre.length ∨ pre.length + wc.length ≤ k) → va_at D vwCl q H1 := by
    intro k q hq hkk
    have ha := hP k q hq
    refine ha.kept (hk q.1 ha.lt (fun hin => ?_))
    obtain ⟨q', hq', he⟩ := List.mem_map.mp hin
    obtain ⟨i, hi⟩ := List.getElem?_of_mem hq'
    have hil := (List.getElem?_eq_some_iff.mp hi).1
    have h2 : (pre ++ (wc ++ post))[pre.length + i]? = some q' := by
      rw [List.getElem?_append_right (by omega), Nat.add_sub_cancel_left, List.getElem?_append_left hil]
      exact hi
    have := hD.1 _ _ _ _ hq h2 he.symm
    omega
  refine ⟨fun k q hq => ?_, ⟨fun i j p q hi hj hpq => ?_, fun k q hq => ?_⟩, hS⟩
  · by_cases h1 : k < pre.length
    · rw [List.getElem?_append_left h1] at hq
      exact keep k q (by rw [List.getElem?_append_left h1]; exact hq) (Or.inl h1)
    · rw [List.getElem?_append_right (by omega)] at hq
      by_cases h2 : k - pre.length < wc.length
      · rw [List.getElem?_append_left (by omega)] at hq
        exact hP1 _ q hq
      · rw [List.getElem?_append_right (by omega), hlen] at hq
        exact keep k q (by rw [List.getElem?_append_right (by omega), List.getElem?_append_right (by omega)]; exact hq) (Or.inr (by omega))
  all_goals
    have hm : (pre ++ (wc' ++ post)).map Prod.fst = (pre ++ (wc ++ post)).map Prod.fst := by simp [hf]
    have fst_at : ∀ (k : Nat) (q : Nat × va_E), (pre ++ (wc' ++ post))[k]? = some q → ∃ q', (pre ++ (wc ++ post))[k]? = some q' ∧ q'.1 = q.1 := by
      intro k q hq
      have h3 : ((pre ++ (wc' ++ post)).map Prod.fst)[k]? = some q.1 := by rw [List.getElem?_map, hq]; rfl
      rw [hm, List.getElem?_map] at h3
      cases hz : (pre ++ (wc ++ post))[k]? with
      | none => rw [hz] at h3; cases h3
      | some q' => rw [hz] at h3; exact ⟨q', rfl, Option.some.inj h3⟩
  · obtain ⟨p', a1, a2⟩ := fst_at i p hi
    obtain ⟨q', b1, b2⟩ := fst_at j q hj
    exact hD.1 i j p' q' a1 b1 (by rw [a2, b2, hpq])
  · obtain ⟨q', a1, a2⟩ := fst_at k q hq
    exact a2 ▸ hD.2 k q' a1
theorem va_P.mid {D : va_G} {pre wc post : va_W} {H : Heap} (h : va_P D vwCl (pre ++ (wc ++ post)) H) : va_P D vwCl wc H := by
  intro k q hq
  have hk := (List.getElem?_eq_some_iff.mp hq).1
  exact h (pre.length + k) q (by rw [List.getElem?_append_right (by omega), Nat.add_sub_cancel_left, List.getElem?_append_left hk]; exact hq)
theorem va_D.mid {A : Nat → Prop} {pre wc post : va_W} (h : va_D A (pre ++ (wc ++ post))) : va_D A wc := by
  have sh : ∀ (k : Nat) (q : Nat × va_E), wc[k]? = some q → (pre ++ (wc ++ post))[pre.length + k]? = some q := by
    intro k q hq
    have hk := (List.getElem?_eq_some_iff.mp hq).1
    rw [List.getElem?_append_right (by omega), Nat.add_sub_cancel_left, List.getElem?_append_left hk]
    exact hq
  refine ⟨fun i j p q hi hj hpq => ?_, fun k q hq => h.2 _ q (sh k q hq)⟩
  have := h.1 _ _ p q (sh i p hi) (sh j q hj) hpq
  omega
section CO
variable {p : Program} {l : Launch} {e : Env} {R : Room} {s0 : State} {m : MethodId} {args : Array Value} {below : List Frame} {meth : Method} {c : Code} {H H0 : Heap} {locs : List Loc} {cells slots : Nat} {Q : State → Prop} {D : va_G} {cI cV : ClassId} {Ts : List Cond} {A : Nat → Prop}
variable {cc : ByteArray} {pc : Nat} {ls : Array Slot} {rest : List Value}
theorem p_iret (hx : p.tables.exec = Jvm.exec) (hb : c.code = cc) (hr : meth.sig.returnType = some .int) (hlocks : meth.locks = false) {a b : Int} (he : a = b) (hdg : decode cc pc = .ok (.ireturn, 1)) : W p l e R s0 m args below meth c s0.heap [] 0 0 (MQ below (pQ (some (.int (iI b)))) args s0 0 0 (fun _ => False)) (F0 m pc ls [.int (iI a)]) := by
  subst he
  exact W.iret hx hb hr (fun t ht hW => ⟨rfl, ht⟩) (fun _ h => by cases h) hdg hlocks
theorem p_zret (hx : p.tables.exec = Jvm.exec) (hb : c.code = cc) (hr : meth.sig.returnType = some .boolean) (hlocks : meth.locks = false) {a b : Int} (h01 : a = 0 ∨ a = 1) (he : a = b) (hdg : decode cc pc = .ok (.ireturn, 1)) : W p l e R s0 m args below meth c s0.heap [] 0 0 (MQ below (pQ (some (.int (iI b)))) args s0 0 0 (fun _ => False)) (F0 m pc ls [.int (iI a)]) := by
  subst he
  exact W.zret hx hb hr (by rcases h01 with h | h <;> subst h <;> decide +kernel) (fun t ht hW => ⟨rfl, ht⟩) (fun _ h => by cases h) hdg hlocks
theorem m_iret {w w2 w' : va_W} (hx : p.tables.exec = Jvm.exec) (hb : c.code = cc) (hr : meth.sig.returnType = some .int) (hlocks : meth.locks = false) (hW : Wd D (ad w) w2 s0.heap H locs) (hw : w2 = w') {a b : Int} (he : a = b) (hdg : decode cc pc = .ok (.ireturn, 1)) : W p l e R s0 m args below meth c H locs 0 0 (MQ below (mQ D (some (.int (iI b))) w' (ad w)) args s0 0 0 (ad w)) (F0 m pc ls [.int (iI a)]) := by
  subst he
  subst hw
  exact W.iret hx hb hr (fun t ht hWm => ⟨⟨rfl, ht ▸ hW.1⟩, hW.2.2.F ht⟩) hW.2.2.2.2 hdg hlocks
theorem m_zret {w w2 w' : va_W} (hx : p.tables.exec = Jvm.exec) (hb : c.code = cc) (hr : meth.sig.returnType = some .boolean) (hlocks : meth.locks = false) (hW : Wd D (ad w) w2 s0.heap H locs) (hw : w2 = w') {a b : Int} (h01 : a = 0 ∨ a = 1) (he : a = b) (hdg : decode cc pc = .ok (.ireturn, 1)) : W p l e R s0 m args below meth c H locs 0 0 (MQ below (mQ D (some (.int (iI b))) w' (ad w)) args s0 0 0 (ad w)) (F0 m pc ls [.int (iI a)]) := by
  subst he
  subst hw
  exact W.zret hx hb hr (by rcases h01 with h | h <;> subst h <;> decide +kernel) (fun t ht hWm => ⟨⟨rfl, ht ▸ hW.1⟩, hW.2.2.F ht⟩) hW.2.2.2.2 hdg hlocks
theorem m_vret {w w2 w' : va_W} (hx : p.tables.exec = Jvm.exec) (hb : c.code = cc) (hr : meth.sig.returnType = none) (hlocks : meth.locks = false) (hW : Wd D (ad w) w2 s0.heap H locs) (hw : w2 = w') (hdg : decode cc pc = .ok (.return_, 1)) : W p l e R s0 m args below meth c H locs 0 0 (MQ below (mQ D none w' (ad w)) args s0 0 0 (ad w)) (F0 m pc ls []) := by
  subst hw
  exact W.vret hx hb hr (fun t ht hWm => ⟨⟨rfl, ht ▸ hW.1⟩, hW.2.2.F ht⟩) hW.2.2.2.2 hdg hlocks
theorem pc_blind {av : List Value} {w : va_W} : FrameBlind (va_Pc av (fun U => va_P D vwCl w U.heap ∧ va_K D vwCl (kt cI cV) U)) := fun a U g mk q => by
  obtain ⟨q0, qP, qK⟩ := q
  exact ⟨q0, qP, va_K.moved (u := U) (U := U.calling g mk a) (Vm.Alike.refl U.vm) qK⟩
theorem mc_blind {av : List Value} {w : va_W} : FrameBlind (va_Pc av (fun U => va_P D vwCl w U.heap ∧ va_D (fun _ => True) w ∧ va_K D vwCl (kt cI cV) U)) := fun a U g mk q => by
  obtain ⟨q0, qP, qD, qK⟩ := q
  exact ⟨q0, qP, qD, va_K.moved (u := U) (U := U.calling g mk a) (Vm.Alike.refl U.vm) qK⟩
theorem p_callV {y : MethodName} {wy wy' : List Cond} {f k n index nL maxL : Nat} {As st : List Value} {v : Value} {bytes : ByteArray} {ret : Option FieldType} {own : String} {w : va_W} {ci b : Nat} {q : vw_C} {fs : List Value} (S : CallFix p m c cc nL s0 args Ts own) (hK : va_K D vwCl (kt cI cV) s0) (hM : PM l y wy f k (.ref b :: As) w D cI cV (some v)) (hP : va_P D vwCl w H) (hc : vwCl[ci]? = some q) (he : w[0]? = some (b, .inr (ci, fs)))
    (hG : GoodIn Ts (wsV own index q.1 y wy)) (hw : wy = .code y bytes maxL ret :: wy') (hd : y.cls = q.1 ∧ y.cls ≠ "java/lang/invoke/MethodHandle" ∧ y.cls ≠ "java/lang/invoke/VarHandle" ∧ (parseMethodDescriptor y.desc).map (fun d => d.parameters.length) = some n) (hR : f + 1 ≤ R.frames ∧ 8 + (maxL + 11) + k ≤ R.locals) (hn : As.length = n) (hsz : ls.size = nL) (hcat : (rest.map fun v => v.category).sum ≤ 8) (hdg : decode cc pc = .ok (.invokevirtual index, 3)) (hcs : cells ≤ R.cells ∧ slots ≤ R.slots) (hst : st = As.reverse ++ .ref b :: rest)
    (kk : W p l e R s0 m args below meth c H locs cells slots Q (F0 m (pc + 3) ls (v :: rest))) : W p l e R s0 m args below meth c H locs cells slots Q (F0 m pc ls st) := by
  intro T hT X
  obtain ⟨v', st₀, t, T', L, h0, X', hL, e1, e2, ⟨hv, hh⟩, st⟩ := va_runV (g := F0 m pc ls st) (rest := rest) S hM (cwV n S.2.2.2.2 hG hw rfl rfl hd hR) ⟨pc_blind, va_recv hK hP hc he, fun U hU hWm => ⟨rfl, by rw [hU]; exact hP, hK.moved hWm.alike⟩⟩ rfl hn hsz hst (lv_room (pc := pc) (ls := ls) (rest := st) hcat) hdg hcs T hT X
  cases hv
  obtain ⟨t2, a1, b1⟩ := kk T' (by rw [e1, hh, h0]) (Stand.forget X' (fun q h => (hL q h).elim))
  exact ⟨t2, st t2 a1, b1⟩
theorem p_callS {y : MethodName} {wy wy' : List Cond} {f k n index nL maxL : Nat} {As st : List Value} {v : Value} {bytes : ByteArray} {ret : Option FieldType} {own : String} {w : va_W} (S : CallFix p m c cc nL s0 args Ts own) (hK : va_K D vwCl (kt cI cV) s0) (hM : PM l y wy f k As w D cI cV (some v)) (hP : va_P D vwCl w H)
    (hG : GoodIn Ts (va_wsS own index y wy)) (hw : wy = .code y bytes maxL ret :: wy') (hd : y.cls ≠ "java/lang/invoke/MethodHandle" ∧ y.cls ≠ "java/lang/invoke/VarHandle" ∧ (parseMethodDescriptor y.desc).map (fun d => d.parameters.length) = some n) (hR : f + 1 ≤ R.frames ∧ 8 + (maxL + 11) + k ≤ R.locals) (hn : As.length = n) (hsz : ls.size = nL) (hcat : (rest.map fun v => v.category).sum ≤ 8) (hdg : decode cc pc = .ok (.invokestatic index, 3)) (hcs : cells ≤ R.cells ∧ slots ≤ R.slots) (hst : st = As.reverse ++ rest)
    (kk : W p l e R s0 m args below meth c H locs cells slots Q (F0 m (pc + 3) ls (v :: rest))) : W p l e R s0 m args below meth c H locs cells slots Q (F0 m pc ls st) := by
  intro T hT X
  obtain ⟨v', st₀, t, T', L, h0, X', hL, e1, e2, ⟨hv, hh⟩, st⟩ := va_runS (g := F0 m pc ls st) (rest := rest) S hM (va_cwS n S.2.2.2.2 hG hw rfl rfl hd hR) ⟨pc_blind, fun U hU hWm => ⟨rfl, by rw [hU]; exact hP, hK.moved hWm.alike⟩⟩ rfl hn hsz hst (lv_room (pc := pc) (ls := ls) (rest := st) hcat) hdg hcs T hT X
  cases hv
  obtain ⟨t2, a1, b1⟩ := kk T' (by rw [e1, hh, h0]) (Stand.forget X' (fun q h => (hL q h).elim))
  exact ⟨t2, st t2 a1, b1⟩
theorem m_callV {y : MethodName} {wy wy' : List Cond} {f k n index nL maxL : Nat} {As st st2 : List Value} {v : Option Value} {bytes : ByteArray} {ret : Option FieldType} {own : String} {w w2 pre post wc wc' : va_W} {ci b : Nat} {q : vw_C} {fs : List Value} (S : CallFix p m c cc nL s0 args Ts own) (hK : va_K D vwCl (kt cI cV) s0) (hW : Wd D A w H0 H locs) (hM : MM l y wy f k (.ref b :: As) wc wc' D cI cV v) (hw1 : w = pre ++ (wc ++ post)) (hw2 : pre ++ (wc' ++ post) = w2) (hf : wc'.map Prod.fst = wc.map Prod.fst) (hc : vwCl[ci]? = some q) (he : wc[0]? = some (b, .inr (ci, fs)))
    (hG : GoodIn Ts (wsV own index q.1 y wy)) (hw : wy = .code y bytes maxL ret :: wy') (hd : y.cls = q.1 ∧ y.cls ≠ "java/lang/invoke/MethodHandle" ∧ y.cls ≠ "java/lang/invoke/VarHandle" ∧ (parseMethodDescriptor y.desc).map (fun d => d.parameters.length) = some n) (hR : f + 1 ≤ R.frames ∧ 8 + (maxL + 11) + k ≤ R.locals) (hn : As.length = n) (hsz : ls.size = nL) (hcat : (rest.map fun v => v.category).sum ≤ 8) (hdg : decode cc pc = .ok (.invokevirtual index, 3)) (hcs : cells ≤ R.cells ∧ slots ≤ R.slots) (hst : st = As.reverse ++ .ref b :: rest) (hst2 : v.toList ++ rest = st2)
    (kk : ∀ (H1 : Heap) (locs1 : List Loc), Wd D A w2 H0 H1 locs1 → W p l e R s0 m args below meth c H1 locs1 cells slots Q (F0 m (pc + 3) ls st2)) : W p l e R s0 m args below meth c H locs cells slots Q (F0 m pc ls st) := by
  subst hw1
  subst hw2
  subst hst2
  have hP := hW.1.mid
  have hD := hW.2.1.mid
  have hAd : ∀ q, ad wc q → A q := fun q hq => by
    obtain ⟨q', hq', he⟩ := List.mem_map.mp hq
    obtain ⟨i, hi⟩ := List.getElem?_of_mem hq'
    exact he ▸ hD.2 i q' hi
  intro T hT X
  obtain ⟨v', st₀, t, T', L, h0, X', hL, e1, e2, ⟨⟨hv, hP1⟩, hz, hk⟩, st⟩ := va_runV (g := F0 m pc ls st) (rest := rest) S hM (cwV n S.2.2.2.2 hG hw rfl rfl hd hR) ⟨mc_blind, va_recv hK hP hc he, fun U hU hWm => ⟨rfl, by rw [hU]; exact hP, hD.weaken (fun _ _ _ _ => trivial), hK.moved hWm.alike⟩⟩ rfl hn hsz hst (lv_room (pc := pc) (ls := ls) (rest := st) hcat) hdg hcs T hT X
  cases hv
  rw [h0] at hz hk
  rw [← e1] at hP1 hz hk
  have hS := hW.2.2
  have hS1 : va_S A H0 T'.heap (locs ++ L) := ⟨Nat.le_trans hS.1 hz, fun q h1 h2 => by rw [hk q (Nat.lt_of_lt_of_le h1 hS.1) (fun z => h2 (hAd q z))]; exact hS.2.1 q h1 h2, fun q hq => by
    rcases List.mem_append.mp hq with h | h
    · exact hS.2.2 q h
    · exact hAd _ (hL q h)⟩
  obtain ⟨t2, a1, b1⟩ := kk T'.heap (locs ++ L) (hW.frame hf hP1 hk hS1) T' rfl X'
  exact ⟨t2, st t2 a1, b1⟩
end CO
end
section
set_option maxHeartbeats 4000000 in
set_option maxRecDepth 100000 in
theorem kX0_size (l : Launch) (D : va_G) (cI cV : ClassId) (o e_ : Nat) (z : Int) (el : Nat → Int)   : PM l yX0_size wsX0_size 0 0 [.ref (o)] (couw cI o e_ z el) D cI cV (some (.int (iI (z)))) := by
  refine PM.of (cc := cX0_size) (maxL := 1) (ret := (some .int)) (by decide) rfl (Nat.le_of_ble_eq_true rfl) ?_
  intro p e s0 m below meth c ls hx hb hr hts hown hlocks hml hP hK hl
  have hown : s0.vm.findClass RX0 = some m.cls := hown
  have hin : ∀ w ∈ u_ws RX0 TX0 2, w ∈ wsX0_size := by decide +kernel
  have hl : lv_has ls 1 [(0, .ref (o))] := hl
  refine lv_aload_n hx hb dX0_size_0 rfl (lv_at hl 0 rfl) ?_
  refine Cg0 hx hb hts hin hown hK hP (by decide +kernel) dX0_size_1 ?_
  exact p_iret hx hb hr hlocks (by first | rfl | omega | (simp only [b2i]; (repeat' split) <;> first | rfl | omega | (exfalso; omega))) dX0_size_4
set_option maxHeartbeats 4000000 in
set_option maxRecDepth 100000 in
theorem kX0_isEmpty (l : Launch) (D : va_G) (cI cV : ClassId) (o e_ : Nat) (z : Int) (el : Nat → Int)  (hz : 0 ≤ z ∧ z ≤ 5) : PM l yX0_isEmpty wsX0_isEmpty 0 0 [.ref (o)] (couw cI o e_ z el) D cI cV (some (.int (iI (b2i (z = 0))))) := by
  refine PM.of (cc := cX0_isEmpty) (maxL := 1) (ret := (some .boolean)) (by decide) rfl (Nat.le_of_ble_eq_true rfl) ?_
  intro p e s0 m below meth c ls hx hb hr hts hown hlocks hml hP hK hl
  have hown : s0.vm.findClass RX0 = some m.cls := hown
  have hin : ∀ w ∈ u_ws RX0 TX0 2, w ∈ wsX0_isEmpty := by decide +kernel
  have hl : lv_has ls 1 [(0, .ref (o))] := hl
  refine lv_aload_n hx hb dX0_isEmpty_0 rfl (lv_at hl 0 rfl) ?_
  refine Cg0 hx hb hts hin hown hK hP (by decide +kernel) dX0_isEmpty_1 ?_
  refine j_zne (tgt := 11) hx hb (by omega) dX0_isEmpty_4 (by decide) (fun c1 => ?_) (fun c1 => ?_)
  · refine j_c hx hb dX0_isEmpty_11 ?_
    exact p_zret hx hb hr hlocks (by first | decide | exact b2i_or) (by first | rfl | omega | (simp only [b2i]; (repeat' split) <;> first | rfl | omega | (exfalso; omega))) dX0_isEmpty_12
  · refine j_c hx hb dX0_isEmpty_7 ?_
    refine lv_goto (tgt := 12) hx hb dX0_isEmpty_8 (by decide) ?_
    exact p_zret hx hb hr hlocks (by first | decide | exact b2i_or) (by first | rfl | omega | (simp only [b2i]; (repeat' split) <;> first | rfl | omega | (exfalso; omega))) dX0_isEmpty_12
set_option maxHeartbeats 4000000 in
set_option maxRecDepth 100000 in
theorem kX0_hasSeat (l : Launch) (D : va_G) (cI cV : ClassId) (o e_ : Nat) (z : Int) (el : Nat → Int) (x : Int) (r_x : rg x) (hz : 0 ≤ z ∧ z ≤ 5) : PM l yX0_hasSeat wsX0_hasSeat 0 0 [.ref (o), .int (iI (x))] (couw cI o e_ z el) D cI cV (some (.int (iI (b2i (0 ≤ x ∧ x < z))))) := by
  refine PM.of (cc := cX0_hasSeat) (maxL := 2) (ret := (some .boolean)) (by decide) rfl (Nat.le_of_ble_eq_true rfl) ?_
  intro p e s0 m below meth c ls hx hb hr hts hown hlocks hml hP hK hl
  have hown : s0.vm.findClass RX0 = some m.cls := hown
  have hin : ∀ w ∈ u_ws RX0 TX0 2, w ∈ wsX0_hasSeat := by decide +kernel
  have hl : lv_has ls 2 [(0, .ref (o)), (1, .int (iI (x)))] := hl
  refine lv_iload_n hx hb dX0_hasSeat_0 rfl (lv_at hl 1 rfl) ?_
  refine j_zlt (tgt := 16) hx hb (by omega) dX0_hasSeat_1 (by decide) (fun c1 => ?_) (fun c1 => ?_)
  · refine j_c hx hb dX0_hasSeat_16 ?_
    exact p_zret hx hb hr hlocks (by first | decide | exact b2i_or) (by first | rfl | omega | (simp only [b2i]; (repeat' split) <;> first | rfl | omega | (exfalso; omega))) dX0_hasSeat_17
  · refine lv_iload_n hx hb dX0_hasSeat_4 rfl (lv_at hl 1 rfl) ?_
    refine lv_aload_n hx hb dX0_hasSeat_5 rfl (lv_at hl 0 rfl) ?_
    refine Cg0 hx hb hts hin hown hK hP (by decide +kernel) dX0_hasSeat_6 ?_
    refine j_ige (tgt := 16) hx hb (by omega) (by omega) dX0_hasSeat_9 (by decide) (fun c2 => ?_) (fun c2 => ?_)
    · refine j_c hx hb dX0_hasSeat_16 ?_
      exact p_zret hx hb hr hlocks (by first | decide | exact b2i_or) (by first | rfl | omega | (simp only [b2i]; (repeat' split) <;> first | rfl | omega | (exfalso; omega))) dX0_hasSeat_17
    · refine j_c hx hb dX0_hasSeat_12 ?_
      refine lv_goto (tgt := 17) hx hb dX0_hasSeat_13 (by decide) ?_
      exact p_zret hx hb hr hlocks (by first | decide | exact b2i_or) (by first | rfl | omega | (simp only [b2i]; (repeat' split) <;> first | rfl | omega | (exfalso; omega))) dX0_hasSeat_17
set_option maxHeartbeats 4000000 in
set_option maxRecDepth 100000 in
theorem kX0_elderOn (l : Launch) (D : va_G) (cI cV : ClassId) (o e_ : Nat) (z : Int) (el : Nat → Int) (x : Int) (hz : 0 ≤ z ∧ z ≤ 5) (hxz : 0 ≤ x ∧ x < z) : PM l yX0_elderOn wsX0_elderOn 1 21 [.ref (o), .int (iI (x))] (couw cI o e_ z el) D cI cV (some (.int (iI (el x.toNat)))) := by
  refine PM.of (cc := cX0_elderOn) (maxL := 2) (ret := (some .int)) (by decide) rfl (Nat.le_of_ble_eq_true rfl) ?_
  intro p e s0 m below meth c ls hx hb hr hts hown hlocks hml hP hK hl
  have hown : s0.vm.findClass RX0 = some m.cls := hown
  have hin : ∀ w ∈ u_ws RX0 TX0 2, w ∈ wsX0_elderOn := by decide +kernel
  have hl : lv_has ls 2 [(0, .ref (o)), (1, .int (iI (x)))] := hl
  refine lv_aload_n hx hb dX0_elderOn_0 rfl (lv_at hl 0 rfl) ?_
  refine lv_iload_n hx hb dX0_elderOn_1 rfl (lv_at hl 1 rfl) ?_
  refine p_callV (v := .int (iI (b2i (0 ≤ x ∧ x < z)))) (ci := 0) (n := 1) (As := [.int (iI (x))]) (rest := []) ⟨hx, hb, hml, hown, hts⟩ hK (kX0_hasSeat l D cI cV o e_ z el x (by omega) (by omega)) hP rfl rfl gX0_elderOn_X0_hasSeat rfl (by decide +kernel) ⟨Nat.le_of_ble_eq_true rfl, Nat.le_of_ble_eq_true rfl⟩ rfl hl.1 (Nat.le_of_ble_eq_true rfl) dX0_elderOn_2 ⟨Nat.zero_le _, Nat.zero_le _⟩ rfl ?_
  refine j_beq (tgt := 17) hx hb dX0_elderOn_5 (by decide) (fun c1 => ?_) (fun c1 => ?_)
  · refine j_bi hx hb dX0_elderOn_17 rfl ?_
    exact p_iret hx hb hr hlocks (by first | rfl | omega | (simp only [b2i]; (repeat' split) <;> first | rfl | omega | (exfalso; omega))) dX0_elderOn_19
  · refine lv_aload_n hx hb dX0_elderOn_8 rfl (lv_at hl 0 rfl) ?_
    refine Cg1 hx hb hts hin hown hK hP (by decide +kernel) dX0_elderOn_9 ?_
    refine lv_iload_n hx hb dX0_elderOn_12 rfl (lv_at hl 1 rfl) ?_
    refine Ca hx hb hK hP (by omega) dX0_elderOn_13 ?_
    refine lv_goto (tgt := 19) hx hb dX0_elderOn_14 (by decide) ?_
    exact p_iret hx hb hr hlocks (by first | rfl | omega | (simp only [b2i]; (repeat' split) <;> first | rfl | omega | (exfalso; omega))) dX0_elderOn_19
set_option maxHeartbeats 4000000 in
set_option maxRecDepth 100000 in
theorem kX0_majority (l : Launch) (D : va_G) (cI cV : ClassId) (o e_ : Nat) (z : Int) (el : Nat → Int)  (hz : 0 ≤ z ∧ z ≤ 5) : PM l yX0_majority wsX0_majority 0 0 [.ref (o)] (couw cI o e_ z el) D cI cV (some (.int (iI (z / 2 + 1)))) := by
  refine PM.of (cc := cX0_majority) (maxL := 1) (ret := (some .int)) (by decide) rfl (Nat.le_of_ble_eq_true rfl) ?_
  intro p e s0 m below meth c ls hx hb hr hts hown hlocks hml hP hK hl
  have hown : s0.vm.findClass RX0 = some m.cls := hown
  have hin : ∀ w ∈ u_ws RX0 TX0 2, w ∈ wsX0_majority := by decide +kernel
  have hl : lv_has ls 1 [(0, .ref (o))] := hl
  refine lv_aload_n hx hb dX0_majority_0 rfl (lv_at hl 0 rfl) ?_
  refine Cg0 hx hb hts hin hown hK hP (by decide +kernel) dX0_majority_1 ?_
  refine j_c hx hb dX0_majority_4 ?_
  refine j_div hx hb (by omega) (by omega) dX0_majority_5 ?_
  refine j_c hx hb dX0_majority_6 ?_
  refine j_add hx hb dX0_majority_7 ?_
  exact p_iret hx hb hr hlocks (by first | rfl | omega | (simp only [b2i]; (repeat' split) <;> first | rfl | omega | (exfalso; omega))) dX0_majority_8
set_option maxHeartbeats 4000000 in
set_option maxRecDepth 100000 in
theorem kX0_seatOf (l : Launch) (D : va_G) (cI cV : ClassId) (o e_ : Nat) (z : Int) (el : Nat → Int) (v : Int) (r_v : rg v) (hz : 0 ≤ z ∧ z ≤ 5) (hel : ∀ k, bd (el k)) : PM l yX0_seatOf wsX0_seatOf 0 0 [.ref (o), .int (iI (v))] (couw cI o e_ z el) D cI cV (some (.int (iI (seatF el v z.toNat)))) := by
  refine PM.of (cc := cX0_seatOf) (maxL := 3) (ret := (some .int)) (by decide) rfl (Nat.le_of_ble_eq_true rfl) ?_
  intro p e s0 m below meth c ls hx hb hr hts hown hlocks hml hP hK hl
  have hown : s0.vm.findClass RX0 = some m.cls := hown
  have hin : ∀ w ∈ u_ws RX0 TX0 2, w ∈ wsX0_seatOf := by decide +kernel
  have hl : lv_has ls 3 [(0, .ref (o)), (1, .int (iI (v)))] := hl
  refine j_c hx hb dX0_seatOf_0 ?_
  refine lv_istore_n (lv' := [(2, .int (iI (0))), (0, .ref (o)), (1, .int (iI (v)))]) hx hb dX0_seatOf_1 rfl hl (by decide) rfl (fun ls hl => ?_)
  have LP2 : ∀ (n : Nat) (i : Nat) (x2 : Int), x2 = (i : Int) → ((i : Int) ≤ z ∧ seatF el v i = -9) → z.toNat - i < n → ∀ ls : Array Slot, lv_has ls 3 [(2, .int (iI (x2))), (0, .ref (o)), (1, .int (iI (v)))] → W p l e (headSpec wsX0_seatOf (rmK 0 0)).room s0 m ([.ref (o), .int (iI (v))] : List Value).toArray below meth c s0.heap [] 0 0 (MQ below (pQ (some (.int (iI (seatF el v z.toNat))))) ([.ref (o), .int (iI (v))] : List Value).toArray s0 0 0 (fun _ => False)) (F0 m 2 ls []) := by
    intro n
    induction n with
    | zero =>
      intros
      omega
    | succ n ih =>
      intro i x2 ex2 hinv hmeas  ls hl
      subst ex2
      refine lv_iload_n hx hb dX0_seatOf_2 rfl (lv_at hl 0 rfl) ?_
      refine lv_aload_n hx hb dX0_seatOf_3 rfl (lv_at hl 1 rfl) ?_
      refine Cg0 hx hb hts hin hown hK hP (by decide +kernel) dX0_seatOf_4 ?_
      refine j_ige (tgt := 28) hx hb (by omega) (by omega) dX0_seatOf_7 (by decide) (fun c1 => ?_) (fun c1 => ?_)
      · refine j_bi hx hb dX0_seatOf_28 rfl ?_
        exact p_iret hx hb hr hlocks (by rw [show z.toNat = i from by omega]; exact hinv.2.symm) dX0_seatOf_30
      · refine lv_aload_n hx hb dX0_seatOf_10 rfl (lv_at hl 1 rfl) ?_
        refine Cg1 hx hb hts hin hown hK hP (by decide +kernel) dX0_seatOf_11 ?_
        refine lv_iload_n hx hb dX0_seatOf_14 rfl (lv_at hl 0 rfl) ?_
        refine Ca hx hb hK hP (by omega) dX0_seatOf_15 ?_
        rw [Int.toNat_natCast]
        have r1_30 : bd (el i) := hel _
        refine lv_iload_n hx hb dX0_seatOf_16 rfl (lv_at hl 2 rfl) ?_
        refine j_ine (tgt := 22) hx hb (by omega) (by omega) dX0_seatOf_17 (by decide) (fun c2 => ?_) (fun c2 => ?_)
        · refine lv_iinc (v := iI ((i : Int) + 1)) (lv' := [(2, .int (iI ((i : Int) + 1))), (0, .ref (o)), (1, .int (iI (v)))]) hx hb dX0_seatOf_22 hl (k := 0) rfl (iI_add _ _) (by decide) rfl (fun ls hl => ?_)
          refine lv_goto (tgt := 2) hx hb dX0_seatOf_25 (by decide) ?_
          exact ih (i + 1) ((i : Int) + 1) (by first | rfl | omega | (simp only [sm, b2i]; (repeat' split) <;> omega)) (by exact ⟨by omega, seatF_step hinv.2 (by omega)⟩) (by omega) ls (lv_sub hl [0, 1, 2] rfl)
        · refine lv_iload_n hx hb dX0_seatOf_20 rfl (lv_at hl 0 rfl) ?_
          exact p_iret hx hb hr hlocks (by exact (seatF_found hinv.2 (by omega) (by omega)).symm) dX0_seatOf_21
  exact LP2 (_) 0 0 (by first | rfl | omega) (by exact ⟨by omega, rfl⟩) (by exact Nat.lt_succ_self _) ls (lv_sub hl [0, 1, 2] rfl)
set_option maxHeartbeats 4000000 in
set_option maxRecDepth 100000 in
theorem kX0_has (l : Launch) (D : va_G) (cI cV : ClassId) (o e_ : Nat) (z : Int) (el : Nat → Int) (v : Int) (r_v : rg v) (hz : 0 ≤ z ∧ z ≤ 5) (hel : ∀ k, bd (el k)) : PM l yX0_has wsX0_has 1 22 [.ref (o), .int (iI (v))] (couw cI o e_ z el) D cI cV (some (.int (iI (b2i (seatF el v z.toNat ≠ -9))))) := by
  refine PM.of (cc := cX0_has) (maxL := 2) (ret := (some .boolean)) (by decide) rfl (Nat.le_of_ble_eq_true rfl) ?_
  intro p e s0 m below meth c ls hx hb hr hts hown hlocks hml hP hK hl
  have hown : s0.vm.findClass RX0 = some m.cls := hown
  have hin : ∀ w ∈ u_ws RX0 TX0 2, w ∈ wsX0_has := by decide +kernel
  have hl : lv_has ls 2 [(0, .ref (o)), (1, .int (iI (v)))] := hl
  refine lv_aload_n hx hb dX0_has_0 rfl (lv_at hl 0 rfl) ?_
  refine lv_iload_n hx hb dX0_has_1 rfl (lv_at hl 1 rfl) ?_
  refine p_callV (v := .int (iI (seatF el v z.toNat))) (ci := 0) (n := 1) (As := [.int (iI (v))]) (rest := []) ⟨hx, hb, hml, hown, hts⟩ hK (kX0_seatOf l D cI cV o e_ z el v (by omega) (by omega) hel) hP rfl rfl gX0_has_X0_seatOf rfl (by decide +kernel) ⟨Nat.le_of_ble_eq_true rfl, Nat.le_of_ble_eq_true rfl⟩ rfl hl.1 (Nat.le_of_ble_eq_true rfl) dX0_has_2 ⟨Nat.zero_le _, Nat.zero_le _⟩ rfl ?_
  have hq := seatF_rg (el := el) (v := v) z.toNat
  refine j_bi hx hb dX0_has_5 rfl ?_
  refine j_ieq (tgt := 14) hx hb (by omega) (by omega) dX0_has_7 (by decide) (fun c1 => ?_) (fun c1 => ?_)
  · refine j_c hx hb dX0_has_14 ?_
    exact p_zret hx hb hr hlocks (by first | decide | exact b2i_or) (by first | rfl | omega | (simp only [b2i]; (repeat' split) <;> first | rfl | omega | (exfalso; omega))) dX0_has_15
  · refine j_c hx hb dX0_has_10 ?_
    refine lv_goto (tgt := 15) hx hb dX0_has_11 (by decide) ?_
    exact p_zret hx hb hr hlocks (by first | decide | exact b2i_or) (by first | rfl | omega | (simp only [b2i]; (repeat' split) <;> first | rfl | omega | (exfalso; omega))) dX0_has_15
end
section
set_option maxHeartbeats 4000000 in
set_option maxRecDepth 100000 in
theorem kX2_state (l : Launch) (D : va_G) (cI cV : ClassId) (a : Nat → Nat) (s : Nat → Int)   : PM l yX2_state wsX2_state 0 0 [.ref (a 10)] (lotw cI a s) D cI cV (some (.int (iI (s 6)))) := by
  refine PM.of (cc := cX2_state) (maxL := 1) (ret := (some .int)) (by decide) rfl (Nat.le_of_ble_eq_true rfl) ?_
  intro p e s0 m below meth c ls hx hb hr hts hown hlocks hml hP hK hl
  have hown : s0.vm.findClass RX2 = some m.cls := hown
  have hin : ∀ w ∈ u_ws RX2 TX2 7, w ∈ wsX2_state := by decide +kernel
  have hl : lv_has ls 1 [(0, .ref (a 10))] := hl
  refine lv_aload_n hx hb dX2_state_0 rfl (lv_at hl 0 rfl) ?_
  refine Lg0 hx hb hts hin hown hK hP (by decide +kernel) dX2_state_1 ?_
  exact p_iret hx hb hr hlocks (by first | rfl | omega | (simp only [b2i]; (repeat' split) <;> first | rfl | omega | (exfalso; omega))) dX2_state_4
set_option maxHeartbeats 4000000 in
set_option maxRecDepth 100000 in
theorem kX2_draws (l : Launch) (D : va_G) (cI cV : ClassId) (a : Nat → Nat) (s : Nat → Int)   : PM l yX2_draws wsX2_draws 0 0 [.ref (a 10)] (lotw cI a s) D cI cV (some (.int (iI (s 7)))) := by
  refine PM.of (cc := cX2_draws) (maxL := 1) (ret := (some .int)) (by decide) rfl (Nat.le_of_ble_eq_true rfl) ?_
  intro p e s0 m below meth c ls hx hb hr hts hown hlocks hml hP hK hl
  have hown : s0.vm.findClass RX2 = some m.cls := hown
  have hin : ∀ w ∈ u_ws RX2 TX2 7, w ∈ wsX2_draws := by decide +kernel
  have hl : lv_has ls 1 [(0, .ref (a 10))] := hl
  refine lv_aload_n hx hb dX2_draws_0 rfl (lv_at hl 0 rfl) ?_
  refine Lg1 hx hb hts hin hown hK hP (by decide +kernel) dX2_draws_1 ?_
  exact p_iret hx hb hr hlocks (by first | rfl | omega | (simp only [b2i]; (repeat' split) <;> first | rfl | omega | (exfalso; omega))) dX2_draws_4
set_option maxHeartbeats 4000000 in
set_option maxRecDepth 100000 in
theorem kX2_lastSeat (l : Launch) (D : va_G) (cI cV : ClassId) (a : Nat → Nat) (s : Nat → Int)  (hbs : ∀ k, bd (s k)) (h07 : 0 ≤ s 7 ∧ s 7 ≤ 60) (hpos : 0 < s 7) : PM l yX2_lastSeat wsX2_lastSeat 0 0 [.ref (a 10)] (lotw cI a s) D cI cV (some (.int (iI (s (226 + 5 * (s 7 - 1).toNat))))) := by
  refine PM.of (cc := cX2_lastSeat) (maxL := 1) (ret := (some .int)) (by decide) rfl (Nat.le_of_ble_eq_true rfl) ?_
  intro p e s0 m below meth c ls hx hb hr hts hown hlocks hml hP hK hl
  have hown : s0.vm.findClass RX2 = some m.cls := hown
  have hin : ∀ w ∈ u_ws RX2 TX2 7, w ∈ wsX2_lastSeat := by decide +kernel
  have hl : lv_has ls 1 [(0, .ref (a 10))] := hl
  refine lv_aload_n hx hb dX2_lastSeat_0 rfl (lv_at hl 0 rfl) ?_
  refine Lg1 hx hb hts hin hown hK hP (by decide +kernel) dX2_lastSeat_1 ?_
  refine j_zle (tgt := 21) hx hb (by omega) dX2_lastSeat_4 (by decide) (fun c1 => ?_) (fun c1 => ?_)
  · refine j_bi hx hb dX2_lastSeat_21 rfl ?_
    exact p_iret hx hb hr hlocks (by first | rfl | omega | (simp only [b2i]; (repeat' split) <;> first | rfl | omega | (exfalso; omega))) dX2_lastSeat_23
  · refine lv_aload_n hx hb dX2_lastSeat_7 rfl (lv_at hl 0 rfl) ?_
    refine Lg6 hx hb hts hin hown hK hP (by decide +kernel) dX2_lastSeat_8 ?_
    refine lv_aload_n hx hb dX2_lastSeat_11 rfl (lv_at hl 0 rfl) ?_
    refine Lg1 hx hb hts hin hown hK hP (by decide +kernel) dX2_lastSeat_12 ?_
    refine j_c hx hb dX2_lastSeat_15 ?_
    refine j_sub hx hb dX2_lastSeat_16 ?_
    refine La4 hx hb hK hP (by omega) dX2_lastSeat_17 ?_
    have r1_20 : bd (s (226 + 5 * (((s 7) - 1).toNat))) := hbs _
    refine lv_goto (tgt := 23) hx hb dX2_lastSeat_18 (by decide) ?_
    exact p_iret hx hb hr hlocks (by first | rfl | omega | (simp only [b2i]; (repeat' split) <;> first | rfl | omega | (exfalso; omega))) dX2_lastSeat_23
set_option maxHeartbeats 4000000 in
set_option maxRecDepth 100000 in
theorem kX2_isForged (l : Launch) (D : va_G) (cI cV : ClassId) (a : Nat → Nat) (s : Nat → Int) (x : Int) (r_x : rg x) (hbs : ∀ k, bd (s k)) (h07 : 0 ≤ s 7 ∧ s 7 ≤ 60) : PM l yX2_isForged wsX2_isForged 0 0 [.ref (a 10), .int (iI (x))] (lotw cI a s) D cI cV (some (.int (iI (b2i ((0 ≤ x ∧ x < s 7) ∧ s (224 + 5 * x.toNat) ≠ s (225 + 5 * x.toNat)))))) := by
  refine PM.of (cc := cX2_isForged) (maxL := 2) (ret := (some .boolean)) (by decide) rfl (Nat.le_of_ble_eq_true rfl) ?_
  intro p e s0 m below meth c ls hx hb hr hts hown hlocks hml hP hK hl
  have hown : s0.vm.findClass RX2 = some m.cls := hown
  have hin : ∀ w ∈ u_ws RX2 TX2 7, w ∈ wsX2_isForged := by decide +kernel
  have hl : lv_has ls 2 [(0, .ref (a 10)), (1, .int (iI (x)))] := hl
  refine lv_iload_n hx hb dX2_isForged_0 rfl (lv_at hl 1 rfl) ?_
  refine j_zlt (tgt := 31) hx hb (by omega) dX2_isForged_1 (by decide) (fun c1 => ?_) (fun c1 => ?_)
  · refine j_c hx hb dX2_isForged_31 ?_
    exact p_zret hx hb hr hlocks (by first | decide | exact b2i_or) (by first | rfl | omega | (simp only [b2i]; (repeat' split) <;> first | rfl | omega | (exfalso; omega))) dX2_isForged_32
  · refine lv_iload_n hx hb dX2_isForged_4 rfl (lv_at hl 1 rfl) ?_
    refine lv_aload_n hx hb dX2_isForged_5 rfl (lv_at hl 0 rfl) ?_
    refine Lg1 hx hb hts hin hown hK hP (by decide +kernel) dX2_isForged_6 ?_
    refine j_ige (tgt := 31) hx hb (by omega) (by omega) dX2_isForged_9 (by decide) (fun c2 => ?_) (fun c2 => ?_)
    · refine j_c hx hb dX2_isForged_31 ?_
      exact p_zret hx hb hr hlocks (by first | decide | exact b2i_or) (by first | rfl | omega | (simp only [b2i]; (repeat' split) <;> first | rfl | omega | (exfalso; omega))) dX2_isForged_32
    · refine lv_aload_n hx hb dX2_isForged_12 rfl (lv_at hl 0 rfl) ?_
      refine Lg5 hx hb hts hin hown hK hP (by decide +kernel) dX2_isForged_13 ?_
      refine lv_iload_n hx hb dX2_isForged_16 rfl (lv_at hl 1 rfl) ?_
      refine La3 hx hb hK hP (by omega) dX2_isForged_17 ?_
      have r2_22 : bd (s (224 + 5 * x.toNat)) := hbs _
      refine lv_aload_n hx hb dX2_isForged_18 rfl (lv_at hl 0 rfl) ?_
      refine Lg4 hx hb hts hin hown hK hP (by decide +kernel) dX2_isForged_19 ?_
      refine lv_iload_n hx hb dX2_isForged_22 rfl (lv_at hl 1 rfl) ?_
      refine La2 hx hb hK hP (by omega) dX2_isForged_23 ?_
      have r2_27 : bd (s (225 + 5 * x.toNat)) := hbs _
      refine j_ieq (tgt := 31) hx hb (by omega) (by omega) dX2_isForged_24 (by decide) (fun c3 => ?_) (fun c3 => ?_)
      · refine j_c hx hb dX2_isForged_31 ?_
        exact p_zret hx hb hr hlocks (by first | decide | exact b2i_or) (by first | rfl | omega | (simp only [b2i]; (repeat' split) <;> first | rfl | omega | (exfalso; omega))) dX2_isForged_32
      · refine j_c hx hb dX2_isForged_27 ?_
        refine lv_goto (tgt := 32) hx hb dX2_isForged_28 (by decide) ?_
        exact p_zret hx hb hr hlocks (by first | decide | exact b2i_or) (by first | rfl | omega | (simp only [b2i]; (repeat' split) <;> first | rfl | omega | (exfalso; omega))) dX2_isForged_32
set_option maxHeartbeats 4000000 in
set_option maxRecDepth 100000 in
theorem kX2_forgedDraws (l : Launch) (D : va_G) (cI cV : ClassId) (a : Nat → Nat) (s : Nat → Int)  (hbs : ∀ k, bd (s k)) (h07 : 0 ≤ s 7 ∧ s 7 ≤ 60) : PM l yX2_forgedDraws wsX2_forgedDraws 1 21 [.ref (a 10)] (lotw cI a s) D cI cV (some (.int (iI (sm (fun i => b2i ((0 ≤ (i : Int) ∧ (i : Int) < s 7) ∧ s (224 + 5 * (i : Int).toNat) ≠ s (225 + 5 * (i : Int).toNat))) (s 7).toNat)))) := by
  refine PM.of (cc := cX2_forgedDraws) (maxL := 3) (ret := (some .int)) (by decide) rfl (Nat.le_of_ble_eq_true rfl) ?_
  intro p e s0 m below meth c ls hx hb hr hts hown hlocks hml hP hK hl
  have hown : s0.vm.findClass RX2 = some m.cls := hown
  have hin : ∀ w ∈ u_ws RX2 TX2 7, w ∈ wsX2_forgedDraws := by decide +kernel
  have hl : lv_has ls 3 [(0, .ref (a 10))] := hl
  refine j_c hx hb dX2_forgedDraws_0 ?_
  refine lv_istore_n (lv' := [(1, .int (iI (0))), (0, .ref (a 10))]) hx hb dX2_forgedDraws_1 rfl hl (by decide) rfl (fun ls hl => ?_)
  refine j_c hx hb dX2_forgedDraws_2 ?_
  refine lv_istore_n (lv' := [(2, .int (iI (0))), (1, .int (iI (0))), (0, .ref (a 10))]) hx hb dX2_forgedDraws_3 rfl hl (by decide) rfl (fun ls hl => ?_)
  have LP4 : ∀ (n : Nat) (i : Nat) (x2 x1 : Int), x2 = (i : Int) → x1 = sm (fun i => b2i ((0 ≤ (i : Int) ∧ (i : Int) < s 7) ∧ s (224 + 5 * (i : Int).toNat) ≠ s (225 + 5 * (i : Int).toNat))) i → ((i : Int) ≤ s 7) → (s 7).toNat - i < n → ∀ ls : Array Slot, lv_has ls 3 [(2, .int (iI (x2))), (1, .int (iI (x1))), (0, .ref (a 10))] → W p l e (headSpec wsX2_forgedDraws (rmK 1 21)).room s0 m ([.ref (a 10)] : List Value).toArray below meth c s0.heap [] 0 0 (MQ below (pQ (some (.int (iI (sm (fun i => b2i ((0 ≤ (i : Int) ∧ (i : Int) < s 7) ∧ s (224 + 5 * (i : Int).toNat) ≠ s (225 + 5 * (i : Int).toNat))) (s 7).toNat))))) ([.ref (a 10)] : List Value).toArray s0 0 0 (fun _ => False)) (F0 m 4 ls []) := by
    intro n
    induction n with
    | zero =>
      intros
      omega
    | succ n ih =>
      intro i x2 x1 ex2 ex1 hinv hmeas  ls hl
      subst ex2
      subst ex1
      have hsm := sm_rg (f := fun i => b2i ((0 ≤ (i : Int) ∧ (i : Int) < s 7) ∧ s (224 + 5 * (i : Int).toNat) ≠ s (225 + 5 * (i : Int).toNat))) (fun k => b2i_rg) i
      refine lv_iload_n hx hb dX2_forgedDraws_4 rfl (lv_at hl 0 rfl) ?_
      refine lv_aload_n hx hb dX2_forgedDraws_5 rfl (lv_at hl 2 rfl) ?_
      refine Lg1 hx hb hts hin hown hK hP (by decide +kernel) dX2_forgedDraws_6 ?_
      refine j_ige (tgt := 29) hx hb (by omega) (by omega) dX2_forgedDraws_9 (by decide) (fun c1 => ?_) (fun c1 => ?_)
      · refine lv_iload_n hx hb dX2_forgedDraws_29 rfl (lv_at hl 1 rfl) ?_
        exact p_iret hx hb hr hlocks (by rw [show (s 7).toNat = i from by omega]) dX2_forgedDraws_30
      · refine lv_aload_n hx hb dX2_forgedDraws_12 rfl (lv_at hl 2 rfl) ?_
        refine lv_iload_n hx hb dX2_forgedDraws_13 rfl (lv_at hl 0 rfl) ?_
        refine p_callV (v := .int (iI (b2i ((0 ≤ (i : Int) ∧ (i : Int) < s 7) ∧ s (224 + 5 * (i : Int).toNat) ≠ s (225 + 5 * (i : Int).toNat))))) (ci := 2) (n := 1) (As := [.int (iI ((i : Int)))]) (rest := []) ⟨hx, hb, hml, hown, hts⟩ hK (kX2_isForged l D cI cV a s (i : Int) (by omega) hbs (by omega)) hP rfl rfl gX2_forgedDraws_X2_isForged rfl (by decide +kernel) ⟨Nat.le_of_ble_eq_true rfl, Nat.le_of_ble_eq_true rfl⟩ rfl hl.1 (Nat.le_of_ble_eq_true rfl) dX2_forgedDraws_14 ⟨Nat.zero_le _, Nat.zero_le _⟩ rfl ?_
        refine j_beq (tgt := 23) hx hb dX2_forgedDraws_17 (by decide) (fun c2 => ?_) (fun c2 => ?_)
        · refine lv_iinc (v := iI ((i : Int) + 1)) (lv' := [(2, .int (iI ((i : Int) + 1))), (1, .int (iI (sm (fun i => b2i ((0 ≤ (i : Int) ∧ (i : Int) < s 7) ∧ s (224 + 5 * (i : Int).toNat) ≠ s (225 + 5 * (i : Int).toNat))) i))), (0, .ref (a 10))]) hx hb dX2_forgedDraws_23 hl (k := 0) rfl (iI_add _ _) (by decide) rfl (fun ls hl => ?_)
          refine lv_goto (tgt := 4) hx hb dX2_forgedDraws_26 (by decide) ?_
          exact ih (i + 1) ((i : Int) + 1) (sm (fun i => b2i ((0 ≤ (i : Int) ∧ (i : Int) < s 7) ∧ s (224 + 5 * (i : Int).toNat) ≠ s (225 + 5 * (i : Int).toNat))) i) (by first | rfl | omega | (simp only [sm]; first | rw [b2i_t (by assumption)] | (rw [b2i_f (by assumption)]; omega)) | (simp only [sm, b2i]; (repeat' split) <;> omega)) (by first | rfl | omega | (simp only [sm]; first | rw [b2i_t (by assumption)] | (rw [b2i_f (by assumption)]; omega)) | (simp only [sm, b2i]; (repeat' split) <;> omega)) (by omega) (by omega) ls (lv_sub hl [0, 1, 2] rfl)
        · refine lv_iinc (v := iI ((sm (fun i => b2i ((0 ≤ (i : Int) ∧ (i : Int) < s 7) ∧ s (224 + 5 * (i : Int).toNat) ≠ s (225 + 5 * (i : Int).toNat))) i) + 1)) (lv' := [(1, .int (iI ((sm (fun i => b2i ((0 ≤ (i : Int) ∧ (i : Int) < s 7) ∧ s (224 + 5 * (i : Int).toNat) ≠ s (225 + 5 * (i : Int).toNat))) i) + 1))), (2, .int (iI ((i : Int)))), (0, .ref (a 10))]) hx hb dX2_forgedDraws_20 hl (k := 1) rfl (iI_add _ _) (by decide) rfl (fun ls hl => ?_)
          refine lv_iinc (v := iI ((i : Int) + 1)) (lv' := [(2, .int (iI ((i : Int) + 1))), (1, .int (iI ((sm (fun i => b2i ((0 ≤ (i : Int) ∧ (i : Int) < s 7) ∧ s (224 + 5 * (i : Int).toNat) ≠ s (225 + 5 * (i : Int).toNat))) i) + 1))), (0, .ref (a 10))]) hx hb dX2_forgedDraws_23 hl (k := 1) rfl (iI_add _ _) (by decide) rfl (fun ls hl => ?_)
          refine lv_goto (tgt := 4) hx hb dX2_forgedDraws_26 (by decide) ?_
          exact ih (i + 1) ((i : Int) + 1) ((sm (fun i => b2i ((0 ≤ (i : Int) ∧ (i : Int) < s 7) ∧ s (224 + 5 * (i : Int).toNat) ≠ s (225 + 5 * (i : Int).toNat))) i) + 1) (by first | rfl | omega | (simp only [sm]; first | rw [b2i_t (by assumption)] | (rw [b2i_f (by assumption)]; omega)) | (simp only [sm, b2i]; (repeat' split) <;> omega)) (by first | rfl | omega | (simp only [sm]; first | rw [b2i_t (by assumption)] | (rw [b2i_f (by assumption)]; omega)) | (simp only [sm, b2i]; (repeat' split) <;> omega)) (by omega) (by omega) ls (lv_sub hl [0, 1, 2] rfl)
  exact LP4 (_) 0 0 0 (by first | rfl | omega) (by first | rfl | omega) (by omega) (by exact Nat.lt_succ_self _) ls (lv_sub hl [0, 1, 2] rfl)
set_option maxHeartbeats 4000000 in
set_option maxRecDepth 100000 in
theorem kX2_drawsOf (l : Launch) (D : va_G) (cI cV : ClassId) (a : Nat → Nat) (s : Nat → Int) (v : Int) (r_v : rg v) (hbs : ∀ k, bd (s k)) (h07 : 0 ≤ s 7 ∧ s 7 ≤ 60) : PM l yX2_drawsOf wsX2_drawsOf 0 0 [.ref (a 10), .int (iI (v))] (lotw cI a s) D cI cV (some (.int (iI (sm (fun i => b2i (s (224 + 5 * i) = v)) (s 7).toNat)))) := by
  refine PM.of (cc := cX2_drawsOf) (maxL := 4) (ret := (some .int)) (by decide) rfl (Nat.le_of_ble_eq_true rfl) ?_
  intro p e s0 m below meth c ls hx hb hr hts hown hlocks hml hP hK hl
  have hown : s0.vm.findClass RX2 = some m.cls := hown
  have hin : ∀ w ∈ u_ws RX2 TX2 7, w ∈ wsX2_drawsOf := by decide +kernel
  have hl : lv_has ls 4 [(0, .ref (a 10)), (1, .int (iI (v)))] := hl
  refine j_c hx hb dX2_drawsOf_0 ?_
  refine lv_istore_n (lv' := [(2, .int (iI (0))), (0, .ref (a 10)), (1, .int (iI (v)))]) hx hb dX2_drawsOf_1 rfl hl (by decide) rfl (fun ls hl => ?_)
  refine j_c hx hb dX2_drawsOf_2 ?_
  refine lv_istore_n (lv' := [(3, .int (iI (0))), (2, .int (iI (0))), (0, .ref (a 10)), (1, .int (iI (v)))]) hx hb dX2_drawsOf_3 rfl hl (by decide) rfl (fun ls hl => ?_)
  have LP4 : ∀ (n : Nat) (i : Nat) (x3 x2 : Int), x3 = (i : Int) → x2 = sm (fun i => b2i (s (224 + 5 * i) = v)) i → ((i : Int) ≤ s 7) → (s 7).toNat - i < n → ∀ ls : Array Slot, lv_has ls 4 [(3, .int (iI (x3))), (2, .int (iI (x2))), (0, .ref (a 10)), (1, .int (iI (v)))] → W p l e (headSpec wsX2_drawsOf (rmK 0 0)).room s0 m ([.ref (a 10), .int (iI (v))] : List Value).toArray below meth c s0.heap [] 0 0 (MQ below (pQ (some (.int (iI (sm (fun i => b2i (s (224 + 5 * i) = v)) (s 7).toNat))))) ([.ref (a 10), .int (iI (v))] : List Value).toArray s0 0 0 (fun _ => False)) (F0 m 4 ls []) := by
    intro n
    induction n with
    | zero =>
      intros
      omega
    | succ n ih =>
      intro i x3 x2 ex3 ex2 hinv hmeas  ls hl
      subst ex3
      subst ex2
      have hsm := sm_rg (f := fun i => b2i (s (224 + 5 * i) = v)) (fun k => b2i_rg) i
      refine lv_iload_n hx hb dX2_drawsOf_4 rfl (lv_at hl 0 rfl) ?_
      refine lv_aload_n hx hb dX2_drawsOf_5 rfl (lv_at hl 2 rfl) ?_
      refine Lg1 hx hb hts hin hown hK hP (by decide +kernel) dX2_drawsOf_6 ?_
      refine j_ige (tgt := 31) hx hb (by omega) (by omega) dX2_drawsOf_9 (by decide) (fun c1 => ?_) (fun c1 => ?_)
      · refine lv_iload_n hx hb dX2_drawsOf_31 rfl (lv_at hl 1 rfl) ?_
        exact p_iret hx hb hr hlocks (by rw [show (s 7).toNat = i from by omega]) dX2_drawsOf_32
      · refine lv_aload_n hx hb dX2_drawsOf_12 rfl (lv_at hl 2 rfl) ?_
        refine Lg5 hx hb hts hin hown hK hP (by decide +kernel) dX2_drawsOf_13 ?_
        refine lv_iload_n hx hb dX2_drawsOf_16 rfl (lv_at hl 0 rfl) ?_
        refine La3 hx hb hK hP (by omega) dX2_drawsOf_17 ?_
        rw [Int.toNat_natCast]
        have r1_34 : bd (s (224 + 5 * i)) := hbs _
        refine lv_iload_n hx hb dX2_drawsOf_18 rfl (lv_at hl 3 rfl) ?_
        refine j_ine (tgt := 25) hx hb (by omega) (by omega) dX2_drawsOf_19 (by decide) (fun c2 => ?_) (fun c2 => ?_)
        · refine lv_iinc (v := iI ((i : Int) + 1)) (lv' := [(3, .int (iI ((i : Int) + 1))), (2, .int (iI (sm (fun i => b2i (s (224 + 5 * i) = v)) i))), (0, .ref (a 10)), (1, .int (iI (v)))]) hx hb dX2_drawsOf_25 hl (k := 0) rfl (iI_add _ _) (by decide) rfl (fun ls hl => ?_)
          refine lv_goto (tgt := 4) hx hb dX2_drawsOf_28 (by decide) ?_
          exact ih (i + 1) ((i : Int) + 1) (sm (fun i => b2i (s (224 + 5 * i) = v)) i) (by first | rfl | omega | (simp only [sm]; first | rw [b2i_t (by assumption)] | (rw [b2i_f (by assumption)]; omega)) | (simp only [sm, b2i]; (repeat' split) <;> omega)) (by first | rfl | omega | (simp only [sm]; first | rw [b2i_t (by assumption)] | (rw [b2i_f (by assumption)]; omega)) | (simp only [sm, b2i]; (repeat' split) <;> omega)) (by omega) (by omega) ls (lv_sub hl [0, 1, 2, 3] rfl)
        · refine lv_iinc (v := iI ((sm (fun i => b2i (s (224 + 5 * i) = v)) i) + 1)) (lv' := [(2, .int (iI ((sm (fun i => b2i (s (224 + 5 * i) = v)) i) + 1))), (3, .int (iI ((i : Int)))), (0, .ref (a 10)), (1, .int (iI (v)))]) hx hb dX2_drawsOf_22 hl (k := 1) rfl (iI_add _ _) (by decide) rfl (fun ls hl => ?_)
          refine lv_iinc (v := iI ((i : Int) + 1)) (lv' := [(3, .int (iI ((i : Int) + 1))), (2, .int (iI ((sm (fun i => b2i (s (224 + 5 * i) = v)) i) + 1))), (0, .ref (a 10)), (1, .int (iI (v)))]) hx hb dX2_drawsOf_25 hl (k := 1) rfl (iI_add _ _) (by decide) rfl (fun ls hl => ?_)
          refine lv_goto (tgt := 4) hx hb dX2_drawsOf_28 (by decide) ?_
          exact ih (i + 1) ((i : Int) + 1) ((sm (fun i => b2i (s (224 + 5 * i) = v)) i) + 1) (by first | rfl | omega | (simp only [sm]; first | rw [b2i_t (by assumption)] | (rw [b2i_f (by assumption)]; omega)) | (simp only [sm, b2i]; (repeat' split) <;> omega)) (by first | rfl | omega | (simp only [sm]; first | rw [b2i_t (by assumption)] | (rw [b2i_f (by assumption)]; omega)) | (simp only [sm, b2i]; (repeat' split) <;> omega)) (by omega) (by omega) ls (lv_sub hl [0, 1, 2, 3] rfl)
  exact LP4 (_) 0 0 0 (by first | rfl | omega) (by first | rfl | omega) (by omega) (by exact Nat.lt_succ_self _) ls (lv_sub hl [0, 1, 2, 3] rfl)
set_option maxHeartbeats 4000000 in
set_option maxRecDepth 100000 in
theorem kX2_about (l : Launch) (D : va_G) (cI cV : ClassId) (a : Nat → Nat) (s : Nat → Int) (x : Int) (q : Int) (r_x : rg x) (r_q : rg q) (hbs : ∀ k, bd (s k)) (h07 : 0 ≤ s 7 ∧ s 7 ≤ 60) : PM l yX2_about wsX2_about 1 21 [.ref (a 10), .int (iI (x)), .int (iI (q))] (lotw cI a s) D cI cV (some (.int (iI (if 0 ≤ x ∧ x < s 7 then (if q = 0 then s (222 + 5 * x.toNat) else if q = 1 then s (223 + 5 * x.toNat) else if q = 2 then s (224 + 5 * x.toNat) else if q = 3 then b2i ((0 ≤ x ∧ x < s 7) ∧ s (224 + 5 * x.toNat) ≠ s (225 + 5 * x.toNat)) else if q = 4 then s (226 + 5 * x.toNat) else -1) else -1)))) := by
  refine PM.of (cc := cX2_about) (maxL := 3) (ret := (some .int)) (by decide) rfl (Nat.le_of_ble_eq_true rfl) ?_
  intro p e s0 m below meth c ls hx hb hr hts hown hlocks hml hP hK hl
  have hown : s0.vm.findClass RX2 = some m.cls := hown
  have hin : ∀ w ∈ u_ws RX2 TX2 7, w ∈ wsX2_about := by decide +kernel
  have hl : lv_has ls 3 [(0, .ref (a 10)), (1, .int (iI (x))), (2, .int (iI (q)))] := hl
  refine lv_iload_n hx hb dX2_about_0 rfl (lv_at hl 1 rfl) ?_
  refine j_zlt (tgt := 12) hx hb (by omega) dX2_about_1 (by decide) (fun c1 => ?_) (fun c1 => ?_)
  · refine j_c hx hb dX2_about_12 ?_
    exact p_iret hx hb hr hlocks (by (repeat' split) <;> first | rfl | omega | (exfalso; omega) | (rw [b2i_t (by assumption)]) | (rw [b2i_f (by assumption)])) dX2_about_13
  · refine lv_iload_n hx hb dX2_about_4 rfl (lv_at hl 1 rfl) ?_
    refine lv_aload_n hx hb dX2_about_5 rfl (lv_at hl 0 rfl) ?_
    refine Lg1 hx hb hts hin hown hK hP (by decide +kernel) dX2_about_6 ?_
    refine j_ilt (tgt := 14) hx hb (by omega) (by omega) dX2_about_9 (by decide) (fun c2 => ?_) (fun c2 => ?_)
    · refine lv_iload_n hx hb dX2_about_14 rfl (lv_at hl 2 rfl) ?_
      by_cases c3 : q = 0
      · refine j_tin (k := 0) (off := 33) (tgt := 48) hx hb c3 (by decide) dX2_about_15 (by decide) (by decide) (by decide) (by decide) ?_
        refine lv_aload_n hx hb dX2_about_48 rfl (lv_at hl 0 rfl) ?_
        refine Lg2 hx hb hts hin hown hK hP (by decide +kernel) dX2_about_49 ?_
        refine lv_iload_n hx hb dX2_about_52 rfl (lv_at hl 1 rfl) ?_
        refine La0 hx hb hK hP (by omega) dX2_about_53 ?_
        have r3_23 : bd (s (222 + 5 * x.toNat)) := hbs _
        exact p_iret hx hb hr hlocks (by (repeat' split) <;> first | rfl | omega | (exfalso; omega) | (rw [b2i_t (by assumption)]) | (rw [b2i_f (by assumption)])) dX2_about_54
      by_cases c4 : q = 1
      · refine j_tin (k := 1) (off := 40) (tgt := 55) hx hb c4 (by decide) dX2_about_15 (by decide) (by decide) (by decide) (by decide) ?_
        refine lv_aload_n hx hb dX2_about_55 rfl (lv_at hl 0 rfl) ?_
        refine Lg3 hx hb hts hin hown hK hP (by decide +kernel) dX2_about_56 ?_
        refine lv_iload_n hx hb dX2_about_59 rfl (lv_at hl 1 rfl) ?_
        refine La1 hx hb hK hP (by omega) dX2_about_60 ?_
        have r4_31 : bd (s (223 + 5 * x.toNat)) := hbs _
        exact p_iret hx hb hr hlocks (by (repeat' split) <;> first | rfl | omega | (exfalso; omega) | (rw [b2i_t (by assumption)]) | (rw [b2i_f (by assumption)])) dX2_about_61
      by_cases c5 : q = 2
      · refine j_tin (k := 2) (off := 47) (tgt := 62) hx hb c5 (by decide) dX2_about_15 (by decide) (by decide) (by decide) (by decide) ?_
        refine lv_aload_n hx hb dX2_about_62 rfl (lv_at hl 0 rfl) ?_
        refine Lg5 hx hb hts hin hown hK hP (by decide +kernel) dX2_about_63 ?_
        refine lv_iload_n hx hb dX2_about_66 rfl (lv_at hl 1 rfl) ?_
        refine La3 hx hb hK hP (by omega) dX2_about_67 ?_
        have r5_39 : bd (s (224 + 5 * x.toNat)) := hbs _
        exact p_iret hx hb hr hlocks (by (repeat' split) <;> first | rfl | omega | (exfalso; omega) | (rw [b2i_t (by assumption)]) | (rw [b2i_f (by assumption)])) dX2_about_68
      by_cases c6 : q = 3
      · refine j_tin (k := 3) (off := 54) (tgt := 69) hx hb c6 (by decide) dX2_about_15 (by decide) (by decide) (by decide) (by decide) ?_
        refine lv_aload_n hx hb dX2_about_69 rfl (lv_at hl 0 rfl) ?_
        refine lv_iload_n hx hb dX2_about_70 rfl (lv_at hl 1 rfl) ?_
        refine p_callV (v := .int (iI (b2i ((0 ≤ x ∧ x < s 7) ∧ s (224 + 5 * x.toNat) ≠ s (225 + 5 * x.toNat))))) (ci := 2) (n := 1) (As := [.int (iI (x))]) (rest := []) ⟨hx, hb, hml, hown, hts⟩ hK (kX2_isForged l D cI cV a s x (by omega) hbs (by omega)) hP rfl rfl gX2_about_X2_isForged rfl (by decide +kernel) ⟨Nat.le_of_ble_eq_true rfl, Nat.le_of_ble_eq_true rfl⟩ rfl hl.1 (Nat.le_of_ble_eq_true rfl) dX2_about_71 ⟨Nat.zero_le _, Nat.zero_le _⟩ rfl ?_
        refine j_beq (tgt := 81) hx hb dX2_about_74 (by decide) (fun c7 => ?_) (fun c7 => ?_)
        · refine j_c hx hb dX2_about_81 ?_
          exact p_iret hx hb hr hlocks (by (repeat' split) <;> first | rfl | omega | (exfalso; omega) | (rw [b2i_t (by assumption)]) | (rw [b2i_f (by assumption)])) dX2_about_82
        · refine j_c hx hb dX2_about_77 ?_
          refine lv_goto (tgt := 82) hx hb dX2_about_78 (by decide) ?_
          exact p_iret hx hb hr hlocks (by (repeat' split) <;> first | rfl | omega | (exfalso; omega) | (rw [b2i_t (by assumption)]) | (rw [b2i_f (by assumption)])) dX2_about_82
      by_cases c8 : q = 4
      · refine j_tin (k := 4) (off := 68) (tgt := 83) hx hb c8 (by decide) dX2_about_15 (by decide) (by decide) (by decide) (by decide) ?_
        refine lv_aload_n hx hb dX2_about_83 rfl (lv_at hl 0 rfl) ?_
        refine Lg6 hx hb hts hin hown hK hP (by decide +kernel) dX2_about_84 ?_
        refine lv_iload_n hx hb dX2_about_87 rfl (lv_at hl 1 rfl) ?_
        refine La4 hx hb hK hP (by omega) dX2_about_88 ?_
        have r8_58 : bd (s (226 + 5 * x.toNat)) := hbs _
        exact p_iret hx hb hr hlocks (by (repeat' split) <;> first | rfl | omega | (exfalso; omega) | (rw [b2i_t (by assumption)]) | (rw [b2i_f (by assumption)])) dX2_about_89
      refine j_tout (tgt := 90) hx hb (by omega) dX2_about_15 (by omega) (by decide) ?_
      refine j_c hx hb dX2_about_90 ?_
      exact p_iret hx hb hr hlocks (by (repeat' split) <;> first | rfl | omega | (exfalso; omega) | (rw [b2i_t (by assumption)]) | (rw [b2i_f (by assumption)])) dX2_about_91
    · refine j_c hx hb dX2_about_12 ?_
      exact p_iret hx hb hr hlocks (by (repeat' split) <;> first | rfl | omega | (exfalso; omega) | (rw [b2i_t (by assumption)]) | (rw [b2i_f (by assumption)])) dX2_about_13
set_option maxHeartbeats 4000000 in
set_option maxRecDepth 100000 in
theorem kX2_after (l : Launch) (D : va_G) (cI cV : ClassId)  (x : Int) (h_x : 0 ≤ x ∧ x < 65536) : PM l yX2_after wsX2_after 0 0 [.int (iI (x))] (([] : va_W)) D cI cV (some (.int (iI ((x * 25173 + 13849) % 65536)))) := by
  refine PM.of (cc := cX2_after) (maxL := 1) (ret := (some .int)) (by decide) rfl (Nat.le_of_ble_eq_true rfl) ?_
  intro p e s0 m below meth c ls hx hb hr hts hown hlocks hml hP hK hl
  have hown : s0.vm.findClass RX2 = some m.cls := hown
  have hl : lv_has ls 1 [(0, .int (iI (x)))] := hl
  refine lv_iload_n hx hb dX2_after_0 rfl (lv_at hl 0 rfl) ?_
  refine j_si hx hb dX2_after_1 rfl ?_
  refine j_mul hx hb dX2_after_4 ?_
  refine j_si hx hb dX2_after_5 rfl ?_
  refine j_add hx hb dX2_after_8 ?_
  refine j_ldc (n := 65536) hx hb hown (hts (.constant RX2 31 65536) (by decide +kernel)) rfl dX2_after_9 ?_
  refine j_rem hx hb (by omega) (by omega) dX2_after_11 ?_
  exact p_iret hx hb hr hlocks (by first | rfl | omega | (simp only [b2i]; (repeat' split) <;> first | rfl | omega | (exfalso; omega))) dX2_after_12
end
