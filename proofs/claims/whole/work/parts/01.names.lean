-- ===== PART A: goes FIRST, ahead of the names: the tables' words, and 'selects' of the private methods out of them =====
/-- a private method of a class that the tables say can be made, by its rows of tables_1 -/
def lw_okq (q : MethodName × Nat) : Prop := (q.1.cls ≠ "java/lang/invoke/MethodHandle" ∧ q.1.cls ≠ "java/lang/invoke/VarHandle") ∧ Cond.instantiable q.1.cls q.2 ∈ tables_1 ∧ Cond.privateMethod q.1 ∈ tables_1 ∧ Cond.instanceMethod q.1 ∈ tables_1
theorem lw_p0 : lw_okq (⟨"NextLife$World", "bear", "(III)V"⟩, 12) := ⟨⟨by decide +kernel, by decide +kernel⟩, List.mem_of_getElem? (i := 21) (by decide +kernel), List.mem_of_getElem? (i := 211) (by decide +kernel), List.mem_of_getElem? (i := 212) (by decide +kernel)⟩
theorem lw_p1 : lw_okq (⟨"NextLife$Pad", "put", "(I)Z"⟩, 2) := ⟨⟨by decide +kernel, by decide +kernel⟩, List.mem_of_getElem? (i := 82) (by decide +kernel), List.mem_of_getElem? (i := 235) (by decide +kernel), List.mem_of_getElem? (i := 236) (by decide +kernel)⟩
theorem lw_p2 : lw_okq (⟨"NextLife$Pad", "faultPlace", "()I"⟩, 2) := ⟨⟨by decide +kernel, by decide +kernel⟩, List.mem_of_getElem? (i := 82) (by decide +kernel), List.mem_of_getElem? (i := 247) (by decide +kernel), List.mem_of_getElem? (i := 248) (by decide +kernel)⟩
theorem lw_p3 : lw_okq (⟨"NextLife$Pad", "signAt", "(I)I"⟩, 2) := ⟨⟨by decide +kernel, by decide +kernel⟩, List.mem_of_getElem? (i := 82) (by decide +kernel), List.mem_of_getElem? (i := 251) (by decide +kernel), List.mem_of_getElem? (i := 252) (by decide +kernel)⟩
theorem lw_p4 : lw_okq (⟨"NextLife$Trial", "followPad", "(LNextLife$World;LNextLife$Pad;)V"⟩, 7) := ⟨⟨by decide +kernel, by decide +kernel⟩, List.mem_of_getElem? (i := 97) (by decide +kernel), List.mem_of_getElem? (i := 263) (by decide +kernel), List.mem_of_getElem? (i := 264) (by decide +kernel)⟩
theorem lw_p5 : lw_okq (⟨"NextLife$World", "copyFrom", "(LNextLife$World;)V"⟩, 12) := ⟨⟨by decide +kernel, by decide +kernel⟩, List.mem_of_getElem? (i := 21) (by decide +kernel), List.mem_of_getElem? (i := 267) (by decide +kernel), List.mem_of_getElem? (i := 268) (by decide +kernel)⟩
theorem lw_p6 : lw_okq (⟨"NextLife$Act", "readFrom", "(LNextLife$Pad;I)I"⟩, 4) := ⟨⟨by decide +kernel, by decide +kernel⟩, List.mem_of_getElem? (i := 105) (by decide +kernel), List.mem_of_getElem? (i := 274) (by decide +kernel), List.mem_of_getElem? (i := 275) (by decide +kernel)⟩
theorem lw_p7 : lw_okq (⟨"NextLife$World", "hindrance", "(LNextLife$Act;)I"⟩, 12) := ⟨⟨by decide +kernel, by decide +kernel⟩, List.mem_of_getElem? (i := 21) (by decide +kernel), List.mem_of_getElem? (i := 279) (by decide +kernel), List.mem_of_getElem? (i := 280) (by decide +kernel)⟩
theorem lw_p8 : lw_okq (⟨"NextLife$World", "isLiving", "(I)Z"⟩, 12) := ⟨⟨by decide +kernel, by decide +kernel⟩, List.mem_of_getElem? (i := 21) (by decide +kernel), List.mem_of_getElem? (i := 283) (by decide +kernel), List.mem_of_getElem? (i := 284) (by decide +kernel)⟩
theorem lw_p9 : lw_okq (⟨"NextLife$World", "canLend", "(III)Z"⟩, 12) := ⟨⟨by decide +kernel, by decide +kernel⟩, List.mem_of_getElem? (i := 21) (by decide +kernel), List.mem_of_getElem? (i := 291) (by decide +kernel), List.mem_of_getElem? (i := 292) (by decide +kernel)⟩
theorem lw_p10 : lw_okq (⟨"NextLife$Trial", "countTry", "()V"⟩, 7) := ⟨⟨by decide +kernel, by decide +kernel⟩, List.mem_of_getElem? (i := 97) (by decide +kernel), List.mem_of_getElem? (i := 295) (by decide +kernel), List.mem_of_getElem? (i := 296) (by decide +kernel)⟩
theorem lw_p11 : lw_okq (⟨"NextLife$World", "letsIn", "(II)Z"⟩, 12) := ⟨⟨by decide +kernel, by decide +kernel⟩, List.mem_of_getElem? (i := 21) (by decide +kernel), List.mem_of_getElem? (i := 299) (by decide +kernel), List.mem_of_getElem? (i := 300) (by decide +kernel)⟩
theorem lw_p12 : lw_okq (⟨"NextLife$World", "felt", "(II)I"⟩, 12) := ⟨⟨by decide +kernel, by decide +kernel⟩, List.mem_of_getElem? (i := 21) (by decide +kernel), List.mem_of_getElem? (i := 304) (by decide +kernel), List.mem_of_getElem? (i := 305) (by decide +kernel)⟩
theorem lw_p13 : lw_okq (⟨"NextLife$World", "perform", "(LNextLife$Act;)V"⟩, 12) := ⟨⟨by decide +kernel, by decide +kernel⟩, List.mem_of_getElem? (i := 21) (by decide +kernel), List.mem_of_getElem? (i := 309) (by decide +kernel), List.mem_of_getElem? (i := 310) (by decide +kernel)⟩
theorem lw_p14 : lw_okq (⟨"NextLife$World", "comeBack", "(II)V"⟩, 12) := ⟨⟨by decide +kernel, by decide +kernel⟩, List.mem_of_getElem? (i := 21) (by decide +kernel), List.mem_of_getElem? (i := 313) (by decide +kernel), List.mem_of_getElem? (i := 314) (by decide +kernel)⟩
theorem lw_p15 : lw_okq (⟨"NextLife$World", "moveDebt", "(II)V"⟩, 12) := ⟨⟨by decide +kernel, by decide +kernel⟩, List.mem_of_getElem? (i := 21) (by decide +kernel), List.mem_of_getElem? (i := 317) (by decide +kernel), List.mem_of_getElem? (i := 318) (by decide +kernel)⟩
def lw_privs_1 : List (MethodName × Nat) := [(⟨"NextLife$World", "bear", "(III)V"⟩, 12), (⟨"NextLife$Pad", "put", "(I)Z"⟩, 2), (⟨"NextLife$Pad", "faultPlace", "()I"⟩, 2), (⟨"NextLife$Pad", "signAt", "(I)I"⟩, 2), (⟨"NextLife$Trial", "followPad", "(LNextLife$World;LNextLife$Pad;)V"⟩, 7), (⟨"NextLife$World", "copyFrom", "(LNextLife$World;)V"⟩, 12), (⟨"NextLife$Act", "readFrom", "(LNextLife$Pad;I)I"⟩, 4), (⟨"NextLife$World", "hindrance", "(LNextLife$Act;)I"⟩, 12), (⟨"NextLife$World", "isLiving", "(I)Z"⟩, 12), (⟨"NextLife$World", "canLend", "(III)Z"⟩, 12), (⟨"NextLife$Trial", "countTry", "()V"⟩, 7), (⟨"NextLife$World", "letsIn", "(II)Z"⟩, 12), (⟨"NextLife$World", "felt", "(II)I"⟩, 12), (⟨"NextLife$World", "perform", "(LNextLife$Act;)V"⟩, 12), (⟨"NextLife$World", "comeBack", "(II)V"⟩, 12), (⟨"NextLife$World", "moveDebt", "(II)V"⟩, 12)]
theorem lw_r1 : ∀ q ∈ lw_privs_1, lw_okq q := List.forall_mem_cons.mpr ⟨lw_p0, List.forall_mem_cons.mpr ⟨lw_p1, List.forall_mem_cons.mpr ⟨lw_p2, List.forall_mem_cons.mpr ⟨lw_p3, List.forall_mem_cons.mpr ⟨lw_p4, List.forall_mem_cons.mpr ⟨lw_p5, List.forall_mem_cons.mpr ⟨lw_p6, List.forall_mem_cons.mpr ⟨lw_p7, List.forall_mem_cons.mpr ⟨lw_p8, List.forall_mem_cons.mpr ⟨lw_p9, List.forall_mem_cons.mpr ⟨lw_p10, List.forall_mem_cons.mpr ⟨lw_p11, List.forall_mem_cons.mpr ⟨lw_p12, List.forall_mem_cons.mpr ⟨lw_p13, List.forall_mem_cons.mpr ⟨lw_p14, List.forall_mem_cons.mpr ⟨lw_p15, fun _ h => absurd h List.not_mem_nil⟩⟩⟩⟩⟩⟩⟩⟩⟩⟩⟩⟩⟩⟩⟩⟩
theorem lw_p16 : lw_okq (⟨"NextLife$World", "lend", "(III)V"⟩, 12) := ⟨⟨by decide +kernel, by decide +kernel⟩, List.mem_of_getElem? (i := 21) (by decide +kernel), List.mem_of_getElem? (i := 321) (by decide +kernel), List.mem_of_getElem? (i := 322) (by decide +kernel)⟩
theorem lw_p17 : lw_okq (⟨"NextLife$World", "fillPurse", "(II)V"⟩, 12) := ⟨⟨by decide +kernel, by decide +kernel⟩, List.mem_of_getElem? (i := 21) (by decide +kernel), List.mem_of_getElem? (i := 325) (by decide +kernel), List.mem_of_getElem? (i := 326) (by decide +kernel)⟩
theorem lw_p18 : lw_okq (⟨"NextLife$World", "tryBox", "(II)V"⟩, 12) := ⟨⟨by decide +kernel, by decide +kernel⟩, List.mem_of_getElem? (i := 21) (by decide +kernel), List.mem_of_getElem? (i := 332) (by decide +kernel), List.mem_of_getElem? (i := 333) (by decide +kernel)⟩
theorem lw_p19 : lw_okq (⟨"NextLife", "yearsCanBe", "()Z"⟩, 6) := ⟨⟨by decide +kernel, by decide +kernel⟩, List.mem_of_getElem? (i := 13) (by decide +kernel), List.mem_of_getElem? (i := 341) (by decide +kernel), List.mem_of_getElem? (i := 342) (by decide +kernel)⟩
theorem lw_p20 : lw_okq (⟨"NextLife$World", "soulsLetIn", "(I)I"⟩, 12) := ⟨⟨by decide +kernel, by decide +kernel⟩, List.mem_of_getElem? (i := 21) (by decide +kernel), List.mem_of_getElem? (i := 359) (by decide +kernel), List.mem_of_getElem? (i := 360) (by decide +kernel)⟩
theorem lw_p21 : lw_okq (⟨"NextLife$World", "creditorsBehind", "(I)I"⟩, 12) := ⟨⟨by decide +kernel, by decide +kernel⟩, List.mem_of_getElem? (i := 21) (by decide +kernel), List.mem_of_getElem? (i := 385) (by decide +kernel), List.mem_of_getElem? (i := 386) (by decide +kernel)⟩
theorem lw_p22 : lw_okq (⟨"NextLife$World", "creditorsOf", "(I)I"⟩, 12) := ⟨⟨by decide +kernel, by decide +kernel⟩, List.mem_of_getElem? (i := 21) (by decide +kernel), List.mem_of_getElem? (i := 389) (by decide +kernel), List.mem_of_getElem? (i := 390) (by decide +kernel)⟩
theorem lw_p23 : lw_okq (⟨"NextLife$World", "shortestNote", "(I)I"⟩, 12) := ⟨⟨by decide +kernel, by decide +kernel⟩, List.mem_of_getElem? (i := 21) (by decide +kernel), List.mem_of_getElem? (i := 397) (by decide +kernel), List.mem_of_getElem? (i := 398) (by decide +kernel)⟩
theorem lw_p24 : lw_okq (⟨"NextLife$World", "anotherHas", "(II)Z"⟩, 12) := ⟨⟨by decide +kernel, by decide +kernel⟩, List.mem_of_getElem? (i := 21) (by decide +kernel), List.mem_of_getElem? (i := 401) (by decide +kernel), List.mem_of_getElem? (i := 402) (by decide +kernel)⟩
theorem lw_p25 : lw_okq (⟨"NextLife$World", "shareOf", "(II)I"⟩, 12) := ⟨⟨by decide +kernel, by decide +kernel⟩, List.mem_of_getElem? (i := 21) (by decide +kernel), List.mem_of_getElem? (i := 417) (by decide +kernel), List.mem_of_getElem? (i := 418) (by decide +kernel)⟩
theorem lw_p26 : lw_okq (⟨"NextLife$Matching", "weigh", "(LNextLife$World;)V"⟩, 1) := ⟨⟨by decide +kernel, by decide +kernel⟩, List.mem_of_getElem? (i := 159) (by decide +kernel), List.mem_of_getElem? (i := 425) (by decide +kernel), List.mem_of_getElem? (i := 426) (by decide +kernel)⟩
theorem lw_p27 : lw_okq (⟨"NextLife$World", "boxesFor", "(I)I"⟩, 12) := ⟨⟨by decide +kernel, by decide +kernel⟩, List.mem_of_getElem? (i := 21) (by decide +kernel), List.mem_of_getElem? (i := 429) (by decide +kernel), List.mem_of_getElem? (i := 430) (by decide +kernel)⟩
theorem lw_p28 : lw_okq (⟨"NextLife$Matching", "mostOf", "(LNextLife$World;III)I"⟩, 1) := ⟨⟨by decide +kernel, by decide +kernel⟩, List.mem_of_getElem? (i := 159) (by decide +kernel), List.mem_of_getElem? (i := 433) (by decide +kernel), List.mem_of_getElem? (i := 434) (by decide +kernel)⟩
theorem lw_p29 : lw_okq (⟨"NextLife$Matching", "mostBehind", "(II)I"⟩, 1) := ⟨⟨by decide +kernel, by decide +kernel⟩, List.mem_of_getElem? (i := 159) (by decide +kernel), List.mem_of_getElem? (i := 437) (by decide +kernel), List.mem_of_getElem? (i := 438) (by decide +kernel)⟩
theorem lw_p30 : lw_okq (⟨"NextLife$Matching", "mostWith", "(LNextLife$World;III)I"⟩, 1) := ⟨⟨by decide +kernel, by decide +kernel⟩, List.mem_of_getElem? (i := 159) (by decide +kernel), List.mem_of_getElem? (i := 442) (by decide +kernel), List.mem_of_getElem? (i := 443) (by decide +kernel)⟩
theorem lw_p31 : lw_okq (⟨"NextLife$Matching", "mostTogether", "()I"⟩, 1) := ⟨⟨by decide +kernel, by decide +kernel⟩, List.mem_of_getElem? (i := 159) (by decide +kernel), List.mem_of_getElem? (i := 447) (by decide +kernel), List.mem_of_getElem? (i := 448) (by decide +kernel)⟩
def lw_privs_2 : List (MethodName × Nat) := [(⟨"NextLife$World", "lend", "(III)V"⟩, 12), (⟨"NextLife$World", "fillPurse", "(II)V"⟩, 12), (⟨"NextLife$World", "tryBox", "(II)V"⟩, 12), (⟨"NextLife", "yearsCanBe", "()Z"⟩, 6), (⟨"NextLife$World", "soulsLetIn", "(I)I"⟩, 12), (⟨"NextLife$World", "creditorsBehind", "(I)I"⟩, 12), (⟨"NextLife$World", "creditorsOf", "(I)I"⟩, 12), (⟨"NextLife$World", "shortestNote", "(I)I"⟩, 12), (⟨"NextLife$World", "anotherHas", "(II)Z"⟩, 12), (⟨"NextLife$World", "shareOf", "(II)I"⟩, 12), (⟨"NextLife$Matching", "weigh", "(LNextLife$World;)V"⟩, 1), (⟨"NextLife$World", "boxesFor", "(I)I"⟩, 12), (⟨"NextLife$Matching", "mostOf", "(LNextLife$World;III)I"⟩, 1), (⟨"NextLife$Matching", "mostBehind", "(II)I"⟩, 1), (⟨"NextLife$Matching", "mostWith", "(LNextLife$World;III)I"⟩, 1), (⟨"NextLife$Matching", "mostTogether", "()I"⟩, 1)]
theorem lw_r2 : ∀ q ∈ lw_privs_2, lw_okq q := List.forall_mem_cons.mpr ⟨lw_p16, List.forall_mem_cons.mpr ⟨lw_p17, List.forall_mem_cons.mpr ⟨lw_p18, List.forall_mem_cons.mpr ⟨lw_p19, List.forall_mem_cons.mpr ⟨lw_p20, List.forall_mem_cons.mpr ⟨lw_p21, List.forall_mem_cons.mpr ⟨lw_p22, List.forall_mem_cons.mpr ⟨lw_p23, List.forall_mem_cons.mpr ⟨lw_p24, List.forall_mem_cons.mpr ⟨lw_p25, List.forall_mem_cons.mpr ⟨lw_p26, List.forall_mem_cons.mpr ⟨lw_p27, List.forall_mem_cons.mpr ⟨lw_p28, List.forall_mem_cons.mpr ⟨lw_p29, List.forall_mem_cons.mpr ⟨lw_p30, List.forall_mem_cons.mpr ⟨lw_p31, fun _ h => absurd h List.not_mem_nil⟩⟩⟩⟩⟩⟩⟩⟩⟩⟩⟩⟩⟩⟩⟩⟩
theorem lw_p32 : lw_okq (⟨"NextLife$Matching", "boxOf", "(LNextLife$World;I)I"⟩, 1) := ⟨⟨by decide +kernel, by decide +kernel⟩, List.mem_of_getElem? (i := 159) (by decide +kernel), List.mem_of_getElem? (i := 451) (by decide +kernel), List.mem_of_getElem? (i := 452) (by decide +kernel)⟩
theorem lw_p33 : lw_okq (⟨"NextLife$Matching", "leastBestBox", "(LNextLife$World;II)I"⟩, 1) := ⟨⟨by decide +kernel, by decide +kernel⟩, List.mem_of_getElem? (i := 159) (by decide +kernel), List.mem_of_getElem? (i := 455) (by decide +kernel), List.mem_of_getElem? (i := 456) (by decide +kernel)⟩
theorem lw_p34 : lw_okq (⟨"NextLife$World", "addSight", "(IZ)Z"⟩, 12) := ⟨⟨by decide +kernel, by decide +kernel⟩, List.mem_of_getElem? (i := 21) (by decide +kernel), List.mem_of_getElem? (i := 463) (by decide +kernel), List.mem_of_getElem? (i := 464) (by decide +kernel)⟩
theorem lw_p35 : lw_okq (⟨"NextLife$Lawbook", "howMany", "(LNextLife$World;)I"⟩, 2) := ⟨⟨by decide +kernel, by decide +kernel⟩, List.mem_of_getElem? (i := 169) (by decide +kernel), List.mem_of_getElem? (i := 475) (by decide +kernel), List.mem_of_getElem? (i := 476) (by decide +kernel)⟩
theorem lw_p36 : lw_okq (⟨"NextLife$Lawbook", "weigh", "(LNextLife$World;)V"⟩, 2) := ⟨⟨by decide +kernel, by decide +kernel⟩, List.mem_of_getElem? (i := 169) (by decide +kernel), List.mem_of_getElem? (i := 479) (by decide +kernel), List.mem_of_getElem? (i := 480) (by decide +kernel)⟩
theorem lw_p37 : lw_okq (⟨"NextLife$Lawbook", "weighWants", "(LNextLife$World;III)V"⟩, 2) := ⟨⟨by decide +kernel, by decide +kernel⟩, List.mem_of_getElem? (i := 169) (by decide +kernel), List.mem_of_getElem? (i := 493) (by decide +kernel), List.mem_of_getElem? (i := 494) (by decide +kernel)⟩
theorem lw_p38 : lw_okq (⟨"NextLife$Lawbook", "lawAt", "(LNextLife$World;I)I"⟩, 2) := ⟨⟨by decide +kernel, by decide +kernel⟩, List.mem_of_getElem? (i := 169) (by decide +kernel), List.mem_of_getElem? (i := 497) (by decide +kernel), List.mem_of_getElem? (i := 498) (by decide +kernel)⟩
theorem lw_p39 : lw_okq (⟨"NextLife$Lawbook", "soulToTry", "(LNextLife$World;)I"⟩, 2) := ⟨⟨by decide +kernel, by decide +kernel⟩, List.mem_of_getElem? (i := 169) (by decide +kernel), List.mem_of_getElem? (i := 506) (by decide +kernel), List.mem_of_getElem? (i := 507) (by decide +kernel)⟩
theorem lw_p40 : lw_okq (⟨"NextLife$Lawbook", "mostLeft", "(I)I"⟩, 2) := ⟨⟨by decide +kernel, by decide +kernel⟩, List.mem_of_getElem? (i := 169) (by decide +kernel), List.mem_of_getElem? (i := 511) (by decide +kernel), List.mem_of_getElem? (i := 512) (by decide +kernel)⟩
theorem lw_p41 : lw_okq (⟨"NextLife$Trial", "followDraws", "(LNextLife$World;II)V"⟩, 7) := ⟨⟨by decide +kernel, by decide +kernel⟩, List.mem_of_getElem? (i := 97) (by decide +kernel), List.mem_of_getElem? (i := 537) (by decide +kernel), List.mem_of_getElem? (i := 538) (by decide +kernel)⟩
theorem lw_p42 : lw_okq (⟨"NextLife$Act", "drawFrom", "(I)V"⟩, 4) := ⟨⟨by decide +kernel, by decide +kernel⟩, List.mem_of_getElem? (i := 105) (by decide +kernel), List.mem_of_getElem? (i := 542) (by decide +kernel), List.mem_of_getElem? (i := 543) (by decide +kernel)⟩
theorem lw_p43 : lw_okq (⟨"NextLife$World", "pursesTogether", "()I"⟩, 12) := ⟨⟨by decide +kernel, by decide +kernel⟩, List.mem_of_getElem? (i := 21) (by decide +kernel), List.mem_of_getElem? (i := 546) (by decide +kernel), List.mem_of_getElem? (i := 547) (by decide +kernel)⟩
theorem lw_p44 : lw_okq (⟨"NextLife$World", "coinsLeft", "()I"⟩, 12) := ⟨⟨by decide +kernel, by decide +kernel⟩, List.mem_of_getElem? (i := 21) (by decide +kernel), List.mem_of_getElem? (i := 550) (by decide +kernel), List.mem_of_getElem? (i := 551) (by decide +kernel)⟩
theorem lw_p45 : lw_okq (⟨"NextLife", "toldOfSoul", "(II)I"⟩, 6) := ⟨⟨by decide +kernel, by decide +kernel⟩, List.mem_of_getElem? (i := 13) (by decide +kernel), List.mem_of_getElem? (i := 566) (by decide +kernel), List.mem_of_getElem? (i := 567) (by decide +kernel)⟩
theorem lw_p46 : lw_okq (⟨"NextLife", "toldOfBox", "(II)I"⟩, 6) := ⟨⟨by decide +kernel, by decide +kernel⟩, List.mem_of_getElem? (i := 13) (by decide +kernel), List.mem_of_getElem? (i := 570) (by decide +kernel), List.mem_of_getElem? (i := 571) (by decide +kernel)⟩
theorem lw_p47 : lw_okq (⟨"NextLifeModel", "faultOf", "()I"⟩, 17) := ⟨⟨by decide +kernel, by decide +kernel⟩, List.mem_of_getElem? (i := 574) (by decide +kernel), List.mem_of_getElem? (i := 665) (by decide +kernel), List.mem_of_getElem? (i := 666) (by decide +kernel)⟩
def lw_privs_3 : List (MethodName × Nat) := [(⟨"NextLife$Matching", "boxOf", "(LNextLife$World;I)I"⟩, 1), (⟨"NextLife$Matching", "leastBestBox", "(LNextLife$World;II)I"⟩, 1), (⟨"NextLife$World", "addSight", "(IZ)Z"⟩, 12), (⟨"NextLife$Lawbook", "howMany", "(LNextLife$World;)I"⟩, 2), (⟨"NextLife$Lawbook", "weigh", "(LNextLife$World;)V"⟩, 2), (⟨"NextLife$Lawbook", "weighWants", "(LNextLife$World;III)V"⟩, 2), (⟨"NextLife$Lawbook", "lawAt", "(LNextLife$World;I)I"⟩, 2), (⟨"NextLife$Lawbook", "soulToTry", "(LNextLife$World;)I"⟩, 2), (⟨"NextLife$Lawbook", "mostLeft", "(I)I"⟩, 2), (⟨"NextLife$Trial", "followDraws", "(LNextLife$World;II)V"⟩, 7), (⟨"NextLife$Act", "drawFrom", "(I)V"⟩, 4), (⟨"NextLife$World", "pursesTogether", "()I"⟩, 12), (⟨"NextLife$World", "coinsLeft", "()I"⟩, 12), (⟨"NextLife", "toldOfSoul", "(II)I"⟩, 6), (⟨"NextLife", "toldOfBox", "(II)I"⟩, 6), (⟨"NextLifeModel", "faultOf", "()I"⟩, 17)]
theorem lw_r3 : ∀ q ∈ lw_privs_3, lw_okq q := List.forall_mem_cons.mpr ⟨lw_p32, List.forall_mem_cons.mpr ⟨lw_p33, List.forall_mem_cons.mpr ⟨lw_p34, List.forall_mem_cons.mpr ⟨lw_p35, List.forall_mem_cons.mpr ⟨lw_p36, List.forall_mem_cons.mpr ⟨lw_p37, List.forall_mem_cons.mpr ⟨lw_p38, List.forall_mem_cons.mpr ⟨lw_p39, List.forall_mem_cons.mpr ⟨lw_p40, List.forall_mem_cons.mpr ⟨lw_p41, List.forall_mem_cons.mpr ⟨lw_p42, List.forall_mem_cons.mpr ⟨lw_p43, List.forall_mem_cons.mpr ⟨lw_p44, List.forall_mem_cons.mpr ⟨lw_p45, List.forall_mem_cons.mpr ⟨lw_p46, List.forall_mem_cons.mpr ⟨lw_p47, fun _ h => absurd h List.not_mem_nil⟩⟩⟩⟩⟩⟩⟩⟩⟩⟩⟩⟩⟩⟩⟩⟩
theorem lw_p48 : lw_okq (⟨"NextLifeModel", "goYears", "()I"⟩, 17) := ⟨⟨by decide +kernel, by decide +kernel⟩, List.mem_of_getElem? (i := 574) (by decide +kernel), List.mem_of_getElem? (i := 676) (by decide +kernel), List.mem_of_getElem? (i := 677) (by decide +kernel)⟩
theorem lw_p49 : lw_okq (⟨"NextLifeModel", "asNow", "()V"⟩, 17) := ⟨⟨by decide +kernel, by decide +kernel⟩, List.mem_of_getElem? (i := 574) (by decide +kernel), List.mem_of_getElem? (i := 680) (by decide +kernel), List.mem_of_getElem? (i := 681) (by decide +kernel)⟩
theorem lw_p50 : lw_okq (⟨"NextLifeModel", "endYear", "()I"⟩, 17) := ⟨⟨by decide +kernel, by decide +kernel⟩, List.mem_of_getElem? (i := 574) (by decide +kernel), List.mem_of_getElem? (i := 684) (by decide +kernel), List.mem_of_getElem? (i := 685) (by decide +kernel)⟩
theorem lw_p51 : lw_okq (⟨"NextLifeModel", "dies", "(II)I"⟩, 17) := ⟨⟨by decide +kernel, by decide +kernel⟩, List.mem_of_getElem? (i := 574) (by decide +kernel), List.mem_of_getElem? (i := 688) (by decide +kernel), List.mem_of_getElem? (i := 689) (by decide +kernel)⟩
theorem lw_p52 : lw_okq (⟨"NextLifeModel", "lends", "(III)I"⟩, 17) := ⟨⟨by decide +kernel, by decide +kernel⟩, List.mem_of_getElem? (i := 574) (by decide +kernel), List.mem_of_getElem? (i := 695) (by decide +kernel), List.mem_of_getElem? (i := 696) (by decide +kernel)⟩
theorem lw_p53 : lw_okq (⟨"NextLifeModel", "gets", "(II)V"⟩, 17) := ⟨⟨by decide +kernel, by decide +kernel⟩, List.mem_of_getElem? (i := 574) (by decide +kernel), List.mem_of_getElem? (i := 699) (by decide +kernel), List.mem_of_getElem? (i := 700) (by decide +kernel)⟩
theorem lw_p54 : lw_okq (⟨"NextLifeModel", "tries", "(II)I"⟩, 17) := ⟨⟨by decide +kernel, by decide +kernel⟩, List.mem_of_getElem? (i := 574) (by decide +kernel), List.mem_of_getElem? (i := 703) (by decide +kernel), List.mem_of_getElem? (i := 704) (by decide +kernel)⟩
theorem lw_p55 : lw_okq (⟨"NextLifeModel", "doesOpen", "(II)Z"⟩, 17) := ⟨⟨by decide +kernel, by decide +kernel⟩, List.mem_of_getElem? (i := 574) (by decide +kernel), List.mem_of_getElem? (i := 707) (by decide +kernel), List.mem_of_getElem? (i := 708) (by decide +kernel)⟩
theorem lw_p56 : lw_okq (⟨"NextLifeModel", "barOfYears", "()I"⟩, 17) := ⟨⟨by decide +kernel, by decide +kernel⟩, List.mem_of_getElem? (i := 574) (by decide +kernel), List.mem_of_getElem? (i := 715) (by decide +kernel), List.mem_of_getElem? (i := 716) (by decide +kernel)⟩
theorem lw_p57 : lw_okq (⟨"NextLifeModel", "openSet", "(I)I"⟩, 17) := ⟨⟨by decide +kernel, by decide +kernel⟩, List.mem_of_getElem? (i := 574) (by decide +kernel), List.mem_of_getElem? (i := 731) (by decide +kernel), List.mem_of_getElem? (i := 732) (by decide +kernel)⟩
theorem lw_p58 : lw_okq (⟨"NextLifeModel", "lives", "(I)Z"⟩, 17) := ⟨⟨by decide +kernel, by decide +kernel⟩, List.mem_of_getElem? (i := 574) (by decide +kernel), List.mem_of_getElem? (i := 735) (by decide +kernel), List.mem_of_getElem? (i := 736) (by decide +kernel)⟩
theorem lw_p59 : lw_okq (⟨"NextLifeModel", "feels", "(II)I"⟩, 17) := ⟨⟨by decide +kernel, by decide +kernel⟩, List.mem_of_getElem? (i := 574) (by decide +kernel), List.mem_of_getElem? (i := 771) (by decide +kernel), List.mem_of_getElem? (i := 772) (by decide +kernel)⟩
theorem lw_p60 : lw_okq (⟨"NextLifeModel", "layMatch", "()V"⟩, 17) := ⟨⟨by decide +kernel, by decide +kernel⟩, List.mem_of_getElem? (i := 574) (by decide +kernel), List.mem_of_getElem? (i := 779) (by decide +kernel), List.mem_of_getElem? (i := 780) (by decide +kernel)⟩
theorem lw_p61 : lw_okq (⟨"NextLifeModel", "isLaw", "(II)Z"⟩, 17) := ⟨⟨by decide +kernel, by decide +kernel⟩, List.mem_of_getElem? (i := 574) (by decide +kernel), List.mem_of_getElem? (i := 795) (by decide +kernel), List.mem_of_getElem? (i := 796) (by decide +kernel)⟩
def lw_privs_4 : List (MethodName × Nat) := [(⟨"NextLifeModel", "goYears", "()I"⟩, 17), (⟨"NextLifeModel", "asNow", "()V"⟩, 17), (⟨"NextLifeModel", "endYear", "()I"⟩, 17), (⟨"NextLifeModel", "dies", "(II)I"⟩, 17), (⟨"NextLifeModel", "lends", "(III)I"⟩, 17), (⟨"NextLifeModel", "gets", "(II)V"⟩, 17), (⟨"NextLifeModel", "tries", "(II)I"⟩, 17), (⟨"NextLifeModel", "doesOpen", "(II)Z"⟩, 17), (⟨"NextLifeModel", "barOfYears", "()I"⟩, 17), (⟨"NextLifeModel", "openSet", "(I)I"⟩, 17), (⟨"NextLifeModel", "lives", "(I)Z"⟩, 17), (⟨"NextLifeModel", "feels", "(II)I"⟩, 17), (⟨"NextLifeModel", "layMatch", "()V"⟩, 17), (⟨"NextLifeModel", "isLaw", "(II)Z"⟩, 17)]
theorem lw_r4 : ∀ q ∈ lw_privs_4, lw_okq q := List.forall_mem_cons.mpr ⟨lw_p48, List.forall_mem_cons.mpr ⟨lw_p49, List.forall_mem_cons.mpr ⟨lw_p50, List.forall_mem_cons.mpr ⟨lw_p51, List.forall_mem_cons.mpr ⟨lw_p52, List.forall_mem_cons.mpr ⟨lw_p53, List.forall_mem_cons.mpr ⟨lw_p54, List.forall_mem_cons.mpr ⟨lw_p55, List.forall_mem_cons.mpr ⟨lw_p56, List.forall_mem_cons.mpr ⟨lw_p57, List.forall_mem_cons.mpr ⟨lw_p58, List.forall_mem_cons.mpr ⟨lw_p59, List.forall_mem_cons.mpr ⟨lw_p60, List.forall_mem_cons.mpr ⟨lw_p61, fun _ h => absurd h List.not_mem_nil⟩⟩⟩⟩⟩⟩⟩⟩⟩⟩⟩⟩⟩⟩
def lw_privs : List (MethodName × Nat) := lw_privs_1 ++ (lw_privs_2 ++ (lw_privs_3 ++ (lw_privs_4)))
def lw_tbl : List Cond := k2_sels lw_privs ++ tables_1
theorem lw_privs_ok : ∀ q ∈ lw_privs, lw_okq q := by
  show ∀ q ∈ lw_privs_1 ++ (lw_privs_2 ++ (lw_privs_3 ++ (lw_privs_4))), lw_okq q
  exact List.forall_mem_append.mpr ⟨lw_r1, List.forall_mem_append.mpr ⟨lw_r2, List.forall_mem_append.mpr ⟨lw_r3, lw_r4⟩⟩⟩
-- names (by program, out of the claim)
def RX0 : String := "NextLife$Act"
def TX0 : u_T := fun k => match k with
  | 0 => ("NextLife$Act", "kind", "I", false)
  | 1 => ("NextLife$Act", "first", "I", false)
  | 2 => ("NextLife$Act", "second", "I", false)
  | _ => ("NextLife$Act", "coins", "I", false)
def tyX0 : Nat → FieldType := fun k => match k with
  | 0 => .int
  | 1 => .int
  | 2 => .int
  | _ => .int
abbrev wsX00 : List Cond := u_ws RX0 TX0 4
theorem nmX0 : ∀ a, a < 4 → ∀ b, b < 4 → a ≠ b → (TX0 a).2.1 ≠ (TX0 b).2.1 := by decide +kernel
theorem tyX0_ok : ∀ k, k < 4 → parseFieldDescriptor (TX0 k).2.2.1 = some (tyX0 k) := by decide +kernel
abbrev cX0_init : ByteArray := prog_2_method_1_code
def yX0_init : MethodName := ⟨RX0, "<init>", "()V"⟩
abbrev cX0_readFrom : ByteArray := prog_2_method_2_code
def yX0_readFrom : MethodName := ⟨RX0, "readFrom", "(LNextLife$Pad;I)I"⟩
abbrev cX0_drawFrom : ByteArray := prog_2_method_3_code
def yX0_drawFrom : MethodName := ⟨RX0, "drawFrom", "(I)V"⟩
def RX1 : String := "NextLife$Lawbook"
def TX1 : u_T := fun k => match k with
  | 0 => ("NextLife$Lawbook", "opening", "[I", true)
  | _ => ("NextLife$Lawbook", "total", "I", false)
def tyX1 : Nat → FieldType := fun k => match k with
  | 0 => .array .int
  | _ => .int
abbrev wsX10 : List Cond := u_ws RX1 TX1 2
theorem nmX1 : ∀ a, a < 2 → ∀ b, b < 2 → a ≠ b → (TX1 a).2.1 ≠ (TX1 b).2.1 := by decide +kernel
theorem tyX1_ok : ∀ k, k < 2 → parseFieldDescriptor (TX1 k).2.2.1 = some (tyX1 k) := by decide +kernel
abbrev cX1_init : ByteArray := prog_3_method_1_code
def yX1_init : MethodName := ⟨RX1, "<init>", "()V"⟩
abbrev cX1_leastHits : ByteArray := prog_3_method_2_code
def yX1_leastHits : MethodName := ⟨RX1, "leastHits", "(LNextLife$World;I)I"⟩
abbrev cX1_mostHits : ByteArray := prog_3_method_3_code
def yX1_mostHits : MethodName := ⟨RX1, "mostHits", "(LNextLife$World;I)I"⟩
abbrev cX1_howMany : ByteArray := prog_3_method_4_code
def yX1_howMany : MethodName := ⟨RX1, "howMany", "(LNextLife$World;)I"⟩
abbrev cX1_lawAt : ByteArray := prog_3_method_5_code
def yX1_lawAt : MethodName := ⟨RX1, "lawAt", "(LNextLife$World;I)I"⟩
abbrev cX1_weigh : ByteArray := prog_3_method_6_code
def yX1_weigh : MethodName := ⟨RX1, "weigh", "(LNextLife$World;)V"⟩
abbrev cX1_weighWants : ByteArray := prog_3_method_7_code
def yX1_weighWants : MethodName := ⟨RX1, "weighWants", "(LNextLife$World;III)V"⟩
abbrev cX1_mostLeft : ByteArray := prog_3_method_8_code
def yX1_mostLeft : MethodName := ⟨RX1, "mostLeft", "(I)I"⟩
abbrev cX1_soulToTry : ByteArray := prog_3_method_9_code
def yX1_soulToTry : MethodName := ⟨RX1, "soulToTry", "(LNextLife$World;)I"⟩
def RX2 : String := "NextLife$Matching"
def TX2 : u_T := fun k => match k with
  | _ => ("NextLife$Matching", "most", "[I", true)
def tyX2 : Nat → FieldType := fun k => match k with
  | _ => .array .int
abbrev wsX20 : List Cond := u_ws RX2 TX2 1
theorem nmX2 : ∀ a, a < 1 → ∀ b, b < 1 → a ≠ b → (TX2 a).2.1 ≠ (TX2 b).2.1 := by decide +kernel
theorem tyX2_ok : ∀ k, k < 1 → parseFieldDescriptor (TX2 k).2.2.1 = some (tyX2 k) := by decide +kernel
abbrev cX2_init : ByteArray := prog_4_method_1_code
def yX2_init : MethodName := ⟨RX2, "<init>", "()V"⟩
abbrev cX2_weigh : ByteArray := prog_4_method_2_code
def yX2_weigh : MethodName := ⟨RX2, "weigh", "(LNextLife$World;)V"⟩
abbrev cX2_mostOf : ByteArray := prog_4_method_3_code
def yX2_mostOf : MethodName := ⟨RX2, "mostOf", "(LNextLife$World;III)I"⟩
abbrev cX2_mostBehind : ByteArray := prog_4_method_4_code
def yX2_mostBehind : MethodName := ⟨RX2, "mostBehind", "(II)I"⟩
abbrev cX2_mostWith : ByteArray := prog_4_method_5_code
def yX2_mostWith : MethodName := ⟨RX2, "mostWith", "(LNextLife$World;III)I"⟩
abbrev cX2_mostTogether : ByteArray := prog_4_method_6_code
def yX2_mostTogether : MethodName := ⟨RX2, "mostTogether", "()I"⟩
abbrev cX2_boxOf : ByteArray := prog_4_method_7_code
def yX2_boxOf : MethodName := ⟨RX2, "boxOf", "(LNextLife$World;I)I"⟩
abbrev cX2_leastBestBox : ByteArray := prog_4_method_8_code
def yX2_leastBestBox : MethodName := ⟨RX2, "leastBestBox", "(LNextLife$World;II)I"⟩
def RX3 : String := "NextLife$Pad"
def TX3 : u_T := fun k => match k with
  | 0 => ("NextLife$Pad", "signs", "[I", true)
  | _ => ("NextLife$Pad", "count", "I", false)
def tyX3 : Nat → FieldType := fun k => match k with
  | 0 => .array .int
  | _ => .int
abbrev wsX30 : List Cond := u_ws RX3 TX3 2
theorem nmX3 : ∀ a, a < 2 → ∀ b, b < 2 → a ≠ b → (TX3 a).2.1 ≠ (TX3 b).2.1 := by decide +kernel
theorem tyX3_ok : ∀ k, k < 2 → parseFieldDescriptor (TX3 k).2.2.1 = some (tyX3 k) := by decide +kernel
abbrev cX3_init : ByteArray := prog_5_method_1_code
def yX3_init : MethodName := ⟨RX3, "<init>", "()V"⟩
abbrev cX3_put : ByteArray := prog_5_method_2_code
def yX3_put : MethodName := ⟨RX3, "put", "(I)Z"⟩
abbrev cX3_signAt : ByteArray := prog_5_method_3_code
def yX3_signAt : MethodName := ⟨RX3, "signAt", "(I)I"⟩
abbrev cX3_faultPlace : ByteArray := prog_5_method_4_code
def yX3_faultPlace : MethodName := ⟨RX3, "faultPlace", "()I"⟩
abbrev cX3_stepOver : ByteArray := prog_5_method_5_code
def yX3_stepOver : MethodName := ⟨RX3, "stepOver", "(II)I"⟩
def RX4 : String := "NextLife$Trial"
def TX4 : u_T := fun k => match k with
  | 0 => ("NextLife$Trial", "world", "LNextLife$World;", true)
  | 1 => ("NextLife$Trial", "act", "LNextLife$Act;", true)
  | 2 => ("NextLife$Trial", "acts", "I", false)
  | 3 => ("NextLife$Trial", "badAct", "I", false)
  | 4 => ("NextLife$Trial", "badWhy", "I", false)
  | 5 => ("NextLife$Trial", "openedTries", "I", false)
  | _ => ("NextLife$Trial", "otherTry", "I", false)
def tyX4 : Nat → FieldType := fun k => match k with
  | 0 => .object "NextLife$World"
  | 1 => .object "NextLife$Act"
  | 2 => .int
  | 3 => .int
  | 4 => .int
  | 5 => .int
  | _ => .int
abbrev wsX40 : List Cond := u_ws RX4 TX4 7
theorem nmX4 : ∀ a, a < 7 → ∀ b, b < 7 → a ≠ b → (TX4 a).2.1 ≠ (TX4 b).2.1 := by decide +kernel
theorem tyX4_ok : ∀ k, k < 7 → parseFieldDescriptor (TX4 k).2.2.1 = some (tyX4 k) := by decide +kernel
abbrev cX4_init : ByteArray := prog_6_method_1_code
def yX4_init : MethodName := ⟨RX4, "<init>", "()V"⟩
abbrev cX4_followPad : ByteArray := prog_6_method_2_code
def yX4_followPad : MethodName := ⟨RX4, "followPad", "(LNextLife$World;LNextLife$Pad;)V"⟩
abbrev cX4_countTry : ByteArray := prog_6_method_3_code
def yX4_countTry : MethodName := ⟨RX4, "countTry", "()V"⟩
abbrev cX4_followDraws : ByteArray := prog_6_method_4_code
def yX4_followDraws : MethodName := ⟨RX4, "followDraws", "(LNextLife$World;II)V"⟩
def RX5 : String := "NextLife$World"
def TX5 : u_T := fun k => match k with
  | 0 => ("NextLife$World", "lives", "I", false)
  | 1 => ("NextLife$World", "year", "I", false)
  | 2 => ("NextLife$World", "sights", "I", false)
  | 3 => ("NextLife$World", "openedSights", "I", false)
  | 4 => ("NextLife$World", "marks", "[I", true)
  | 5 => ("NextLife$World", "purses", "[I", true)
  | 6 => ("NextLife$World", "was", "[I", true)
  | 7 => ("NextLife$World", "debts", "[I", true)
  | 8 => ("NextLife$World", "wants", "[I", true)
  | 9 => ("NextLife$World", "hits", "[I", true)
  | 10 => ("NextLife$World", "coins", "[I", true)
  | _ => ("NextLife$World", "sightMarks", "[I", true)
def tyX5 : Nat → FieldType := fun k => match k with
  | 0 => .int
  | 1 => .int
  | 2 => .int
  | 3 => .int
  | 4 => .array .int
  | 5 => .array .int
  | 6 => .array .int
  | 7 => .array .int
  | 8 => .array .int
  | 9 => .array .int
  | 10 => .array .int
  | _ => .array .int
abbrev wsX50 : List Cond := u_ws RX5 TX5 12
theorem nmX5 : ∀ a, a < 12 → ∀ b, b < 12 → a ≠ b → (TX5 a).2.1 ≠ (TX5 b).2.1 := by decide +kernel
theorem tyX5_ok : ∀ k, k < 12 → parseFieldDescriptor (TX5 k).2.2.1 = some (tyX5 k) := by decide +kernel
abbrev cX5_init : ByteArray := prog_7_method_1_code
def yX5_init : MethodName := ⟨RX5, "<init>", "()V"⟩
abbrev cX5_debtPlace : ByteArray := prog_7_method_2_code
def yX5_debtPlace : MethodName := ⟨RX5, "debtPlace", "(II)I"⟩
abbrev cX5_copyFrom : ByteArray := prog_7_method_3_code
def yX5_copyFrom : MethodName := ⟨RX5, "copyFrom", "(LNextLife$World;)V"⟩
abbrev cX5_isLiving : ByteArray := prog_7_method_4_code
def yX5_isLiving : MethodName := ⟨RX5, "isLiving", "(I)Z"⟩
abbrev cX5_bear : ByteArray := prog_7_method_5_code
def yX5_bear : MethodName := ⟨RX5, "bear", "(III)V"⟩
abbrev cX5_felt : ByteArray := prog_7_method_6_code
def yX5_felt : MethodName := ⟨RX5, "felt", "(II)I"⟩
abbrev cX5_letsIn : ByteArray := prog_7_method_7_code
def yX5_letsIn : MethodName := ⟨RX5, "letsIn", "(II)Z"⟩
abbrev cX5_soulsLetIn : ByteArray := prog_7_method_8_code
def yX5_soulsLetIn : MethodName := ⟨RX5, "soulsLetIn", "(I)I"⟩
abbrev cX5_boxesFor : ByteArray := prog_7_method_9_code
def yX5_boxesFor : MethodName := ⟨RX5, "boxesFor", "(I)I"⟩
abbrev cX5_hindrance : ByteArray := prog_7_method_10_code
def yX5_hindrance : MethodName := ⟨RX5, "hindrance", "(LNextLife$Act;)I"⟩
abbrev cX5_canLend : ByteArray := prog_7_method_11_code
def yX5_canLend : MethodName := ⟨RX5, "canLend", "(III)Z"⟩
abbrev cX5_perform : ByteArray := prog_7_method_12_code
def yX5_perform : MethodName := ⟨RX5, "perform", "(LNextLife$Act;)V"⟩
abbrev cX5_tryBox : ByteArray := prog_7_method_13_code
def yX5_tryBox : MethodName := ⟨RX5, "tryBox", "(II)V"⟩
abbrev cX5_comeBack : ByteArray := prog_7_method_14_code
def yX5_comeBack : MethodName := ⟨RX5, "comeBack", "(II)V"⟩
abbrev cX5_moveDebt : ByteArray := prog_7_method_15_code
def yX5_moveDebt : MethodName := ⟨RX5, "moveDebt", "(II)V"⟩
abbrev cX5_lend : ByteArray := prog_7_method_16_code
def yX5_lend : MethodName := ⟨RX5, "lend", "(III)V"⟩
abbrev cX5_fillPurse : ByteArray := prog_7_method_17_code
def yX5_fillPurse : MethodName := ⟨RX5, "fillPurse", "(II)V"⟩
abbrev cX5_creditorsBehind : ByteArray := prog_7_method_18_code
def yX5_creditorsBehind : MethodName := ⟨RX5, "creditorsBehind", "(I)I"⟩
abbrev cX5_creditorsOf : ByteArray := prog_7_method_19_code
def yX5_creditorsOf : MethodName := ⟨RX5, "creditorsOf", "(I)I"⟩
abbrev cX5_shortestNote : ByteArray := prog_7_method_20_code
def yX5_shortestNote : MethodName := ⟨RX5, "shortestNote", "(I)I"⟩
abbrev cX5_anotherHas : ByteArray := prog_7_method_21_code
def yX5_anotherHas : MethodName := ⟨RX5, "anotherHas", "(II)Z"⟩
abbrev cX5_shareOf : ByteArray := prog_7_method_22_code
def yX5_shareOf : MethodName := ⟨RX5, "shareOf", "(II)I"⟩
abbrev cX5_pursesTogether : ByteArray := prog_7_method_23_code
def yX5_pursesTogether : MethodName := ⟨RX5, "pursesTogether", "()I"⟩
abbrev cX5_coinsLeft : ByteArray := prog_7_method_24_code
def yX5_coinsLeft : MethodName := ⟨RX5, "coinsLeft", "()I"⟩
abbrev cX5_addSight : ByteArray := prog_7_method_25_code
def yX5_addSight : MethodName := ⟨RX5, "addSight", "(IZ)Z"⟩
def RX6 : String := "NextLife"
def TX6 : u_T := fun k => match k with
  | 0 => ("NextLife", "now", "LNextLife$World;", true)
  | 1 => ("NextLife", "images", "[LNextLife$World;", true)
  | 2 => ("NextLife", "pad", "LNextLife$Pad;", true)
  | 3 => ("NextLife", "trial", "LNextLife$Trial;", true)
  | 4 => ("NextLife", "matching", "LNextLife$Matching;", true)
  | _ => ("NextLife", "lawbook", "LNextLife$Lawbook;", true)
def tyX6 : Nat → FieldType := fun k => match k with
  | 0 => .object "NextLife$World"
  | 1 => .array (.object "NextLife$World")
  | 2 => .object "NextLife$Pad"
  | 3 => .object "NextLife$Trial"
  | 4 => .object "NextLife$Matching"
  | _ => .object "NextLife$Lawbook"
abbrev wsX60 : List Cond := u_ws RX6 TX6 6
theorem nmX6 : ∀ a, a < 6 → ∀ b, b < 6 → a ≠ b → (TX6 a).2.1 ≠ (TX6 b).2.1 := by decide +kernel
theorem tyX6_ok : ∀ k, k < 6 → parseFieldDescriptor (TX6 k).2.2.1 = some (tyX6 k) := by decide +kernel
abbrev cX6_init : ByteArray := prog_1_method_1_code
def yX6_init : MethodName := ⟨RX6, "<init>", "()V"⟩
abbrev cX6_birth : ByteArray := prog_1_method_2_code
def yX6_birth : MethodName := ⟨RX6, "birth", "(III)I"⟩
abbrev cX6_box : ByteArray := prog_1_method_3_code
def yX6_box : MethodName := ⟨RX6, "box", "(IIII)I"⟩
abbrev cX6_say : ByteArray := prog_1_method_4_code
def yX6_say : MethodName := ⟨RX6, "say", "(I)I"⟩
abbrev cX6_wipe : ByteArray := prog_1_method_5_code
def yX6_wipe : MethodName := ⟨RX6, "wipe", "()I"⟩
abbrev cX6_fault : ByteArray := prog_1_method_6_code
def yX6_fault : MethodName := ⟨RX6, "fault", "()I"⟩
abbrev cX6_judge : ByteArray := prog_1_method_7_code
def yX6_judge : MethodName := ⟨RX6, "judge", "(I)I"⟩
abbrev cX6_done : ByteArray := prog_1_method_8_code
def yX6_done : MethodName := ⟨RX6, "done", "()I"⟩
abbrev cX6_behind : ByteArray := prog_1_method_9_code
def yX6_behind : MethodName := ⟨RX6, "behind", "(II)I"⟩
abbrev cX6_then : ByteArray := prog_1_method_10_code
def yX6_then : MethodName := ⟨RX6, "then", "(I)I"⟩
abbrev cX6_opens : ByteArray := prog_1_method_11_code
def yX6_opens : MethodName := ⟨RX6, "opens", "(I)I"⟩
abbrev cX6_two : ByteArray := prog_1_method_12_code
def yX6_two : MethodName := ⟨RX6, "two", "()I"⟩
abbrev cX6_chain : ByteArray := prog_1_method_13_code
def yX6_chain : MethodName := ⟨RX6, "chain", "(II)I"⟩
abbrev cX6_owes : ByteArray := prog_1_method_14_code
def yX6_owes : MethodName := ⟨RX6, "owes", "(II)I"⟩
abbrev cX6_netted : ByteArray := prog_1_method_15_code
def yX6_netted : MethodName := ⟨RX6, "netted", "(I)I"⟩
abbrev cX6_rings : ByteArray := prog_1_method_16_code
def yX6_rings : MethodName := ⟨RX6, "rings", "()I"⟩
abbrev cX6_note : ByteArray := prog_1_method_17_code
def yX6_note : MethodName := ⟨RX6, "note", "(II)I"⟩
abbrev cX6_only : ByteArray := prog_1_method_18_code
def yX6_only : MethodName := ⟨RX6, "only", "(II)I"⟩
abbrev cX6_share : ByteArray := prog_1_method_19_code
def yX6_share : MethodName := ⟨RX6, "share", "(II)I"⟩
abbrev cX6_match : ByteArray := prog_1_method_20_code
def yX6_match : MethodName := ⟨RX6, "match", "(I)I"⟩
abbrev cX6_seen : ByteArray := prog_1_method_21_code
def yX6_seen : MethodName := ⟨RX6, "seen", "(IZ)I"⟩
abbrev cX6_forget : ByteArray := prog_1_method_22_code
def yX6_forget : MethodName := ⟨RX6, "forget", "()I"⟩
abbrev cX6_laws : ByteArray := prog_1_method_23_code
def yX6_laws : MethodName := ⟨RX6, "laws", "(I)I"⟩
abbrev cX6_next : ByteArray := prog_1_method_24_code
def yX6_next : MethodName := ⟨RX6, "next", "(I)I"⟩
abbrev cX6_chance : ByteArray := prog_1_method_25_code
def yX6_chance : MethodName := ⟨RX6, "chance", "(IIIII)J"⟩
abbrev cX6_book : ByteArray := prog_1_method_26_code
def yX6_book : MethodName := ⟨RX6, "book", "(III)I"⟩
abbrev cX6_image : ByteArray := prog_1_method_27_code
def yX6_image : MethodName := ⟨RX6, "image", "(I)I"⟩
abbrev cX6_restore : ByteArray := prog_1_method_28_code
def yX6_restore : MethodName := ⟨RX6, "restore", "(I)I"⟩
abbrev cX6_told : ByteArray := prog_1_method_29_code
def yX6_told : MethodName := ⟨RX6, "told", "(I)I"⟩
abbrev cX6_toldOfBox : ByteArray := prog_1_method_30_code
def yX6_toldOfBox : MethodName := ⟨RX6, "toldOfBox", "(II)I"⟩
abbrev cX6_toldOfSoul : ByteArray := prog_1_method_31_code
def yX6_toldOfSoul : MethodName := ⟨RX6, "toldOfSoul", "(II)I"⟩
abbrev cX6_yearsCanBe : ByteArray := prog_1_method_32_code
def yX6_yearsCanBe : MethodName := ⟨RX6, "yearsCanBe", "()Z"⟩
abbrev cX6_isWithin : ByteArray := prog_1_method_33_code
def yX6_isWithin : MethodName := ⟨RX6, "isWithin", "(III)Z"⟩
abbrev cX6_isSoul : ByteArray := prog_1_method_34_code
def yX6_isSoul : MethodName := ⟨RX6, "isSoul", "(I)Z"⟩
abbrev cX6_isBox : ByteArray := prog_1_method_35_code
def yX6_isBox : MethodName := ⟨RX6, "isBox", "(I)Z"⟩
abbrev cX6_hasBit : ByteArray := prog_1_method_36_code
def yX6_hasBit : MethodName := ⟨RX6, "hasBit", "(II)Z"⟩
abbrev cX6_power : ByteArray := prog_1_method_37_code
def yX6_power : MethodName := ⟨RX6, "power", "(JI)J"⟩
abbrev cX6_waysToKeep : ByteArray := prog_1_method_38_code
def yX6_waysToKeep : MethodName := ⟨RX6, "waysToKeep", "(IIJJ)J"⟩
abbrev cX6_commonDivisor : ByteArray := prog_1_method_39_code
def yX6_commonDivisor : MethodName := ⟨RX6, "commonDivisor", "(JJ)J"⟩
def RX7 : String := "NextLifeModel"
def TX7 : u_T := fun k => match k with
  | 0 => ("NextLifeModel", "book", "[I", true)
  | 1 => ("NextLifeModel", "now", "[I", true)
  | 2 => ("NextLifeModel", "wants", "[I", true)
  | 3 => ("NextLifeModel", "hits", "[I", true)
  | 4 => ("NextLifeModel", "sights", "I", false)
  | 5 => ("NextLifeModel", "sight", "[I", true)
  | 6 => ("NextLifeModel", "signs", "I", false)
  | 7 => ("NextLifeModel", "pad", "[I", true)
  | 8 => ("NextLifeModel", "opened", "I", false)
  | 9 => ("NextLifeModel", "otherAt", "I", false)
  | 10 => ("NextLifeModel", "isOther", "Z", false)
  | 11 => ("NextLifeModel", "reason", "I", false)
  | 12 => ("NextLifeModel", "acts", "I", false)
  | 13 => ("NextLifeModel", "most", "[I", true)
  | 14 => ("NextLifeModel", "yes", "[I", true)
  | 15 => ("NextLifeModel", "image", "[I", true)
  | _ => ("NextLifeModel", "isKept", "[Z", true)
def tyX7 : Nat → FieldType := fun k => match k with
  | 0 => .array .int
  | 1 => .array .int
  | 2 => .array .int
  | 3 => .array .int
  | 4 => .int
  | 5 => .array .int
  | 6 => .int
  | 7 => .array .int
  | 8 => .int
  | 9 => .int
  | 10 => .boolean
  | 11 => .int
  | 12 => .int
  | 13 => .array .int
  | 14 => .array .int
  | 15 => .array .int
  | _ => .array .boolean
abbrev wsX70 : List Cond := u_ws RX7 TX7 17
theorem nmX7 : ∀ a, a < 17 → ∀ b, b < 17 → a ≠ b → (TX7 a).2.1 ≠ (TX7 b).2.1 := by decide +kernel
theorem tyX7_ok : ∀ k, k < 17 → parseFieldDescriptor (TX7 k).2.2.1 = some (tyX7 k) := by decide +kernel
abbrev cX7_init : ByteArray := prog_9_method_1_code
def yX7_init : MethodName := ⟨RX7, "<init>", "()V"⟩
abbrev cX7_in : ByteArray := prog_9_method_2_code
def yX7_in : MethodName := ⟨RX7, "in", "(III)Z"⟩
abbrev cX7_has : ByteArray := prog_9_method_3_code
def yX7_has : MethodName := ⟨RX7, "has", "(II)Z"⟩
abbrev cX7_bits : ByteArray := prog_9_method_4_code
def yX7_bits : MethodName := ⟨RX7, "bits", "(I)I"⟩
abbrev cX7_isSoul : ByteArray := prog_9_method_5_code
def yX7_isSoul : MethodName := ⟨RX7, "isSoul", "(I)Z"⟩
abbrev cX7_isBox : ByteArray := prog_9_method_6_code
def yX7_isBox : MethodName := ⟨RX7, "isBox", "(I)Z"⟩
abbrev cX7_lives : ByteArray := prog_9_method_7_code
def yX7_lives : MethodName := ⟨RX7, "lives", "(I)Z"⟩
abbrev cX7_birth : ByteArray := prog_9_method_8_code
def yX7_birth : MethodName := ⟨RX7, "birth", "(III)I"⟩
abbrev cX7_box : ByteArray := prog_9_method_9_code
def yX7_box : MethodName := ⟨RX7, "box", "(IIII)I"⟩
abbrev cX7_say : ByteArray := prog_9_method_10_code
def yX7_say : MethodName := ⟨RX7, "say", "(I)I"⟩
abbrev cX7_wipe : ByteArray := prog_9_method_11_code
def yX7_wipe : MethodName := ⟨RX7, "wipe", "()I"⟩
abbrev cX7_isLetter : ByteArray := prog_9_method_12_code
def yX7_isLetter : MethodName := ⟨RX7, "isLetter", "(I)Z"⟩
abbrev cX7_faultOf : ByteArray := prog_9_method_13_code
def yX7_faultOf : MethodName := ⟨RX7, "faultOf", "()I"⟩
abbrev cX7_fault : ByteArray := prog_9_method_14_code
def yX7_fault : MethodName := ⟨RX7, "fault", "()I"⟩
abbrev cX7_asNow : ByteArray := prog_9_method_15_code
def yX7_asNow : MethodName := ⟨RX7, "asNow", "()V"⟩
abbrev cX7_doesOpen : ByteArray := prog_9_method_16_code
def yX7_doesOpen : MethodName := ⟨RX7, "doesOpen", "(II)Z"⟩
abbrev cX7_gets : ByteArray := prog_9_method_17_code
def yX7_gets : MethodName := ⟨RX7, "gets", "(II)V"⟩
abbrev cX7_tries : ByteArray := prog_9_method_18_code
def yX7_tries : MethodName := ⟨RX7, "tries", "(II)I"⟩
abbrev cX7_dies : ByteArray := prog_9_method_19_code
def yX7_dies : MethodName := ⟨RX7, "dies", "(II)I"⟩
abbrev cX7_lends : ByteArray := prog_9_method_20_code
def yX7_lends : MethodName := ⟨RX7, "lends", "(III)I"⟩
abbrev cX7_endYear : ByteArray := prog_9_method_21_code
def yX7_endYear : MethodName := ⟨RX7, "endYear", "()I"⟩
abbrev cX7_goYears : ByteArray := prog_9_method_22_code
def yX7_goYears : MethodName := ⟨RX7, "goYears", "()I"⟩
abbrev cX7_judge : ByteArray := prog_9_method_23_code
def yX7_judge : MethodName := ⟨RX7, "judge", "(I)I"⟩
abbrev cX7_barOfYears : ByteArray := prog_9_method_24_code
def yX7_barOfYears : MethodName := ⟨RX7, "barOfYears", "()I"⟩
abbrev cX7_done : ByteArray := prog_9_method_25_code
def yX7_done : MethodName := ⟨RX7, "done", "()I"⟩
abbrev cX7_behind : ByteArray := prog_9_method_26_code
def yX7_behind : MethodName := ⟨RX7, "behind", "(II)I"⟩
abbrev cX7_then : ByteArray := prog_9_method_27_code
def yX7_then : MethodName := ⟨RX7, "then", "(I)I"⟩
abbrev cX7_openSet : ByteArray := prog_9_method_28_code
def yX7_openSet : MethodName := ⟨RX7, "openSet", "(I)I"⟩
abbrev cX7_opens : ByteArray := prog_9_method_29_code
def yX7_opens : MethodName := ⟨RX7, "opens", "(I)I"⟩
abbrev cX7_two : ByteArray := prog_9_method_30_code
def yX7_two : MethodName := ⟨RX7, "two", "()I"⟩
abbrev cX7_chain : ByteArray := prog_9_method_31_code
def yX7_chain : MethodName := ⟨RX7, "chain", "(II)I"⟩
abbrev cX7_owes : ByteArray := prog_9_method_32_code
def yX7_owes : MethodName := ⟨RX7, "owes", "(II)I"⟩
abbrev cX7_netted : ByteArray := prog_9_method_33_code
def yX7_netted : MethodName := ⟨RX7, "netted", "(I)I"⟩
abbrev cX7_rings : ByteArray := prog_9_method_34_code
def yX7_rings : MethodName := ⟨RX7, "rings", "()I"⟩
abbrev cX7_note : ByteArray := prog_9_method_35_code
def yX7_note : MethodName := ⟨RX7, "note", "(II)I"⟩
abbrev cX7_only : ByteArray := prog_9_method_36_code
def yX7_only : MethodName := ⟨RX7, "only", "(II)I"⟩
abbrev cX7_feels : ByteArray := prog_9_method_37_code
def yX7_feels : MethodName := ⟨RX7, "feels", "(II)I"⟩
abbrev cX7_share : ByteArray := prog_9_method_38_code
def yX7_share : MethodName := ⟨RX7, "share", "(II)I"⟩
abbrev cX7_layMatch : ByteArray := prog_9_method_39_code
def yX7_layMatch : MethodName := ⟨RX7, "layMatch", "()V"⟩
abbrev cX7_match : ByteArray := prog_9_method_40_code
def yX7_match : MethodName := ⟨RX7, "match", "(I)I"⟩
abbrev cX7_seen : ByteArray := prog_9_method_41_code
def yX7_seen : MethodName := ⟨RX7, "seen", "(IZ)I"⟩
abbrev cX7_forget : ByteArray := prog_9_method_42_code
def yX7_forget : MethodName := ⟨RX7, "forget", "()I"⟩
abbrev cX7_isLaw : ByteArray := prog_9_method_43_code
def yX7_isLaw : MethodName := ⟨RX7, "isLaw", "(II)Z"⟩
abbrev cX7_laws : ByteArray := prog_9_method_44_code
def yX7_laws : MethodName := ⟨RX7, "laws", "(I)I"⟩
abbrev cX7_next : ByteArray := prog_9_method_45_code
def yX7_next : MethodName := ⟨RX7, "next", "(I)I"⟩
abbrev cX7_power : ByteArray := prog_9_method_46_code
def yX7_power : MethodName := ⟨RX7, "power", "(JI)J"⟩
abbrev cX7_chance : ByteArray := prog_9_method_47_code
def yX7_chance : MethodName := ⟨RX7, "chance", "(IIIII)J"⟩
abbrev cX7_book : ByteArray := prog_9_method_48_code
def yX7_book : MethodName := ⟨RX7, "book", "(III)I"⟩
abbrev cX7_image : ByteArray := prog_9_method_49_code
def yX7_image : MethodName := ⟨RX7, "image", "(I)I"⟩
abbrev cX7_restore : ByteArray := prog_9_method_50_code
def yX7_restore : MethodName := ⟨RX7, "restore", "(I)I"⟩
abbrev cX7_told : ByteArray := prog_9_method_51_code
def yX7_told : MethodName := ⟨RX7, "told", "(I)I"⟩
def RJ6 : String := "java/lang/Integer"
def TJ6 : u_T := fun k => match k with
  | _ => ("", "", "", false)
def tyJ6 : Nat → FieldType := fun k => match k with
  | _ => .int
theorem nmJ6 : ∀ a, a < 0 → ∀ b, b < 0 → a ≠ b → (TJ6 a).2.1 ≠ (TJ6 b).2.1 := by decide +kernel
theorem tyJ6_ok : ∀ k, k < 0 → parseFieldDescriptor (TJ6 k).2.2.1 = some (tyJ6 k) := by decide +kernel
abbrev cJ6_bitCount_0f7a4 : ByteArray := prog_10_method_49_code
def yJ6_bitCount_0f7a4 : MethodName := ⟨RJ6, "bitCount", "(I)I"⟩
def RJ9 : String := "java/lang/Math"
def TJ9 : u_T := fun k => match k with
  | _ => ("", "", "", false)
def tyJ9 : Nat → FieldType := fun k => match k with
  | _ => .int
theorem nmJ9 : ∀ a, a < 0 → ∀ b, b < 0 → a ≠ b → (TJ9 a).2.1 ≠ (TJ9 b).2.1 := by decide +kernel
theorem tyJ9_ok : ∀ k, k < 0 → parseFieldDescriptor (TJ9 k).2.2.1 = some (tyJ9 k) := by decide +kernel
abbrev cJ9_max_7cf53 : ByteArray := prog_11_method_65_code
def yJ9_max_7cf53 : MethodName := ⟨RJ9, "max", "(II)I"⟩
abbrev cJ9_min_7cf53 : ByteArray := prog_11_method_69_code
def yJ9_min_7cf53 : MethodName := ⟨RJ9, "min", "(II)I"⟩
def RJ10 : String := "java/lang/System"
def TJ10 : u_T := fun k => match k with
  | _ => ("", "", "", false)
def tyJ10 : Nat → FieldType := fun k => match k with
  | _ => .int
theorem nmJ10 : ∀ a, a < 0 → ∀ b, b < 0 → a ≠ b → (TJ10 a).2.1 ≠ (TJ10 b).2.1 := by decide +kernel
theorem tyJ10_ok : ∀ k, k < 0 → parseFieldDescriptor (TJ10 k).2.2.1 = some (tyJ10 k) := by decide +kernel
def RL : String := "NextLifeLaw"
abbrev cL_law : ByteArray := code
def yL_law : MethodName := ⟨RL, "law", "([I)Z"⟩
abbrev vwCl : List vw_C := [(RX0, TX0, 4), (RX1, TX1, 2), (RX2, TX2, 1), (RX3, TX3, 2), (RX4, TX4, 7), (RX5, TX5, 12), (RX6, TX6, 6), (RX7, TX7, 17)]
