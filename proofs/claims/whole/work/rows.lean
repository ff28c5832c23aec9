section
-- ===== PART A: goes FIRST, ahead of the names: the tables' words, and 'selects' of the private methods out of them =====
/-- a private method of a class that the tables say can be made, by its rows of tables_1 -/
def lw_okq (q : MethodName × Nat) : Prop := (q.1.cls ≠ "java/lang/invoke/MethodHandle" ∧ q.1.cls ≠ "java/lang/invoke/VarHandle") ∧ Cond.instantiable q.1.cls q.2 ∈ tables_1 ∧ Cond.privateMethod q.1 ∈ tables_1 ∧ Cond.instanceMethod q.1 ∈ tables_1
theorem lw_p0 : lw_okq (⟨"NextLife$World", "bear", "(III)V"⟩, 12) := ⟨⟨by decide +kernel, by decide +kernel⟩, List.mem_of_getElem? (i := 21) (by decide +kernel), List.mem_of_getElem? (i := 211) (by decide +kernel), List.mem_of_getElem? (i := 212) (by decide +kernel)⟩
theorem lw_p1 : lw_okq (⟨"NextLife$Pad", "put", "(I)Z"⟩, 2) := ⟨⟨by decide +kernel, by decide +kernel⟩, List.mem_of_getElem? (i := 82) (by decide +kernel), List.mem_of_getElem? (i := 235) (by decide +kernel), List.mem_of_getElem? (i := 236) (by decide +kernel)⟩
theorem lw_p2 : lw_okq (⟨"NextLife$Pad", "faultPlace", "()I"⟩, 2) := ⟨⟨by decide +kernel, by decide +kernel⟩, List.mem_of_getElem? (i := 82) (by decide +kernel), List.mem_of_getElem? (i := 247) (by decide +kernel), List.mem_of_getElem? (i := 248) (by decide +kernel)⟩
theorem lw_p3 : lw_okq (⟨"NextLife$Pad", "signAt", "(I)I"⟩, 2) := ⟨⟨by decide +kernel, by decide +kernel⟩, List.mem_of_getElem? (i := 82) (by decide +kernel), List.mem_of_getElem? (i := 251) (by decide +kernel), List.mem_of_getElem? (i := 252) (by decide +kernel)⟩
theorem lw_p4 : lw_okq (⟨"NextLife$Trial", "followPad", "(LNextLife$World;LNextLife$Pad;)V"⟩, 7) := ⟨⟨by decide +kernel, by decide +kernel⟩, List.mem_of_getElem? (i := 97) (by decide +kernel), List.mem_of_getElem? (i := 263) (by decide +kernel), List.mem_of_getElem? (i := 264) (by decide +kernel)⟩
theorem lw_p5 : lw_okq (⟨"NextLife$World", "copyFrom", "(LNextLife$World;)V"⟩, 12) := ⟨⟨by decide +kernel, by decide +kernel⟩, List.mem_of_getElem? (i := 21) (by decide +kernel), List.mem_of_getElem? (i := 267) (by decide +kernel), List.mem_of_getElem? (i := 268) (by decide +kernel)⟩
theorem lw_p6 : lw_okq (⟨"NextLife$Act", "readFrom", "(LNextLife$Pad;I)I"⟩, 4) := ⟨⟨by decide +kernel, by decide +kernel⟩, List.mem_of_getElem? (i := 105) (by decide +kernel), List.mem_of_getElem? (i := 274) (by decide +kernel), List.mem_of_getElem? (i := 275) (by decide +kernel)⟩
theorem lw_p7 : lw_okq (⟨"NextLife$World", "hindrance", "(LNextLife$Act;)I"⟩, 12) := ⟨⟨by decide +kernel, by decide +kernel⟩, List.mem_of_getElem? (i := 21) (by decide +kernel), List.mem_of_getElem? (i := 279) (by decide +kernel), List.mem_of_getElem? (i := 280) (by decide +kernel)⟩
theorem lw_p8 : lw_okq (⟨"NextLife$World", "isLiving", "(I)Z"⟩, 12) := ⟨⟨by decide +kernel, by decide +kernel⟩, List.mem_of_getElem? (i := 21) (by decide +kernel), List.mem_of_getElem? (i := 283) (by decide +kernel), List.mem_of_getElem? (i := 284) (by decide +kernel)⟩
theorem lw_p9 : lw_okq (⟨"NextLife$World", "canLend", "(III)Z"⟩, 12) := ⟨⟨by decide +kernel, by decide +kernel⟩, List.mem_of_getElem? (i := 21) (by decide +kernel), List.mem_of_getElem? (i := 291) (by decide +kernel), List.mem_of_getElem? (i := 292) (by decide +kernel)⟩
theorem lw_p10 : lw_okq (⟨"NextLife$Trial", "countTry", "()V"⟩, 7) := ⟨⟨by decide +kernel, by decide +kernel⟩, List.mem_of_getElem? (i := 97) (by decide +kernel), List.mem_of_getElem? (i := 295) (by decide +kernel), List.mem_of_getElem? (i := 296) (by decide +kernel)⟩
theorem lw_p11 : lw_okq (⟨"NextLife$World", "letsIn", "(II)Z"⟩, 12) := ⟨⟨by decide +kernel, by decide +kernel⟩, List.mem_of_getElem? (i := 21) (by decide +kernel), List.mem_of_getElem? (i := 299) (by decide +kernel), List.mem_of_getElem? (i := 300) (by decide +kernel)⟩
theorem lw_p12 : lw_okq (⟨"NextLife$World", "felt", "(II)I"⟩, 12) := ⟨⟨by decide +kernel, by decide +kernel⟩, List.mem_of_getElem? (i := 21) (by decide +kernel), List.mem_of_getElem? (i := 304) (by decide +kernel), List.mem_of_getElem? (i := 305) (by decide +kernel)⟩
theorem lw_p13 : lw_okq (⟨"NextLife$World", "perform", "(LNextLife$Act;)V"⟩, 12) := ⟨⟨by decide +kernel, by decide +kernel⟩, List.mem_of_getElem? (i := 21) (by decide +kernel), List.mem_of_getElem? (i := 309) (by decide +kernel), List.mem_of_getElem? (i := 310) (by decide +kernel)⟩
theorem lw_p14 : lw_okq (⟨"NextLife$World", "comeBack", "(II)V"⟩, 12) := ⟨⟨by decide +kernel, by decide +kernel⟩, List.mem_of_getElem? (i := 21) (by decide +kernel), List.mem_of_getElem? (i := 313) (by decide +kernel), List.mem_of_getElem? (i := 314) (by decide +kernel)⟩
theorem lw_p15 : lw_okq (⟨"NextLife$World", "moveDebt", "(II)V"⟩, 12) := ⟨⟨by decide +kernel, by decide +kernel⟩, List.mem_of_getElem? (i := 21) (by decide +kernel), List.mem_of_getElem? (i := 317) (by decide +kernel), List.mem_of_getElem? (i := 318) (by decide +kernel)⟩
def lw_privs_1 : List (MethodName × Nat) := [(⟨"NextLife$World", "bear", "(III)V"⟩, 12), (⟨"NextLife$Pad", "put", "(I)Z"⟩, 2), (⟨"NextLife$Pad", "faultPlace", "()I"⟩, 2), (⟨"NextLife$Pad", "signAt", "(I)I"⟩, 2), (⟨"NextLife$Trial", "followPad", "(LNextLife$World;LNextLife$Pad;)V"⟩, 7), (⟨"NextLife$World", "copyFrom", "(LNextLife$World;)V"⟩, 12), (⟨"NextLife$Act", "readFrom", "(LNextLife$Pad;I)I"⟩, 4), (⟨"NextLife$World", "hindrance", "(LNextLife$Act;)I"⟩, 12), (⟨"NextLife$World", "isLiving", "(I)Z"⟩, 12), (⟨"NextLife$World", "canLend", "(III)Z"⟩, 12), (⟨"NextLife$Trial", "countTry", "()V"⟩, 7), (⟨"NextLife$World", "letsIn", "(II)Z"⟩, 12), (⟨"NextLife$World", "felt", "(II)I"⟩, 12), (⟨"NextLife$World", "perform", "(LNextLife$Act;)V"⟩, 12), (⟨"NextLife$World", "comeBack", "(II)V"⟩, 12), (⟨"NextLife$World", "moveDebt", "(II)V"⟩, 12)]
theorem lw_r1 : ∀ q ∈ lw_privs_1, lw_okq q := List.forall_mem_cons.mpr ⟨lw_p0, List.forall_mem_cons.mpr ⟨lw_p1, List.forall_mem_cons.mpr ⟨lw_p2, List.forall_mem_cons.mpr ⟨lw_p3, List.forall_mem_cons.mpr ⟨lw_p4, List.forall_mem_cons.mpr ⟨lw_p5, List.forall_mem_cons.mpr ⟨lw_p6, List.forall_mem_cons.mpr ⟨lw_p7, List.forall_mem_cons.mpr ⟨lw_p8, List.forall_mem_cons.mpr ⟨lw_p9, List.forall_mem_cons.mpr ⟨lw_p10, List.forall_mem_cons.mpr ⟨lw_p11, List.forall_mem_cons.mpr ⟨lw_p12, List.forall_mem_cons.mpr ⟨lw_p13, List.forall_mem_cons.mpr ⟨lw_p14, List.forall_mem_cons.mpr ⟨lw_p15, fun _ h => absurd h List.not_mem_nil⟩⟩⟩⟩⟩⟩⟩⟩⟩⟩⟩⟩⟩⟩⟩⟩
theorem lw_p16 : lw_okq (⟨"NextLife$World", "lend", "(III)V"⟩, 12) := ⟨⟨by decide +kernel, by decide +kernel⟩, List.mem_of_getElem? (i := 21) (by decide +kernel), List.mem_of_getElem? (i := 321) (by decide +kernel), List.mem_of_getElem? (i := 322) (by decide +kernel)⟩
theorem lw_p17 : lw_okq (⟨"NextLife$World", "fillPurse", "(II)V"⟩, 12) := ⟨⟨by decide +kernel, by decide +kernel⟩, List.mem_of_getElem? (i := 21) (by decide +kernel), List.mem_of_getElem? (i := 325) (by decide +kernel), List.mem_of_getElem? (i := 326) (by decide +kernel)⟩
theorem lw_p18 : lw_okq (⟨"NextLife$World", "tryBox", "(II)V"⟩, 12) := ⟨⟨by decide +kernel, by decide +kernel⟩, List.mem_of_getElem? (i := 21) (by decide +kernel), List.mem_of_getElem? (i := 332) (by decide +kernel), List.mem_of_getElem? (i := 333) (by decide +kernel)⟩
theorem lw_p19 : lw_okq (⟨"NextLife", "yearsCanBe", "()Z"⟩, 6) := ⟨⟨by decide +kernel, by decide +kernel⟩, List.mem_of_getElem? (i := 13) (by decide +kernel), List.mem_of_getElem? (i := 341) (by decide +kernel), List.mem_of_getElem? (i := 342) (by decide +kernel)⟩
theorem lw_p20 : lw_okq (⟨"NextLife$World", "soulsLetIn", "(I)I"⟩, 12) := ⟨⟨by decide +kernel, by decide +kernel⟩, List.mem_of_getElem? (i := 21) (by decide +kernel), List.mem_of_getElem? (i := 359) (by decide +kernel), List.mem_of_getElem? (i := 360) (by decide +kernel)⟩
theorem lw_p21 : lw_okq (⟨"NextLife$World", "creditorsBehind", "(I)I"⟩, 12) := ⟨⟨by decide +kernel, by decide +kernel⟩, List.mem_of_getElem? (i := 21) (by decide +kernel), List.mem_of_getElem? (i := 385) (by decide +kernel), List.mem_of_getElem? (i := 386) (by decide +kernel)⟩
theorem lw_p22 : lw_okq (⟨"NextLife$World", "creditorsOf", "(I)I"⟩, 12) := ⟨⟨by decide +kernel, by decide +kernel⟩, List.mem_of_getElem? (i := 21) (by decide +kernel), List.mem_of_getElem? (i := 389) (by decide +kernel), List.mem_of_getElem? (i := 390) (by decide +kernel)⟩
theorem lw_p23 : lw_okq (⟨"NextLife$World", "shortestNote", "(I)I"⟩, 12) := ⟨⟨by decide +kernel, by decide +kernel⟩, List.mem_of_getElem? (i := 21) (by decide +kernel), List.mem_of_getElem? (i := 397) (by decide +kernel), List.mem_of_getElem? (i := 398) (by decide +kernel)⟩
theorem lw_p24 : lw_okq (⟨"NextLife$World", "anotherHas", "(II)Z"⟩, 12) := ⟨⟨by decide +kernel, by decide +kernel⟩, List.mem_of_getElem? (i := 21) (by decide +kernel), List.mem_of_getElem? (i := 401) (by decide +kernel), List.mem_of_getElem? (i := 402) (by decide +kernel)⟩
theorem lw_p25 : lw_okq (⟨"NextLife$World", "shareOf", "(II)I"⟩, 12) := ⟨⟨by decide +kernel, by decide +kernel⟩, List.mem_of_getElem? (i := 21) (by decide +kernel), List.mem_of_getElem? (i := 417) (by decide +kernel), List.mem_of_getElem? (i := 418) (by decide +kernel)⟩
theorem lw_p26 : lw_okq (⟨"NextLife$Matching", "weigh", "(LNextLife$World;)V"⟩, 1) := ⟨⟨by decide +kernel, by decide +kernel⟩, List.mem_of_getElem? (i := 159) (by decide +kernel), List.mem_of_getElem? (i := 425) (by decide +kernel), List.mem_of_getElem? (i := 426) (by decide +kernel)⟩
theorem lw_p27 : lw_okq (⟨"NextLife$World", "boxesFor", "(I)I"⟩, 12) := ⟨⟨by decide +kernel, by decide +kernel⟩, List.mem_of_getElem? (i := 21) (by decide +kernel), List.mem_of_getElem? (i := 429) (by decide +kernel), List.mem_of_getElem? (i := 430) (by decide +kernel)⟩
theorem lw_p28 : lw_okq (⟨"NextLife$Matching", "mostOf", "(LNextLife$World;III)I"⟩, 1) := ⟨⟨by decide +kernel, by decide +kernel⟩, List.mem_of_getElem? (i := 159) (by decide +kernel), List.mem_of_getElem? (i := 433) (by decide +kernel), List.mem_of_getElem? (i := 434) (by decide +kernel)⟩
theorem lw_p29 : lw_okq (⟨"NextLife$Matching", "mostBehind", "(II)I"⟩, 1) := ⟨⟨by decide +kernel, by decide +kernel⟩, List.mem_of_getElem? (i := 159) (by decide +kernel), List.mem_of_getElem? (i := 437) (by decide +kernel), List.mem_of_getElem? (i := 438) (by decide +kernel)⟩
theorem lw_p30 : lw_okq (⟨"NextLife$Matching", "mostWith", "(LNextLife$World;III)I"⟩, 1) := ⟨⟨by decide +kernel, by decide +kernel⟩, List.mem_of_getElem? (i := 159) (by decide +kernel), List.mem_of_getElem? (i := 442) (by decide +kernel), List.mem_of_getElem? (i := 443) (by decide +kernel)⟩
theorem lw_p31 : lw_okq (⟨"NextLife$Matching", "mostTogether", "()I"⟩, 1) := ⟨⟨by decide +kernel, by decide +kernel⟩, List.mem_of_getElem? (i := 159) (by decide +kernel), List.mem_of_getElem? (i := 447) (by decide +kernel), List.mem_of_getElem? (i := 448) (by decide +kernel)⟩
def lw_privs_2 : List (MethodName × Nat) := [(⟨"NextLife$World", "lend", "(III)V"⟩, 12), (⟨"NextLife$World", "fillPurse", "(II)V"⟩, 12), (⟨"NextLife$World", "tryBox", "(II)V"⟩, 12), (⟨"NextLife", "yearsCanBe", "()Z"⟩, 6), (⟨"NextLife$World", "soulsLetIn", "(I)I"⟩, 12), (⟨"NextLife$World", "creditorsBehind", "(I)I"⟩, 12), (⟨"NextLife$World", "creditorsOf", "(I)I"⟩, 12), (⟨"NextLife$World", "shortestNote", "(I)I"⟩, 12), (⟨"NextLife$World", "anotherHas", "(II)Z"⟩, 12), (⟨"NextLife$World", "shareOf", "(II)I"⟩, 12), (⟨"NextLife$Matching", "weigh", "(LNextLife$World;)V"⟩, 1), (⟨"NextLife$World", "boxesFor", "(I)I"⟩, 12), (⟨"NextLife$Matching", "mostOf", "(LNextLife$World;III)I"⟩, 1), (⟨"NextLife$Matching", "mostBehind", "(II)I"⟩, 1), (⟨"NextLife$Matching", "mostWith", "(LNextLife$World;III)I"⟩, 1), (⟨"NextLife$Matching", "mostTogether", "()I"⟩, 1)]
theorem lw_r2 : ∀ q ∈ lw_privs_2, lw_okq q := List.forall_mem_cons.mpr ⟨lw_p16, List.forall_mem_cons.mpr ⟨lw_p17, List.forall_mem_cons.mpr ⟨lw_p18, List.forall_mem_cons.mpr ⟨lw_p19, List.forall_mem_cons.mpr ⟨lw_p20, List.forall_mem_cons.mpr ⟨lw_p21, List.forall_mem_cons.mpr ⟨lw_p22, List.forall_mem_cons.mpr ⟨lw_p23, List.forall_mem_cons.mpr ⟨lw_p24, List.forall_mem_cons.mpr ⟨lw_p25, List.forall_mem_cons.mpr ⟨lw_p26, List.forall_mem_cons.mpr ⟨lw_p27, List.forall_mem_cons.mpr ⟨lw_p28, List.forall_mem_cons.mpr ⟨lw_p29, List.forall_mem_cons.mpr ⟨lw_p30, List.forall_mem_cons.mpr ⟨lw_p31, fun _ h => absurd h List.not_mem_nil⟩⟩⟩⟩⟩⟩⟩⟩⟩⟩⟩⟩⟩⟩⟩⟩
theorem lw_p32 : lw_okq (⟨"NextLife$Matching", "boxOf", "(LNextLife$World;I)I"⟩, 1) := ⟨⟨by decide +kernel, by decide +kernel⟩, List.mem_of_getElem? (i := 159) (by decide +kernel), List.mem_of_getElem? (i := 451) (by decide +kernel), List.mem_of_getElem? (i := 452) (by decide +kernel)⟩
theorem lw_p33 : lw_okq (⟨"NextLife$Matching", "leastBestBox", "(LNextLife$World;II)I"⟩, 1) := ⟨⟨by decide +kernel, by decide +kernel⟩, List.mem_of_getElem? (i := 159) (by decide +kernel), List.mem_of_getElem? (i := 455) (by decide +kernel), List.mem_of_getElem? (i := 456) (by decide +kernel)⟩
theorem lw_p34 : lw_okq (⟨"NextLife$World", "addSight", "(IZ)Z"⟩, 12) := ⟨⟨by decide +kernel, by decide +kernel⟩, List.mem_of_getElem? (i := 21) (by decide +kernel), List.mem_of_getElem? (i := 463) (by decide +kernel), List.mem_of_getElem? (i := 464) (by decide +kernel)⟩
theorem lw_p35 : lw_okq (⟨"NextLife$Lawbook", "howMany", "(LNextLife$World;)I"⟩, 2) := ⟨⟨by decide +kernel, by decide +kernel⟩, List.mem_of_getElem? (i := 169) (by decide +kernel), List.mem_of_getElem? (i := 475) (by decide +kernel), List.mem_of_getElem? (i := 476) (by decide +kernel)⟩
theorem lw_p36 : lw_okq (⟨"NextLife$Lawbook", "weigh", "(LNextLife$World;)V"⟩, 2) := ⟨⟨by decide +kernel, by decide +kernel⟩, List.mem_of_getElem? (i := 169) (by decide +kernel), List.mem_of_getElem? (i := 479) (by decide +kernel), List.mem_of_getElem? (i := 480) (by decide +kernel)⟩
theorem lw_p37 : lw_okq (⟨"NextLife$Lawbook", "weighWants", "(LNextLife$World;III)V"⟩, 2) := ⟨⟨by decide +kernel, by decide +kernel⟩, List.mem_of_getElem? (i := 169) (by decide +kernel), List.mem_of_getElem? (i := 493) (by decide +kernel), List.mem_of_getElem? (i := 494) (by decide +kernel)⟩
theorem lw_p38 : lw_okq (⟨"NextLife$Lawbook", "lawAt", "(LNextLife$World;I)I"⟩, 2) := ⟨⟨by decide +kernel, by decide +kernel⟩, List.mem_of_getElem? (i := 169) (by decide +kernel), List.mem_of_getElem? (i := 497) (by decide +kernel), List.mem_of_getElem? (i := 498) (by decide +kernel)⟩
theorem lw_p39 : lw_okq (⟨"NextLife$Lawbook", "soulToTry", "(LNextLife$World;)I"⟩, 2) := ⟨⟨by decide +kernel, by decide +kernel⟩, List.mem_of_getElem? (i := 169) (by decide +kernel), List.mem_of_getElem? (i := 506) (by decide +kernel), List.mem_of_getElem? (i := 507) (by decide +kernel)⟩
theorem lw_p40 : lw_okq (⟨"NextLife$Lawbook", "mostLeft", "(I)I"⟩, 2) := ⟨⟨by decide +kernel, by decide +kernel⟩, List.mem_of_getElem? (i := 169) (by decide +kernel), List.mem_of_getElem? (i := 511) (by decide +kernel), List.mem_of_getElem? (i := 512) (by decide +kernel)⟩
theorem lw_p41 : lw_okq (⟨"NextLife$Trial", "followDraws", "(LNextLife$World;II)V"⟩, 7) := ⟨⟨by decide +kernel, by decide +kernel⟩, List.mem_of_getElem? (i := 97) (by decide +kernel), List.mem_of_getElem? (i := 537) (by decide +kernel), List.mem_of_getElem? (i := 538) (by decide +kernel)⟩
theorem lw_p42 : lw_okq (⟨"NextLife$Act", "drawFrom", "(I)V"⟩, 4) := ⟨⟨by decide +kernel, by decide +kernel⟩, List.mem_of_getElem? (i := 105) (by decide +kernel), List.mem_of_getElem? (i := 542) (by decide +kernel), List.mem_of_getElem? (i := 543) (by decide +kernel)⟩
theorem lw_p43 : lw_okq (⟨"NextLife$World", "pursesTogether", "()I"⟩, 12) := ⟨⟨by decide +kernel, by decide +kernel⟩, List.mem_of_getElem? (i := 21) (by decide +kernel), List.mem_of_getElem? (i := 546) (by decide +kernel), List.mem_of_getElem? (i := 547) (by decide +kernel)⟩
theorem lw_p44 : lw_okq (⟨"NextLife$World", "coinsLeft", "()I"⟩, 12) := ⟨⟨by decide +kernel, by decide +kernel⟩, List.mem_of_getElem? (i := 21) (by decide +kernel), List.mem_of_getElem? (i := 550) (by decide +kernel), List.mem_of_getElem? (i := 551) (by decide +kernel)⟩
theorem lw_p45 : lw_okq (⟨"NextLife", "toldOfSoul", "(II)I"⟩, 6) := ⟨⟨by decide +kernel, by decide +kernel⟩, List.mem_of_getElem? (i := 13) (by decide +kernel), List.mem_of_getElem? (i := 566) (by decide +kernel), List.mem_of_getElem? (i := 567) (by decide +kernel)⟩
theorem lw_p46 : lw_okq (⟨"NextLife", "toldOfBox", "(II)I"⟩, 6) := ⟨⟨by decide +kernel, by decide +kernel⟩, List.mem_of_getElem? (i := 13) (by decide +kernel), List.mem_of_getElem? (i := 570) (by decide +kernel), List.mem_of_getElem? (i := 571) (by decide +kernel)⟩
theorem lw_p47 : lw_okq (⟨"NextLifeModel", "faultOf", "()I"⟩, 17) := ⟨⟨by decide +kernel, by decide +kernel⟩, List.mem_of_getElem? (i := 574) (by decide +kernel), List.mem_of_getElem? (i := 665) (by decide +kernel), List.mem_of_getElem? (i := 666) (by decide +kernel)⟩
def lw_privs_3 : List (MethodName × Nat) := [(⟨"NextLife$Matching", "boxOf", "(LNextLife$World;I)I"⟩, 1), (⟨"NextLife$Matching", "leastBestBox", "(LNextLife$World;II)I"⟩, 1), (⟨"NextLife$World", "addSight", "(IZ)Z"⟩, 12), (⟨"NextLife$Lawbook", "howMany", "(LNextLife$World;)I"⟩, 2), (⟨"NextLife$Lawbook", "weigh", "(LNextLife$World;)V"⟩, 2), (⟨"NextLife$Lawbook", "weighWants", "(LNextLife$World;III)V"⟩, 2), (⟨"NextLife$Lawbook", "lawAt", "(LNextLife$World;I)I"⟩, 2), (⟨"NextLife$Lawbook", "soulToTry", "(LNextLife$World;)I"⟩, 2), (⟨"NextLife$Lawbook", "mostLeft", "(I)I"⟩, 2), (⟨"NextLife$Trial", "followDraws", "(LNextLife$World;II)V"⟩, 7), (⟨"NextLife$Act", "drawFrom", "(I)V"⟩, 4), (⟨"NextLife$World", "pursesTogether", "()I"⟩, 12), (⟨"NextLife$World", "coinsLeft", "()I"⟩, 12), (⟨"NextLife", "toldOfSoul", "(II)I"⟩, 6), (⟨"NextLife", "toldOfBox", "(II)I"⟩, 6), (⟨"NextLifeModel", "faultOf", "()I"⟩, 17)]
theorem lw_r3 : ∀ q ∈ lw_privs_3, lw_okq q := List.forall_mem_cons.mpr ⟨lw_p32, List.forall_mem_cons.mpr ⟨lw_p33, List.forall_mem_cons.mpr ⟨lw_p34, List.forall_mem_cons.mpr ⟨lw_p35, List.forall_mem_cons.mpr ⟨lw_p36, List.forall_mem_cons.mpr ⟨lw_p37, List.forall_mem_cons.mpr ⟨lw_p38, List.forall_mem_cons.mpr ⟨lw_p39, List.forall_mem_cons.mpr ⟨lw_p40, List.forall_mem_cons.mpr ⟨lw_p41, List.forall_mem_cons.mpr ⟨lw_p42, List.forall_mem_cons.mpr ⟨lw_p43, List.forall_mem_cons.mpr ⟨lw_p44, List.forall_mem_cons.mpr ⟨lw_p45, List.forall_mem_cons.mpr ⟨lw_p46, List.forall_mem_cons.mpr ⟨lw_p47, fun _ h => absurd h List.not_mem_nil⟩⟩⟩⟩⟩⟩⟩⟩⟩⟩⟩⟩⟩⟩⟩⟩
theorem lw_p48 : lw_okq (⟨"NextLifeModel", "goYears", "()I"⟩, 17) := ⟨⟨by decide +kernel, by decide +kernel⟩, List.mem_of_getElem? (i := 574) (by decide +kernel), List.mem_of_getElem? (i := 676) (by decide +kernel), List.mem_of_getElem? (i := 677) (by decide +kernel)⟩
theorem lw_p49 : lw_okq (⟨"NextLifeModel", "asNow", "()V"⟩, 17) := ⟨⟨by decide +kernel, by decide +kernel⟩, List.mem_of_getElem? (i := 574) (by decide +kernel), List.mem_of_getElem? (i := 680) (by decide +kernel), List.mem_of_getElem? (i := 681) (by decide +kernel)⟩
theorem lw_p50 : lw_okq (⟨"NextLifeModel", "endYear", "()I"⟩, 17) := ⟨⟨by decide +kernel, by decide +kernel⟩, List.mem_of_getElem? (i := 574) (by decide +kernel), List.mem_of_getElem? (i := 684) (by decide +kernel), List.mem_of_getElem? (i := 685) (by decide +kernel)⟩
theorem lw_p51 : lw_okq (⟨"NextLifeModel", "dies", "(II)I"⟩, 17) := ⟨⟨by decide +kernel, by decide +kernel⟩, List.mem_of_getElem? (i := 574) (by decide +kernel), List.mem_of_getElem? (i := 688) (by decide +kernel), List.mem_of_getElem? (i := 689) (by decide +kernel)⟩
theorem lw_p52 : lw_okq (⟨"NextLifeModel", "lends", "(III)I"⟩, 17) := ⟨⟨by decide +kernel, by decide +kernel⟩, List.mem_of_getElem? (i := 574) (by decide +kernel), List.mem_of_getElem? (i := 695) (by decide +kernel), List.mem_of_getElem? (i := 696) (by decide +kernel)⟩
theorem lw_p53 : lw_okq (⟨"NextLifeModel", "gets", "(II)V"⟩, 17) := ⟨⟨by decide +kernel, by decide +kernel⟩, List.mem_of_getElem? (i := 574) (by decide +kernel), List.mem_of_getElem? (i := 699) (by decide +kernel), List.mem_of_getElem? (i := 700) (by decide +kernel)⟩
theorem lw_p54 : lw_okq (⟨"NextLifeModel", "tries", "(II)I"⟩, 17) := ⟨⟨by decide +kernel, by decide +kernel⟩, List.mem_of_getElem? (i := 574) (by decide +kernel), List.mem_of_getElem? (i := 703) (by decide +kernel), List.mem_of_getElem? (i := 704) (by decide +kernel)⟩
theorem lw_p55 : lw_okq (⟨"NextLifeModel", "doesOpen", "(II)Z"⟩, 17) := ⟨⟨by decide +kernel, by decide +kernel⟩, List.mem_of_getElem? (i := 574) (by decide +kernel), List.mem_of_getElem? (i := 707) (by decide +kernel), List.mem_of_getElem? (i := 708) (by decide +kernel)⟩
theorem lw_p56 : lw_okq (⟨"NextLifeModel", "barOfYears", "()I"⟩, 17) := ⟨⟨by decide +kernel, by decide +kernel⟩, List.mem_of_getElem? (i := 574) (by decide +kernel), List.mem_of_getElem? (i := 715) (by decide +kernel), List.mem_of_getElem? (i := 716) (by decide +kernel)⟩
theorem lw_p57 : lw_okq (⟨"NextLifeModel", "openSet", "(I)I"⟩, 17) := ⟨⟨by decide +kernel, by decide +kernel⟩, List.mem_of_getElem? (i := 574) (by decide +kernel), List.mem_of_getElem? (i := 731) (by decide +kernel), List.mem_of_getElem? (i := 732) (by decide +kernel)⟩
theorem lw_p58 : lw_okq (⟨"NextLifeModel", "lives", "(I)Z"⟩, 17) := ⟨⟨by decide +kernel, by decide +kernel⟩, List.mem_of_getElem? (i := 574) (by decide +kernel), List.mem_of_getElem? (i := 735) (by decide +kernel), List.mem_of_getElem? (i := 736) (by decide +kernel)⟩
theorem lw_p59 : lw_okq (⟨"NextLifeModel", "feels", "(II)I"⟩, 17) := ⟨⟨by decide +kernel, by decide +kernel⟩, List.mem_of_getElem? (i := 574) (by decide +kernel), List.mem_of_getElem? (i := 771) (by decide +kernel), List.mem_of_getElem? (i := 772) (by decide +kernel)⟩
theorem lw_p60 : lw_okq (⟨"NextLifeModel", "layMatch", "()V"⟩, 17) := ⟨⟨by decide +kernel, by decide +kernel⟩, List.mem_of_getElem? (i := 574) (by decide +kernel), List.mem_of_getElem? (i := 779) (by decide +kernel), List.mem_of_getElem? (i := 780) (by decide +kernel)⟩
theorem lw_p61 : lw_okq (⟨"NextLifeModel", "isLaw", "(II)Z"⟩, 17) := ⟨⟨by decide +kernel, by decide +kernel⟩, List.mem_of_getElem? (i := 574) (by decide +kernel), List.mem_of_getElem? (i := 795) (by decide +kernel), List.mem_of_getElem? (i := 796) (by decide +kernel)⟩
def lw_privs_4 : List (MethodName × Nat) := [(⟨"NextLifeModel", "goYears", "()I"⟩, 17), (⟨"NextLifeModel", "asNow", "()V"⟩, 17), (⟨"NextLifeModel", "endYear", "()I"⟩, 17), (⟨"NextLifeModel", "dies", "(II)I"⟩, 17), (⟨"NextLifeModel", "lends", "(III)I"⟩, 17), (⟨"NextLifeModel", "gets", "(II)V"⟩, 17), (⟨"NextLifeModel", "tries", "(II)I"⟩, 17), (⟨"NextLifeModel", "doesOpen", "(II)Z"⟩, 17), (⟨"NextLifeModel", "barOfYears", "()I"⟩, 17), (⟨"NextLifeModel", "openSet", "(I)I"⟩, 17), (⟨"NextLifeModel", "lives", "(I)Z"⟩, 17), (⟨"NextLifeModel", "feels", "(II)I"⟩, 17), (⟨"NextLifeModel", "layMatch", "()V"⟩, 17), (⟨"NextLifeModel", "isLaw", "(II)Z"⟩, 17)]
theorem lw_r4 : ∀ q ∈ lw_privs_4, lw_okq q := List.forall_mem_cons.mpr ⟨lw_p48, List.forall_mem_cons.mpr ⟨lw_p49, List.forall_mem_cons.mpr ⟨lw_p50, List.forall_mem_cons.mpr ⟨lw_p51, List.forall_mem_cons.mpr ⟨lw_p52, List.forall_mem_cons.mpr ⟨lw_p53, List.forall_mem_cons.mpr ⟨lw_p54, List.forall_mem_cons.mpr ⟨lw_p55, List.forall_mem_cons.mpr ⟨lw_p56, List.forall_mem_cons.mpr ⟨lw_p57, List.forall_mem_cons.mpr ⟨lw_p58, List.forall_mem_cons.mpr ⟨lw_p59, List.forall_mem_cons.mpr ⟨lw_p60, List.forall_mem_cons.mpr ⟨lw_p61, fun _ h => absurd h List.not_mem_nil⟩⟩⟩⟩⟩⟩⟩⟩⟩⟩⟩⟩⟩⟩
def lw_privs : List (MethodName × Nat) := lw_privs_1 ++ (lw_privs_2 ++ (lw_privs_3 ++ (lw_privs_4)))
def lw_tbl : List Cond := k2_sels lw_privs ++ tables_1
theorem lw_privs_ok : ∀ q ∈ lw_privs, lw_okq q := by
  show ∀ q ∈ lw_privs_1 ++ (lw_privs_2 ++ (lw_privs_3 ++ (lw_privs_4))), lw_okq q
  exact List.forall_mem_append.mpr ⟨lw_r1, List.forall_mem_append.mpr ⟨lw_r2, List.forall_mem_append.mpr ⟨lw_r3, lw_r4⟩⟩⟩
-- names (by program, out of the claim)
def RX0 : String := "NextLife$Act"
def TX0 : u_T := fun k => match k with
  | 0 => ("NextLife$Act", "kind", "I", false)
  | 1 => ("NextLife$Act", "first", "I", false)
  | 2 => ("NextLife$Act", "second", "I", false)
  | _ => ("NextLife$Act", "coins", "I", false)
def tyX0 : Nat → FieldType := fun k => match k with
  | 0 => .int
  | 1 => .int
  | 2 => .int
  | _ => .int
abbrev wsX00 : List Cond := u_ws RX0 TX0 4
theorem nmX0 : ∀ a, a < 4 → ∀ b, b < 4 → a ≠ b → (TX0 a).2.1 ≠ (TX0 b).2.1 := by decide +kernel
theorem tyX0_ok : ∀ k, k < 4 → parseFieldDescriptor (TX0 k).2.2.1 = some (tyX0 k) := by decide +kernel
abbrev cX0_init : ByteArray := prog_2_method_1_code
def yX0_init : MethodName := ⟨RX0, "<init>", "()V"⟩
abbrev cX0_readFrom : ByteArray := prog_2_method_2_code
def yX0_readFrom : MethodName := ⟨RX0, "readFrom", "(LNextLife$Pad;I)I"⟩
abbrev cX0_drawFrom : ByteArray := prog_2_method_3_code
def yX0_drawFrom : MethodName := ⟨RX0, "drawFrom", "(I)V"⟩
def RX1 : String := "NextLife$Lawbook"
def TX1 : u_T := fun k => match k with
  | 0 => ("NextLife$Lawbook", "opening", "[I", true)
  | _ => ("NextLife$Lawbook", "total", "I", false)
def tyX1 : Nat → FieldType := fun k => match k with
  | 0 => .array .int
  | _ => .int
abbrev wsX10 : List Cond := u_ws RX1 TX1 2
theorem nmX1 : ∀ a, a < 2 → ∀ b, b < 2 → a ≠ b → (TX1 a).2.1 ≠ (TX1 b).2.1 := by decide +kernel
theorem tyX1_ok : ∀ k, k < 2 → parseFieldDescriptor (TX1 k).2.2.1 = some (tyX1 k) := by decide +kernel
abbrev cX1_init : ByteArray := prog_3_method_1_code
def yX1_init : MethodName := ⟨RX1, "<init>", "()V"⟩
abbrev cX1_leastHits : ByteArray := prog_3_method_2_code
def yX1_leastHits : MethodName := ⟨RX1, "leastHits", "(LNextLife$World;I)I"⟩
abbrev cX1_mostHits : ByteArray := prog_3_method_3_code
def yX1_mostHits : MethodName := ⟨RX1, "mostHits", "(LNextLife$World;I)I"⟩
abbrev cX1_howMany : ByteArray := prog_3_method_4_code
def yX1_howMany : MethodName := ⟨RX1, "howMany", "(LNextLife$World;)I"⟩
abbrev cX1_lawAt : ByteArray := prog_3_method_5_code
def yX1_lawAt : MethodName := ⟨RX1, "lawAt", "(LNextLife$World;I)I"⟩
abbrev cX1_weigh : ByteArray := prog_3_method_6_code
def yX1_weigh : MethodName := ⟨RX1, "weigh", "(LNextLife$World;)V"⟩
abbrev cX1_weighWants : ByteArray := prog_3_method_7_code
def yX1_weighWants : MethodName := ⟨RX1, "weighWants", "(LNextLife$World;III)V"⟩
abbrev cX1_mostLeft : ByteArray := prog_3_method_8_code
def yX1_mostLeft : MethodName := ⟨RX1, "mostLeft", "(I)I"⟩
abbrev cX1_soulToTry : ByteArray := prog_3_method_9_code
def yX1_soulToTry : MethodName := ⟨RX1, "soulToTry", "(LNextLife$World;)I"⟩
def RX2 : String := "NextLife$Matching"
def TX2 : u_T := fun k => match k with
  | _ => ("NextLife$Matching", "most", "[I", true)
def tyX2 : Nat → FieldType := fun k => match k with
  | _ => .array .int
abbrev wsX20 : List Cond := u_ws RX2 TX2 1
theorem nmX2 : ∀ a, a < 1 → ∀ b, b < 1 → a ≠ b → (TX2 a).2.1 ≠ (TX2 b).2.1 := by decide +kernel
theorem tyX2_ok : ∀ k, k < 1 → parseFieldDescriptor (TX2 k).2.2.1 = some (tyX2 k) := by decide +kernel
abbrev cX2_init : ByteArray := prog_4_method_1_code
def yX2_init : MethodName := ⟨RX2, "<init>", "()V"⟩
abbrev cX2_weigh : ByteArray := prog_4_method_2_code
def yX2_weigh : MethodName := ⟨RX2, "weigh", "(LNextLife$World;)V"⟩
abbrev cX2_mostOf : ByteArray := prog_4_method_3_code
def yX2_mostOf : MethodName := ⟨RX2, "mostOf", "(LNextLife$World;III)I"⟩
abbrev cX2_mostBehind : ByteArray := prog_4_method_4_code
def yX2_mostBehind : MethodName := ⟨RX2, "mostBehind", "(II)I"⟩
abbrev cX2_mostWith : ByteArray := prog_4_method_5_code
def yX2_mostWith : MethodName := ⟨RX2, "mostWith", "(LNextLife$World;III)I"⟩
abbrev cX2_mostTogether : ByteArray := prog_4_method_6_code
def yX2_mostTogether : MethodName := ⟨RX2, "mostTogether", "()I"⟩
abbrev cX2_boxOf : ByteArray := prog_4_method_7_code
def yX2_boxOf : MethodName := ⟨RX2, "boxOf", "(LNextLife$World;I)I"⟩
abbrev cX2_leastBestBox : ByteArray := prog_4_method_8_code
def yX2_leastBestBox : MethodName := ⟨RX2, "leastBestBox", "(LNextLife$World;II)I"⟩
def RX3 : String := "NextLife$Pad"
def TX3 : u_T := fun k => match k with
  | 0 => ("NextLife$Pad", "signs", "[I", true)
  | _ => ("NextLife$Pad", "count", "I", false)
def tyX3 : Nat → FieldType := fun k => match k with
  | 0 => .array .int
  | _ => .int
abbrev wsX30 : List Cond := u_ws RX3 TX3 2
theorem nmX3 : ∀ a, a < 2 → ∀ b, b < 2 → a ≠ b → (TX3 a).2.1 ≠ (TX3 b).2.1 := by decide +kernel
theorem tyX3_ok : ∀ k, k < 2 → parseFieldDescriptor (TX3 k).2.2.1 = some (tyX3 k) := by decide +kernel
abbrev cX3_init : ByteArray := prog_5_method_1_code
def yX3_init : MethodName := ⟨RX3, "<init>", "()V"⟩
abbrev cX3_put : ByteArray := prog_5_method_2_code
def yX3_put : MethodName := ⟨RX3, "put", "(I)Z"⟩
abbrev cX3_signAt : ByteArray := prog_5_method_3_code
def yX3_signAt : MethodName := ⟨RX3, "signAt", "(I)I"⟩
abbrev cX3_faultPlace : ByteArray := prog_5_method_4_code
def yX3_faultPlace : MethodName := ⟨RX3, "faultPlace", "()I"⟩
abbrev cX3_stepOver : ByteArray := prog_5_method_5_code
def yX3_stepOver : MethodName := ⟨RX3, "stepOver", "(II)I"⟩
def RX4 : String := "NextLife$Trial"
def TX4 : u_T := fun k => match k with
  | 0 => ("NextLife$Trial", "world", "LNextLife$World;", true)
  | 1 => ("NextLife$Trial", "act", "LNextLife$Act;", true)
  | 2 => ("NextLife$Trial", "acts", "I", false)
  | 3 => ("NextLife$Trial", "badAct", "I", false)
  | 4 => ("NextLife$Trial", "badWhy", "I", false)
  | 5 => ("NextLife$Trial", "openedTries", "I", false)
  | _ => ("NextLife$Trial", "otherTry", "I", false)
def tyX4 : Nat → FieldType := fun k => match k with
  | 0 => .object "NextLife$World"
  | 1 => .object "NextLife$Act"
  | 2 => .int
  | 3 => .int
  | 4 => .int
  | 5 => .int
  | _ => .int
abbrev wsX40 : List Cond := u_ws RX4 TX4 7
theorem nmX4 : ∀ a, a < 7 → ∀ b, b < 7 → a ≠ b → (TX4 a).2.1 ≠ (TX4 b).2.1 := by decide +kernel
theorem tyX4_ok : ∀ k, k < 7 → parseFieldDescriptor (TX4 k).2.2.1 = some (tyX4 k) := by decide +kernel
abbrev cX4_init : ByteArray := prog_6_method_1_code
def yX4_init : MethodName := ⟨RX4, "<init>", "()V"⟩
abbrev cX4_followPad : ByteArray := prog_6_method_2_code
def yX4_followPad : MethodName := ⟨RX4, "followPad", "(LNextLife$World;LNextLife$Pad;)V"⟩
abbrev cX4_countTry : ByteArray := prog_6_method_3_code
def yX4_countTry : MethodName := ⟨RX4, "countTry", "()V"⟩
abbrev cX4_followDraws : ByteArray := prog_6_method_4_code
def yX4_followDraws : MethodName := ⟨RX4, "followDraws", "(LNextLife$World;II)V"⟩
def RX5 : String := "NextLife$World"
def TX5 : u_T := fun k => match k with
  | 0 => ("NextLife$World", "lives", "I", false)
  | 1 => ("NextLife$World", "year", "I", false)
  | 2 => ("NextLife$World", "sights", "I", false)
  | 3 => ("NextLife$World", "openedSights", "I", false)
  | 4 => ("NextLife$World", "marks", "[I", true)
  | 5 => ("NextLife$World", "purses", "[I", true)
  | 6 => ("NextLife$World", "was", "[I", true)
  | 7 => ("NextLife$World", "debts", "[I", true)
  | 8 => ("NextLife$World", "wants", "[I", true)
  | 9 => ("NextLife$World", "hits", "[I", true)
  | 10 => ("NextLife$World", "coins", "[I", true)
  | _ => ("NextLife$World", "sightMarks", "[I", true)
def tyX5 : Nat → FieldType := fun k => match k with
  | 0 => .int
  | 1 => .int
  | 2 => .int
  | 3 => .int
  | 4 => .array .int
  | 5 => .array .int
  | 6 => .array .int
  | 7 => .array .int
  | 8 => .array .int
  | 9 => .array .int
  | 10 => .array .int
  | _ => .array .int
abbrev wsX50 : List Cond := u_ws RX5 TX5 12
theorem nmX5 : ∀ a, a < 12 → ∀ b, b < 12 → a ≠ b → (TX5 a).2.1 ≠ (TX5 b).2.1 := by decide +kernel
theorem tyX5_ok : ∀ k, k < 12 → parseFieldDescriptor (TX5 k).2.2.1 = some (tyX5 k) := by decide +kernel
abbrev cX5_init : ByteArray := prog_7_method_1_code
def yX5_init : MethodName := ⟨RX5, "<init>", "()V"⟩
abbrev cX5_debtPlace : ByteArray := prog_7_method_2_code
def yX5_debtPlace : MethodName := ⟨RX5, "debtPlace", "(II)I"⟩
abbrev cX5_copyFrom : ByteArray := prog_7_method_3_code
def yX5_copyFrom : MethodName := ⟨RX5, "copyFrom", "(LNextLife$World;)V"⟩
abbrev cX5_isLiving : ByteArray := prog_7_method_4_code
def yX5_isLiving : MethodName := ⟨RX5, "isLiving", "(I)Z"⟩
abbrev cX5_bear : ByteArray := prog_7_method_5_code
def yX5_bear : MethodName := ⟨RX5, "bear", "(III)V"⟩
abbrev cX5_felt : ByteArray := prog_7_method_6_code
def yX5_felt : MethodName := ⟨RX5, "felt", "(II)I"⟩
abbrev cX5_letsIn : ByteArray := prog_7_method_7_code
def yX5_letsIn : MethodName := ⟨RX5, "letsIn", "(II)Z"⟩
abbrev cX5_soulsLetIn : ByteArray := prog_7_method_8_code
def yX5_soulsLetIn : MethodName := ⟨RX5, "soulsLetIn", "(I)I"⟩
abbrev cX5_boxesFor : ByteArray := prog_7_method_9_code
def yX5_boxesFor : MethodName := ⟨RX5, "boxesFor", "(I)I"⟩
abbrev cX5_hindrance : ByteArray := prog_7_method_10_code
def yX5_hindrance : MethodName := ⟨RX5, "hindrance", "(LNextLife$Act;)I"⟩
abbrev cX5_canLend : ByteArray := prog_7_method_11_code
def yX5_canLend : MethodName := ⟨RX5, "canLend", "(III)Z"⟩
abbrev cX5_perform : ByteArray := prog_7_method_12_code
def yX5_perform : MethodName := ⟨RX5, "perform", "(LNextLife$Act;)V"⟩
abbrev cX5_tryBox : ByteArray := prog_7_method_13_code
def yX5_tryBox : MethodName := ⟨RX5, "tryBox", "(II)V"⟩
abbrev cX5_comeBack : ByteArray := prog_7_method_14_code
def yX5_comeBack : MethodName := ⟨RX5, "comeBack", "(II)V"⟩
abbrev cX5_moveDebt : ByteArray := prog_7_method_15_code
def yX5_moveDebt : MethodName := ⟨RX5, "moveDebt", "(II)V"⟩
abbrev cX5_lend : ByteArray := prog_7_method_16_code
def yX5_lend : MethodName := ⟨RX5, "lend", "(III)V"⟩
abbrev cX5_fillPurse : ByteArray := prog_7_method_17_code
def yX5_fillPurse : MethodName := ⟨RX5, "fillPurse", "(II)V"⟩
abbrev cX5_creditorsBehind : ByteArray := prog_7_method_18_code
def yX5_creditorsBehind : MethodName := ⟨RX5, "creditorsBehind", "(I)I"⟩
abbrev cX5_creditorsOf : ByteArray := prog_7_method_19_code
def yX5_creditorsOf : MethodName := ⟨RX5, "creditorsOf", "(I)I"⟩
abbrev cX5_shortestNote : ByteArray := prog_7_method_20_code
def yX5_shortestNote : MethodName := ⟨RX5, "shortestNote", "(I)I"⟩
abbrev cX5_anotherHas : ByteArray := prog_7_method_21_code
def yX5_anotherHas : MethodName := ⟨RX5, "anotherHas", "(II)Z"⟩
abbrev cX5_shareOf : ByteArray := prog_7_method_22_code
def yX5_shareOf : MethodName := ⟨RX5, "shareOf", "(II)I"⟩
abbrev cX5_pursesTogether : ByteArray := prog_7_method_23_code
def yX5_pursesTogether : MethodName := ⟨RX5, "pursesTogether", "()I"⟩
abbrev cX5_coinsLeft : ByteArray := prog_7_method_24_code
def yX5_coinsLeft : MethodName := ⟨RX5, "coinsLeft", "()I"⟩
abbrev cX5_addSight : ByteArray := prog_7_method_25_code
def yX5_addSight : MethodName := ⟨RX5, "addSight", "(IZ)Z"⟩
def RX6 : String := "NextLife"
def TX6 : u_T := fun k => match k with
  | 0 => ("NextLife", "now", "LNextLife$World;", true)
  | 1 => ("NextLife", "images", "[LNextLife$World;", true)
  | 2 => ("NextLife", "pad", "LNextLife$Pad;", true)
  | 3 => ("NextLife", "trial", "LNextLife$Trial;", true)
  | 4 => ("NextLife", "matching", "LNextLife$Matching;", true)
  | _ => ("NextLife", "lawbook", "LNextLife$Lawbook;", true)
def tyX6 : Nat → FieldType := fun k => match k with
  | 0 => .object "NextLife$World"
  | 1 => .array (.object "NextLife$World")
  | 2 => .object "NextLife$Pad"
  | 3 => .object "NextLife$Trial"
  | 4 => .object "NextLife$Matching"
  | _ => .object "NextLife$Lawbook"
abbrev wsX60 : List Cond := u_ws RX6 TX6 6
theorem nmX6 : ∀ a, a < 6 → ∀ b, b < 6 → a ≠ b → (TX6 a).2.1 ≠ (TX6 b).2.1 := by decide +kernel
theorem tyX6_ok : ∀ k, k < 6 → parseFieldDescriptor (TX6 k).2.2.1 = some (tyX6 k) := by decide +kernel
abbrev cX6_init : ByteArray := prog_1_method_1_code
def yX6_init : MethodName := ⟨RX6, "<init>", "()V"⟩
abbrev cX6_birth : ByteArray := prog_1_method_2_code
def yX6_birth : MethodName := ⟨RX6, "birth", "(III)I"⟩
abbrev cX6_box : ByteArray := prog_1_method_3_code
def yX6_box : MethodName := ⟨RX6, "box", "(IIII)I"⟩
abbrev cX6_say : ByteArray := prog_1_method_4_code
def yX6_say : MethodName := ⟨RX6, "say", "(I)I"⟩
abbrev cX6_wipe : ByteArray := prog_1_method_5_code
def yX6_wipe : MethodName := ⟨RX6, "wipe", "()I"⟩
abbrev cX6_fault : ByteArray := prog_1_method_6_code
def yX6_fault : MethodName := ⟨RX6, "fault", "()I"⟩
abbrev cX6_judge : ByteArray := prog_1_method_7_code
def yX6_judge : MethodName := ⟨RX6, "judge", "(I)I"⟩
abbrev cX6_done : ByteArray := prog_1_method_8_code
def yX6_done : MethodName := ⟨RX6, "done", "()I"⟩
abbrev cX6_behind : ByteArray := prog_1_method_9_code
def yX6_behind : MethodName := ⟨RX6, "behind", "(II)I"⟩
abbrev cX6_then : ByteArray := prog_1_method_10_code
def yX6_then : MethodName := ⟨RX6, "then", "(I)I"⟩
abbrev cX6_opens : ByteArray := prog_1_method_11_code
def yX6_opens : MethodName := ⟨RX6, "opens", "(I)I"⟩
abbrev cX6_two : ByteArray := prog_1_method_12_code
def yX6_two : MethodName := ⟨RX6, "two", "()I"⟩
abbrev cX6_chain : ByteArray := prog_1_method_13_code
def yX6_chain : MethodName := ⟨RX6, "chain", "(II)I"⟩
abbrev cX6_owes : ByteArray := prog_1_method_14_code
def yX6_owes : MethodName := ⟨RX6, "owes", "(II)I"⟩
abbrev cX6_netted : ByteArray := prog_1_method_15_code
def yX6_netted : MethodName := ⟨RX6, "netted", "(I)I"⟩
abbrev cX6_rings : ByteArray := prog_1_method_16_code
def yX6_rings : MethodName := ⟨RX6, "rings", "()I"⟩
abbrev cX6_note : ByteArray := prog_1_method_17_code
def yX6_note : MethodName := ⟨RX6, "note", "(II)I"⟩
abbrev cX6_only : ByteArray := prog_1_method_18_code
def yX6_only : MethodName := ⟨RX6, "only", "(II)I"⟩
abbrev cX6_share : ByteArray := prog_1_method_19_code
def yX6_share : MethodName := ⟨RX6, "share", "(II)I"⟩
abbrev cX6_match : ByteArray := prog_1_method_20_code
def yX6_match : MethodName := ⟨RX6, "match", "(I)I"⟩
abbrev cX6_seen : ByteArray := prog_1_method_21_code
def yX6_seen : MethodName := ⟨RX6, "seen", "(IZ)I"⟩
abbrev cX6_forget : ByteArray := prog_1_method_22_code
def yX6_forget : MethodName := ⟨RX6, "forget", "()I"⟩
abbrev cX6_laws : ByteArray := prog_1_method_23_code
def yX6_laws : MethodName := ⟨RX6, "laws", "(I)I"⟩
abbrev cX6_next : ByteArray := prog_1_method_24_code
def yX6_next : MethodName := ⟨RX6, "next", "(I)I"⟩
abbrev cX6_chance : ByteArray := prog_1_method_25_code
def yX6_chance : MethodName := ⟨RX6, "chance", "(IIIII)J"⟩
abbrev cX6_book : ByteArray := prog_1_method_26_code
def yX6_book : MethodName := ⟨RX6, "book", "(III)I"⟩
abbrev cX6_image : ByteArray := prog_1_method_27_code
def yX6_image : MethodName := ⟨RX6, "image", "(I)I"⟩
abbrev cX6_restore : ByteArray := prog_1_method_28_code
def yX6_restore : MethodName := ⟨RX6, "restore", "(I)I"⟩
abbrev cX6_told : ByteArray := prog_1_method_29_code
def yX6_told : MethodName := ⟨RX6, "told", "(I)I"⟩
abbrev cX6_toldOfBox : ByteArray := prog_1_method_30_code
def yX6_toldOfBox : MethodName := ⟨RX6, "toldOfBox", "(II)I"⟩
abbrev cX6_toldOfSoul : ByteArray := prog_1_method_31_code
def yX6_toldOfSoul : MethodName := ⟨RX6, "toldOfSoul", "(II)I"⟩
abbrev cX6_yearsCanBe : ByteArray := prog_1_method_32_code
def yX6_yearsCanBe : MethodName := ⟨RX6, "yearsCanBe", "()Z"⟩
abbrev cX6_isWithin : ByteArray := prog_1_method_33_code
def yX6_isWithin : MethodName := ⟨RX6, "isWithin", "(III)Z"⟩
abbrev cX6_isSoul : ByteArray := prog_1_method_34_code
def yX6_isSoul : MethodName := ⟨RX6, "isSoul", "(I)Z"⟩
abbrev cX6_isBox : ByteArray := prog_1_method_35_code
def yX6_isBox : MethodName := ⟨RX6, "isBox", "(I)Z"⟩
abbrev cX6_hasBit : ByteArray := prog_1_method_36_code
def yX6_hasBit : MethodName := ⟨RX6, "hasBit", "(II)Z"⟩
abbrev cX6_power : ByteArray := prog_1_method_37_code
def yX6_power : MethodName := ⟨RX6, "power", "(JI)J"⟩
abbrev cX6_waysToKeep : ByteArray := prog_1_method_38_code
def yX6_waysToKeep : MethodName := ⟨RX6, "waysToKeep", "(IIJJ)J"⟩
abbrev cX6_commonDivisor : ByteArray := prog_1_method_39_code
def yX6_commonDivisor : MethodName := ⟨RX6, "commonDivisor", "(JJ)J"⟩
def RX7 : String := "NextLifeModel"
def TX7 : u_T := fun k => match k with
  | 0 => ("NextLifeModel", "book", "[I", true)
  | 1 => ("NextLifeModel", "now", "[I", true)
  | 2 => ("NextLifeModel", "wants", "[I", true)
  | 3 => ("NextLifeModel", "hits", "[I", true)
  | 4 => ("NextLifeModel", "sights", "I", false)
  | 5 => ("NextLifeModel", "sight", "[I", true)
  | 6 => ("NextLifeModel", "signs", "I", false)
  | 7 => ("NextLifeModel", "pad", "[I", true)
  | 8 => ("NextLifeModel", "opened", "I", false)
  | 9 => ("NextLifeModel", "otherAt", "I", false)
  | 10 => ("NextLifeModel", "isOther", "Z", false)
  | 11 => ("NextLifeModel", "reason", "I", false)
  | 12 => ("NextLifeModel", "acts", "I", false)
  | 13 => ("NextLifeModel", "most", "[I", true)
  | 14 => ("NextLifeModel", "yes", "[I", true)
  | 15 => ("NextLifeModel", "image", "[I", true)
  | _ => ("NextLifeModel", "isKept", "[Z", true)
def tyX7 : Nat → FieldType := fun k => match k with
  | 0 => .array .int
  | 1 => .array .int
  | 2 => .array .int
  | 3 => .array .int
  | 4 => .int
  | 5 => .array .int
  | 6 => .int
  | 7 => .array .int
  | 8 => .int
  | 9 => .int
  | 10 => .boolean
  | 11 => .int
  | 12 => .int
  | 13 => .array .int
  | 14 => .array .int
  | 15 => .array .int
  | _ => .array .boolean
abbrev wsX70 : List Cond := u_ws RX7 TX7 17
theorem nmX7 : ∀ a, a < 17 → ∀ b, b < 17 → a ≠ b → (TX7 a).2.1 ≠ (TX7 b).2.1 := by decide +kernel
theorem tyX7_ok : ∀ k, k < 17 → parseFieldDescriptor (TX7 k).2.2.1 = some (tyX7 k) := by decide +kernel
abbrev cX7_init : ByteArray := prog_9_method_1_code
def yX7_init : MethodName := ⟨RX7, "<init>", "()V"⟩
abbrev cX7_in : ByteArray := prog_9_method_2_code
def yX7_in : MethodName := ⟨RX7, "in", "(III)Z"⟩
abbrev cX7_has : ByteArray := prog_9_method_3_code
def yX7_has : MethodName := ⟨RX7, "has", "(II)Z"⟩
abbrev cX7_bits : ByteArray := prog_9_method_4_code
def yX7_bits : MethodName := ⟨RX7, "bits", "(I)I"⟩
abbrev cX7_isSoul : ByteArray := prog_9_method_5_code
def yX7_isSoul : MethodName := ⟨RX7, "isSoul", "(I)Z"⟩
abbrev cX7_isBox : ByteArray := prog_9_method_6_code
def yX7_isBox : MethodName := ⟨RX7, "isBox", "(I)Z"⟩
abbrev cX7_lives : ByteArray := prog_9_method_7_code
def yX7_lives : MethodName := ⟨RX7, "lives", "(I)Z"⟩
abbrev cX7_birth : ByteArray := prog_9_method_8_code
def yX7_birth : MethodName := ⟨RX7, "birth", "(III)I"⟩
abbrev cX7_box : ByteArray := prog_9_method_9_code
def yX7_box : MethodName := ⟨RX7, "box", "(IIII)I"⟩
abbrev cX7_say : ByteArray := prog_9_method_10_code
def yX7_say : MethodName := ⟨RX7, "say", "(I)I"⟩
abbrev cX7_wipe : ByteArray := prog_9_method_11_code
def yX7_wipe : MethodName := ⟨RX7, "wipe", "()I"⟩
abbrev cX7_isLetter : ByteArray := prog_9_method_12_code
def yX7_isLetter : MethodName := ⟨RX7, "isLetter", "(I)Z"⟩
abbrev cX7_faultOf : ByteArray := prog_9_method_13_code
def yX7_faultOf : MethodName := ⟨RX7, "faultOf", "()I"⟩
abbrev cX7_fault : ByteArray := prog_9_method_14_code
def yX7_fault : MethodName := ⟨RX7, "fault", "()I"⟩
abbrev cX7_asNow : ByteArray := prog_9_method_15_code
def yX7_asNow : MethodName := ⟨RX7, "asNow", "()V"⟩
abbrev cX7_doesOpen : ByteArray := prog_9_method_16_code
def yX7_doesOpen : MethodName := ⟨RX7, "doesOpen", "(II)Z"⟩
abbrev cX7_gets : ByteArray := prog_9_method_17_code
def yX7_gets : MethodName := ⟨RX7, "gets", "(II)V"⟩
abbrev cX7_tries : ByteArray := prog_9_method_18_code
def yX7_tries : MethodName := ⟨RX7, "tries", "(II)I"⟩
abbrev cX7_dies : ByteArray := prog_9_method_19_code
def yX7_dies : MethodName := ⟨RX7, "dies", "(II)I"⟩
abbrev cX7_lends : ByteArray := prog_9_method_20_code
def yX7_lends : MethodName := ⟨RX7, "lends", "(III)I"⟩
abbrev cX7_endYear : ByteArray := prog_9_method_21_code
def yX7_endYear : MethodName := ⟨RX7, "endYear", "()I"⟩
abbrev cX7_goYears : ByteArray := prog_9_method_22_code
def yX7_goYears : MethodName := ⟨RX7, "goYears", "()I"⟩
abbrev cX7_judge : ByteArray := prog_9_method_23_code
def yX7_judge : MethodName := ⟨RX7, "judge", "(I)I"⟩
abbrev cX7_barOfYears : ByteArray := prog_9_method_24_code
def yX7_barOfYears : MethodName := ⟨RX7, "barOfYears", "()I"⟩
abbrev cX7_done : ByteArray := prog_9_method_25_code
def yX7_done : MethodName := ⟨RX7, "done", "()I"⟩
abbrev cX7_behind : ByteArray := prog_9_method_26_code
def yX7_behind : MethodName := ⟨RX7, "behind", "(II)I"⟩
abbrev cX7_then : ByteArray := prog_9_method_27_code
def yX7_then : MethodName := ⟨RX7, "then", "(I)I"⟩
abbrev cX7_openSet : ByteArray := prog_9_method_28_code
def yX7_openSet : MethodName := ⟨RX7, "openSet", "(I)I"⟩
abbrev cX7_opens : ByteArray := prog_9_method_29_code
def yX7_opens : MethodName := ⟨RX7, "opens", "(I)I"⟩
abbrev cX7_two : ByteArray := prog_9_method_30_code
def yX7_two : MethodName := ⟨RX7, "two", "()I"⟩
abbrev cX7_chain : ByteArray := prog_9_method_31_code
def yX7_chain : MethodName := ⟨RX7, "chain", "(II)I"⟩
abbrev cX7_owes : ByteArray := prog_9_method_32_code
def yX7_owes : MethodName := ⟨RX7, "owes", "(II)I"⟩
abbrev cX7_netted : ByteArray := prog_9_method_33_code
def yX7_netted : MethodName := ⟨RX7, "netted", "(I)I"⟩
abbrev cX7_rings : ByteArray := prog_9_method_34_code
def yX7_rings : MethodName := ⟨RX7, "rings", "()I"⟩
abbrev cX7_note : ByteArray := prog_9_method_35_code
def yX7_note : MethodName := ⟨RX7, "note", "(II)I"⟩
abbrev cX7_only : ByteArray := prog_9_method_36_code
def yX7_only : MethodName := ⟨RX7, "only", "(II)I"⟩
abbrev cX7_feels : ByteArray := prog_9_method_37_code
def yX7_feels : MethodName := ⟨RX7, "feels", "(II)I"⟩
abbrev cX7_share : ByteArray := prog_9_method_38_code
def yX7_share : MethodName := ⟨RX7, "share", "(II)I"⟩
abbrev cX7_layMatch : ByteArray := prog_9_method_39_code
def yX7_layMatch : MethodName := ⟨RX7, "layMatch", "()V"⟩
abbrev cX7_match : ByteArray := prog_9_method_40_code
def yX7_match : MethodName := ⟨RX7, "match", "(I)I"⟩
abbrev cX7_seen : ByteArray := prog_9_method_41_code
def yX7_seen : MethodName := ⟨RX7, "seen", "(IZ)I"⟩
abbrev cX7_forget : ByteArray := prog_9_method_42_code
def yX7_forget : MethodName := ⟨RX7, "forget", "()I"⟩
abbrev cX7_isLaw : ByteArray := prog_9_method_43_code
def yX7_isLaw : MethodName := ⟨RX7, "isLaw", "(II)Z"⟩
abbrev cX7_laws : ByteArray := prog_9_method_44_code
def yX7_laws : MethodName := ⟨RX7, "laws", "(I)I"⟩
abbrev cX7_next : ByteArray := prog_9_method_45_code
def yX7_next : MethodName := ⟨RX7, "next", "(I)I"⟩
abbrev cX7_power : ByteArray := prog_9_method_46_code
def yX7_power : MethodName := ⟨RX7, "power", "(JI)J"⟩
abbrev cX7_chance : ByteArray := prog_9_method_47_code
def yX7_chance : MethodName := ⟨RX7, "chance", "(IIIII)J"⟩
abbrev cX7_book : ByteArray := prog_9_method_48_code
def yX7_book : MethodName := ⟨RX7, "book", "(III)I"⟩
abbrev cX7_image : ByteArray := prog_9_method_49_code
def yX7_image : MethodName := ⟨RX7, "image", "(I)I"⟩
abbrev cX7_restore : ByteArray := prog_9_method_50_code
def yX7_restore : MethodName := ⟨RX7, "restore", "(I)I"⟩
abbrev cX7_told : ByteArray := prog_9_method_51_code
def yX7_told : MethodName := ⟨RX7, "told", "(I)I"⟩
def RJ6 : String := "java/lang/Integer"
def TJ6 : u_T := fun k => match k with
  | _ => ("", "", "", false)
def tyJ6 : Nat → FieldType := fun k => match k with
  | _ => .int
theorem nmJ6 : ∀ a, a < 0 → ∀ b, b < 0 → a ≠ b → (TJ6 a).2.1 ≠ (TJ6 b).2.1 := by decide +kernel
theorem tyJ6_ok : ∀ k, k < 0 → parseFieldDescriptor (TJ6 k).2.2.1 = some (tyJ6 k) := by decide +kernel
abbrev cJ6_bitCount_0f7a4 : ByteArray := prog_10_method_49_code
def yJ6_bitCount_0f7a4 : MethodName := ⟨RJ6, "bitCount", "(I)I"⟩
def RJ9 : String := "java/lang/Math"
def TJ9 : u_T := fun k => match k with
  | _ => ("", "", "", false)
def tyJ9 : Nat → FieldType := fun k => match k with
  | _ => .int
theorem nmJ9 : ∀ a, a < 0 → ∀ b, b < 0 → a ≠ b → (TJ9 a).2.1 ≠ (TJ9 b).2.1 := by decide +kernel
theorem tyJ9_ok : ∀ k, k < 0 → parseFieldDescriptor (TJ9 k).2.2.1 = some (tyJ9 k) := by decide +kernel
abbrev cJ9_max_7cf53 : ByteArray := prog_11_method_65_code
def yJ9_max_7cf53 : MethodName := ⟨RJ9, "max", "(II)I"⟩
abbrev cJ9_min_7cf53 : ByteArray := prog_11_method_69_code
def yJ9_min_7cf53 : MethodName := ⟨RJ9, "min", "(II)I"⟩
def RJ10 : String := "java/lang/System"
def TJ10 : u_T := fun k => match k with
  | _ => ("", "", "", false)
def tyJ10 : Nat → FieldType := fun k => match k with
  | _ => .int
theorem nmJ10 : ∀ a, a < 0 → ∀ b, b < 0 → a ≠ b → (TJ10 a).2.1 ≠ (TJ10 b).2.1 := by decide +kernel
theorem tyJ10_ok : ∀ k, k < 0 → parseFieldDescriptor (TJ10 k).2.2.1 = some (tyJ10 k) := by decide +kernel
def RL : String := "NextLifeLaw"
abbrev cL_law : ByteArray := code
def yL_law : MethodName := ⟨RL, "law", "([I)Z"⟩
abbrev vwCl : List vw_C := [(RX0, TX0, 4), (RX1, TX1, 2), (RX2, TX2, 1), (RX3, TX3, 2), (RX4, TX4, 7), (RX5, TX5, 12), (RX6, TX6, 6), (RX7, TX7, 17)]
end
section
abbrev PMth : Type := MethodName × ByteArray × Nat × Option FieldType
def isNest : Cond → Bool
  | .fieldLinkNest _ _ _ _ _ _ => true
  | .methodLinkNest _ _ _ _ => true
  | _ => false
def pTb : List Cond := lw_tbl.filter goodWord
def pNs : List Cond := lw_tbl.filter isNest
theorem inT {w : Cond} (i : Nat) (h : lw_tbl[i]? = some w) (g : goodWord w = true) : w ∈ pTb := List.mem_filter.mpr ⟨List.mem_of_getElem? h, g⟩
theorem inN {w : Cond} (i : Nat) (h : lw_tbl[i]? = some w) (g : isNest w = true) : w ∈ pNs := List.mem_filter.mpr ⟨List.mem_of_getElem? h, g⟩
def FLp (own : String) (idx ci k : Nat) (fin : Bool) (ty : FieldType) : Prop := ∃ (C : String) (T : u_T) (N : Nat) (ty0 : Nat → FieldType), vwCl[ci]? = some (C, T, N) ∧ k < N ∧ (T k).1 = C ∧ (∀ w ∈ u_ws C T N, w ∈ pTb) ∧ (Cond.fieldLink own idx C (T k).2.1 (T k).2.2.1 ∈ pTb ∨ ∃ host, Cond.fieldLinkNest own idx C (T k).2.1 (T k).2.2.1 host ∈ pNs) ∧ (∀ k, k < N → parseFieldDescriptor (T k).2.2.1 = some (ty0 k)) ∧ (∀ a, a < N → ∀ b, b < N → a ≠ b → (T a).2.1 ≠ (T b).2.1) ∧ (T k).2.2.2 = fin ∧ parseFieldDescriptor (T k).2.2.1 = some ty
def NWp (own : String) (idx ci N : Nat) (fs : List Value) : Prop := ∃ (C : String) (T : u_T) (ty0 : Nat → FieldType), vwCl[ci]? = some (C, T, N) ∧ (∀ w ∈ u_ws C T N, w ∈ pTb) ∧ Cond.classLink own idx C ∈ pTb ∧ Cond.instantiable C N ∈ pTb ∧ Cond.initialized C ∈ pTb ∧ (∀ k, k < N → parseFieldDescriptor (T k).2.2.1 = some (ty0 k)) ∧ ∀ j, j < N → defaultValue (ty0 j) = vp_V fs j
def KBp (Y : PMth) (n : Nat) : Prop := Cond.code Y.1 Y.2.1 Y.2.2.1 Y.2.2.2 ∈ pTb ∧ Cond.initialized Y.1.cls ∈ pTb ∧ (Y.1.cls ≠ "java/lang/invoke/MethodHandle" ∧ Y.1.cls ≠ "java/lang/invoke/VarHandle" ∧ (parseMethodDescriptor Y.1.desc).map (fun d => d.parameters.length) = some n) ∧ plainName Y.1.cls = true
def MLp (own : String) (idx : Nat) (y : MethodName) : Prop := Cond.methodLink own idx y ∈ pTb ∨ ∃ host, Cond.methodLinkNest own idx y host ∈ pNs
def KVp (own : String) (idx : Nat) (Y : PMth) (n : Nat) : Prop := KBp Y n ∧ MLp own idx Y.1 ∧ Cond.instanceMethod Y.1 ∈ pTb ∧ Cond.selects Y.1.cls Y.1 Y.1 ∈ pTb
def KSp (own : String) (idx : Nat) (Y : PMth) (n : Nat) : Prop := KBp Y n ∧ MLp own idx Y.1 ∧ Cond.static Y.1 ∈ pTb
def KIp (own : String) (idx : Nat) (Y : PMth) (n : Nat) : Prop := KBp Y n ∧ MLp own idx Y.1 ∧ Cond.instanceMethod Y.1 ∈ pTb ∧ Y.1.name = "<init>" ∧ Y.2.2.2 = none
theorem iX0 : ∀ w ∈ u_ws RX0 TX0 4, w ∈ pTb := by decide +kernel
theorem iX1 : ∀ w ∈ u_ws RX1 TX1 2, w ∈ pTb := by decide +kernel
theorem iX2 : ∀ w ∈ u_ws RX2 TX2 1, w ∈ pTb := by decide +kernel
theorem iX3 : ∀ w ∈ u_ws RX3 TX3 2, w ∈ pTb := by decide +kernel
theorem iX4 : ∀ w ∈ u_ws RX4 TX4 7, w ∈ pTb := by decide +kernel
theorem iX5 : ∀ w ∈ u_ws RX5 TX5 12, w ∈ pTb := by decide +kernel
theorem iX6 : ∀ w ∈ u_ws RX6 TX6 6, w ∈ pTb := by decide +kernel
theorem iX7 : ∀ w ∈ u_ws RX7 TX7 17, w ∈ pTb := by decide +kernel
def YX6_init : PMth := (yX6_init, cX6_init, 1, none)
theorem kb_YX6_init : KBp YX6_init 0 := ⟨(inT 78 (by decide +kernel) rfl), (inT 63 (by decide +kernel) rfl), ⟨by decide +kernel, by decide +kernel, by decide +kernel⟩, by decide +kernel⟩
def YX5_init : PMth := (yX5_init, cX5_init, 2, none)
theorem kb_YX5_init : KBp YX5_init 0 := ⟨(inT 86 (by decide +kernel) rfl), (inT 64 (by decide +kernel) rfl), ⟨by decide +kernel, by decide +kernel, by decide +kernel⟩, by decide +kernel⟩
def YX3_init : PMth := (yX3_init, cX3_init, 1, none)
theorem kb_YX3_init : KBp YX3_init 0 := ⟨(inT 147 (by decide +kernel) rfl), (inT 65 (by decide +kernel) rfl), ⟨by decide +kernel, by decide +kernel, by decide +kernel⟩, by decide +kernel⟩
def YX4_init : PMth := (yX4_init, cX4_init, 1, none)
theorem kb_YX4_init : KBp YX4_init 0 := ⟨(inT 162 (by decide +kernel) rfl), (inT 66 (by decide +kernel) rfl), ⟨by decide +kernel, by decide +kernel, by decide +kernel⟩, by decide +kernel⟩
def YX0_init : PMth := (yX0_init, cX0_init, 1, none)
theorem kb_YX0_init : KBp YX0_init 0 := ⟨(inT 170 (by decide +kernel) rfl), (inT 67 (by decide +kernel) rfl), ⟨by decide +kernel, by decide +kernel, by decide +kernel⟩, by decide +kernel⟩
def YX2_init : PMth := (yX2_init, cX2_init, 1, none)
theorem kb_YX2_init : KBp YX2_init 0 := ⟨(inT 224 (by decide +kernel) rfl), (inT 68 (by decide +kernel) rfl), ⟨by decide +kernel, by decide +kernel, by decide +kernel⟩, by decide +kernel⟩
def YX1_init : PMth := (yX1_init, cX1_init, 1, none)
theorem kb_YX1_init : KBp YX1_init 0 := ⟨(inT 234 (by decide +kernel) rfl), (inT 69 (by decide +kernel) rfl), ⟨by decide +kernel, by decide +kernel, by decide +kernel⟩, by decide +kernel⟩
def YX6_birth : PMth := (yX6_birth, cX6_birth, 4, some .int)
theorem kb_YX6_birth : KBp YX6_birth 3 := ⟨(inT 265 (by decide +kernel) rfl), (inT 63 (by decide +kernel) rfl), ⟨by decide +kernel, by decide +kernel, by decide +kernel⟩, by decide +kernel⟩
def YX6_isSoul : PMth := (yX6_isSoul, cX6_isSoul, 1, some .boolean)
theorem kb_YX6_isSoul : KBp YX6_isSoul 1 := ⟨(inT 268 (by decide +kernel) rfl), (inT 63 (by decide +kernel) rfl), ⟨by decide +kernel, by decide +kernel, by decide +kernel⟩, by decide +kernel⟩
def YX6_isWithin : PMth := (yX6_isWithin, cX6_isWithin, 3, some .boolean)
theorem kb_YX6_isWithin : KBp YX6_isWithin 3 := ⟨(inT 271 (by decide +kernel) rfl), (inT 63 (by decide +kernel) rfl), ⟨by decide +kernel, by decide +kernel, by decide +kernel⟩, by decide +kernel⟩
def YX5_bear : PMth := (yX5_bear, cX5_bear, 5, none)
theorem kb_YX5_bear : KBp YX5_bear 3 := ⟨(inT 275 (by decide +kernel) rfl), (inT 64 (by decide +kernel) rfl), ⟨by decide +kernel, by decide +kernel, by decide +kernel⟩, by decide +kernel⟩
def YX5_debtPlace : PMth := (yX5_debtPlace, cX5_debtPlace, 2, some .int)
theorem kb_YX5_debtPlace : KBp YX5_debtPlace 2 := ⟨(inT 278 (by decide +kernel) rfl), (inT 64 (by decide +kernel) rfl), ⟨by decide +kernel, by decide +kernel, by decide +kernel⟩, by decide +kernel⟩
def YJ6_bitCount_0f7a4 : PMth := (yJ6_bitCount_0f7a4, cJ6_bitCount_0f7a4, 1, some .int)
theorem kb_YJ6_bitCount_0f7a4 : KBp YJ6_bitCount_0f7a4 1 := ⟨(inT 281 (by decide +kernel) rfl), (inT 71 (by decide +kernel) rfl), ⟨by decide +kernel, by decide +kernel, by decide +kernel⟩, by decide +kernel⟩
def YX6_box : PMth := (yX6_box, cX6_box, 6, some .int)
theorem kb_YX6_box : KBp YX6_box 4 := ⟨(inT 288 (by decide +kernel) rfl), (inT 63 (by decide +kernel) rfl), ⟨by decide +kernel, by decide +kernel, by decide +kernel⟩, by decide +kernel⟩
def YX6_isBox : PMth := (yX6_isBox, cX6_isBox, 1, some .boolean)
theorem kb_YX6_isBox : KBp YX6_isBox 1 := ⟨(inT 291 (by decide +kernel) rfl), (inT 63 (by decide +kernel) rfl), ⟨by decide +kernel, by decide +kernel, by decide +kernel⟩, by decide +kernel⟩
def YX6_say : PMth := (yX6_say, cX6_say, 2, some .int)
theorem kb_YX6_say : KBp YX6_say 1 := ⟨(inT 295 (by decide +kernel) rfl), (inT 63 (by decide +kernel) rfl), ⟨by decide +kernel, by decide +kernel, by decide +kernel⟩, by decide +kernel⟩
def YX3_put : PMth := (yX3_put, cX3_put, 2, some .boolean)
theorem kb_YX3_put : KBp YX3_put 1 := ⟨(inT 299 (by decide +kernel) rfl), (inT 65 (by decide +kernel) rfl), ⟨by decide +kernel, by decide +kernel, by decide +kernel⟩, by decide +kernel⟩
def YX6_wipe : PMth := (yX6_wipe, cX6_wipe, 2, some .int)
theorem kb_YX6_wipe : KBp YX6_wipe 0 := ⟨(inT 303 (by decide +kernel) rfl), (inT 63 (by decide +kernel) rfl), ⟨by decide +kernel, by decide +kernel, by decide +kernel⟩, by decide +kernel⟩
def YX6_fault : PMth := (yX6_fault, cX6_fault, 1, some .int)
theorem kb_YX6_fault : KBp YX6_fault 0 := ⟨(inT 307 (by decide +kernel) rfl), (inT 63 (by decide +kernel) rfl), ⟨by decide +kernel, by decide +kernel, by decide +kernel⟩, by decide +kernel⟩
def YX3_faultPlace : PMth := (yX3_faultPlace, cX3_faultPlace, 3, some .int)
theorem kb_YX3_faultPlace : KBp YX3_faultPlace 0 := ⟨(inT 311 (by decide +kernel) rfl), (inT 65 (by decide +kernel) rfl), ⟨by decide +kernel, by decide +kernel, by decide +kernel⟩, by decide +kernel⟩
def YX3_signAt : PMth := (yX3_signAt, cX3_signAt, 2, some .int)
theorem kb_YX3_signAt : KBp YX3_signAt 1 := ⟨(inT 315 (by decide +kernel) rfl), (inT 65 (by decide +kernel) rfl), ⟨by decide +kernel, by decide +kernel, by decide +kernel⟩, by decide +kernel⟩
def YX3_stepOver : PMth := (yX3_stepOver, cX3_stepOver, 3, some .int)
theorem kb_YX3_stepOver : KBp YX3_stepOver 2 := ⟨(inT 318 (by decide +kernel) rfl), (inT 65 (by decide +kernel) rfl), ⟨by decide +kernel, by decide +kernel, by decide +kernel⟩, by decide +kernel⟩
def YX6_judge : PMth := (yX6_judge, cX6_judge, 2, some .int)
theorem kb_YX6_judge : KBp YX6_judge 1 := ⟨(inT 323 (by decide +kernel) rfl), (inT 63 (by decide +kernel) rfl), ⟨by decide +kernel, by decide +kernel, by decide +kernel⟩, by decide +kernel⟩
def YX4_followPad : PMth := (yX4_followPad, cX4_followPad, 6, none)
theorem kb_YX4_followPad : KBp YX4_followPad 2 := ⟨(inT 327 (by decide +kernel) rfl), (inT 66 (by decide +kernel) rfl), ⟨by decide +kernel, by decide +kernel, by decide +kernel⟩, by decide +kernel⟩
def YX5_copyFrom : PMth := (yX5_copyFrom, cX5_copyFrom, 2, none)
theorem kb_YX5_copyFrom : KBp YX5_copyFrom 1 := ⟨(inT 331 (by decide +kernel) rfl), (inT 64 (by decide +kernel) rfl), ⟨by decide +kernel, by decide +kernel, by decide +kernel⟩, by decide +kernel⟩
def YX0_readFrom : PMth := (yX0_readFrom, cX0_readFrom, 5, some .int)
theorem kb_YX0_readFrom : KBp YX0_readFrom 2 := ⟨(inT 338 (by decide +kernel) rfl), (inT 67 (by decide +kernel) rfl), ⟨by decide +kernel, by decide +kernel, by decide +kernel⟩, by decide +kernel⟩
def YX5_hindrance : PMth := (yX5_hindrance, cX5_hindrance, 2, some .int)
theorem kb_YX5_hindrance : KBp YX5_hindrance 1 := ⟨(inT 343 (by decide +kernel) rfl), (inT 64 (by decide +kernel) rfl), ⟨by decide +kernel, by decide +kernel, by decide +kernel⟩, by decide +kernel⟩
def YX5_isLiving : PMth := (yX5_isLiving, cX5_isLiving, 2, some .boolean)
theorem kb_YX5_isLiving : KBp YX5_isLiving 1 := ⟨(inT 347 (by decide +kernel) rfl), (inT 64 (by decide +kernel) rfl), ⟨by decide +kernel, by decide +kernel, by decide +kernel⟩, by decide +kernel⟩
def YX6_hasBit : PMth := (yX6_hasBit, cX6_hasBit, 2, some .boolean)
theorem kb_YX6_hasBit : KBp YX6_hasBit 2 := ⟨(inT 351 (by decide +kernel) rfl), (inT 63 (by decide +kernel) rfl), ⟨by decide +kernel, by decide +kernel, by decide +kernel⟩, by decide +kernel⟩
def YX5_canLend : PMth := (yX5_canLend, cX5_canLend, 4, some .boolean)
theorem kb_YX5_canLend : KBp YX5_canLend 3 := ⟨(inT 355 (by decide +kernel) rfl), (inT 64 (by decide +kernel) rfl), ⟨by decide +kernel, by decide +kernel, by decide +kernel⟩, by decide +kernel⟩
def YX4_countTry : PMth := (yX4_countTry, cX4_countTry, 1, none)
theorem kb_YX4_countTry : KBp YX4_countTry 0 := ⟨(inT 359 (by decide +kernel) rfl), (inT 66 (by decide +kernel) rfl), ⟨by decide +kernel, by decide +kernel, by decide +kernel⟩, by decide +kernel⟩
def YX5_letsIn : PMth := (yX5_letsIn, cX5_letsIn, 3, some .boolean)
theorem kb_YX5_letsIn : KBp YX5_letsIn 2 := ⟨(inT 363 (by decide +kernel) rfl), (inT 64 (by decide +kernel) rfl), ⟨by decide +kernel, by decide +kernel, by decide +kernel⟩, by decide +kernel⟩
def YX5_felt : PMth := (yX5_felt, cX5_felt, 3, some .int)
theorem kb_YX5_felt : KBp YX5_felt 2 := ⟨(inT 368 (by decide +kernel) rfl), (inT 64 (by decide +kernel) rfl), ⟨by decide +kernel, by decide +kernel, by decide +kernel⟩, by decide +kernel⟩
def YX5_perform : PMth := (yX5_perform, cX5_perform, 2, none)
theorem kb_YX5_perform : KBp YX5_perform 1 := ⟨(inT 373 (by decide +kernel) rfl), (inT 64 (by decide +kernel) rfl), ⟨by decide +kernel, by decide +kernel, by decide +kernel⟩, by decide +kernel⟩
def YX5_comeBack : PMth := (yX5_comeBack, cX5_comeBack, 4, none)
theorem kb_YX5_comeBack : KBp YX5_comeBack 2 := ⟨(inT 377 (by decide +kernel) rfl), (inT 64 (by decide +kernel) rfl), ⟨by decide +kernel, by decide +kernel, by decide +kernel⟩, by decide +kernel⟩
def YX5_moveDebt : PMth := (yX5_moveDebt, cX5_moveDebt, 3, none)
theorem kb_YX5_moveDebt : KBp YX5_moveDebt 2 := ⟨(inT 381 (by decide +kernel) rfl), (inT 64 (by decide +kernel) rfl), ⟨by decide +kernel, by decide +kernel, by decide +kernel⟩, by decide +kernel⟩
def YX5_lend : PMth := (yX5_lend, cX5_lend, 4, none)
theorem kb_YX5_lend : KBp YX5_lend 3 := ⟨(inT 385 (by decide +kernel) rfl), (inT 64 (by decide +kernel) rfl), ⟨by decide +kernel, by decide +kernel, by decide +kernel⟩, by decide +kernel⟩
def YX5_fillPurse : PMth := (yX5_fillPurse, cX5_fillPurse, 3, none)
theorem kb_YX5_fillPurse : KBp YX5_fillPurse 2 := ⟨(inT 389 (by decide +kernel) rfl), (inT 64 (by decide +kernel) rfl), ⟨by decide +kernel, by decide +kernel, by decide +kernel⟩, by decide +kernel⟩
def YX5_tryBox : PMth := (yX5_tryBox, cX5_tryBox, 3, none)
theorem kb_YX5_tryBox : KBp YX5_tryBox 2 := ⟨(inT 396 (by decide +kernel) rfl), (inT 64 (by decide +kernel) rfl), ⟨by decide +kernel, by decide +kernel, by decide +kernel⟩, by decide +kernel⟩
def YX6_done : PMth := (yX6_done, cX6_done, 1, some .int)
theorem kb_YX6_done : KBp YX6_done 0 := ⟨(inT 401 (by decide +kernel) rfl), (inT 63 (by decide +kernel) rfl), ⟨by decide +kernel, by decide +kernel, by decide +kernel⟩, by decide +kernel⟩
def YX6_yearsCanBe : PMth := (yX6_yearsCanBe, cX6_yearsCanBe, 1, some .boolean)
theorem kb_YX6_yearsCanBe : KBp YX6_yearsCanBe 0 := ⟨(inT 405 (by decide +kernel) rfl), (inT 63 (by decide +kernel) rfl), ⟨by decide +kernel, by decide +kernel, by decide +kernel⟩, by decide +kernel⟩
def YX6_behind : PMth := (yX6_behind, cX6_behind, 3, some .int)
theorem kb_YX6_behind : KBp YX6_behind 2 := ⟨(inT 410 (by decide +kernel) rfl), (inT 63 (by decide +kernel) rfl), ⟨by decide +kernel, by decide +kernel, by decide +kernel⟩, by decide +kernel⟩
def YX6_then : PMth := (yX6_then, cX6_then, 2, some .int)
theorem kb_YX6_then : KBp YX6_then 1 := ⟨(inT 415 (by decide +kernel) rfl), (inT 63 (by decide +kernel) rfl), ⟨by decide +kernel, by decide +kernel, by decide +kernel⟩, by decide +kernel⟩
def YX6_opens : PMth := (yX6_opens, cX6_opens, 2, some .int)
theorem kb_YX6_opens : KBp YX6_opens 1 := ⟨(inT 419 (by decide +kernel) rfl), (inT 63 (by decide +kernel) rfl), ⟨by decide +kernel, by decide +kernel, by decide +kernel⟩, by decide +kernel⟩
def YX5_soulsLetIn : PMth := (yX5_soulsLetIn, cX5_soulsLetIn, 4, some .int)
theorem kb_YX5_soulsLetIn : KBp YX5_soulsLetIn 1 := ⟨(inT 423 (by decide +kernel) rfl), (inT 64 (by decide +kernel) rfl), ⟨by decide +kernel, by decide +kernel, by decide +kernel⟩, by decide +kernel⟩
def YX6_two : PMth := (yX6_two, cX6_two, 3, some .int)
theorem kb_YX6_two : KBp YX6_two 0 := ⟨(inT 427 (by decide +kernel) rfl), (inT 63 (by decide +kernel) rfl), ⟨by decide +kernel, by decide +kernel, by decide +kernel⟩, by decide +kernel⟩
def YX6_chain : PMth := (yX6_chain, cX6_chain, 7, some .int)
theorem kb_YX6_chain : KBp YX6_chain 2 := ⟨(inT 431 (by decide +kernel) rfl), (inT 63 (by decide +kernel) rfl), ⟨by decide +kernel, by decide +kernel, by decide +kernel⟩, by decide +kernel⟩
def YX6_owes : PMth := (yX6_owes, cX6_owes, 3, some .int)
theorem kb_YX6_owes : KBp YX6_owes 2 := ⟨(inT 436 (by decide +kernel) rfl), (inT 63 (by decide +kernel) rfl), ⟨by decide +kernel, by decide +kernel, by decide +kernel⟩, by decide +kernel⟩
def YX6_netted : PMth := (yX6_netted, cX6_netted, 4, some .int)
theorem kb_YX6_netted : KBp YX6_netted 1 := ⟨(inT 441 (by decide +kernel) rfl), (inT 63 (by decide +kernel) rfl), ⟨by decide +kernel, by decide +kernel, by decide +kernel⟩, by decide +kernel⟩
def YX6_rings : PMth := (yX6_rings, cX6_rings, 3, some .int)
theorem kb_YX6_rings : KBp YX6_rings 0 := ⟨(inT 445 (by decide +kernel) rfl), (inT 63 (by decide +kernel) rfl), ⟨by decide +kernel, by decide +kernel, by decide +kernel⟩, by decide +kernel⟩
def YX5_creditorsBehind : PMth := (yX5_creditorsBehind, cX5_creditorsBehind, 5, some .int)
theorem kb_YX5_creditorsBehind : KBp YX5_creditorsBehind 1 := ⟨(inT 449 (by decide +kernel) rfl), (inT 64 (by decide +kernel) rfl), ⟨by decide +kernel, by decide +kernel, by decide +kernel⟩, by decide +kernel⟩
def YX5_creditorsOf : PMth := (yX5_creditorsOf, cX5_creditorsOf, 4, some .int)
theorem kb_YX5_creditorsOf : KBp YX5_creditorsOf 1 := ⟨(inT 453 (by decide +kernel) rfl), (inT 64 (by decide +kernel) rfl), ⟨by decide +kernel, by decide +kernel, by decide +kernel⟩, by decide +kernel⟩
def YX6_note : PMth := (yX6_note, cX6_note, 4, some .int)
theorem kb_YX6_note : KBp YX6_note 2 := ⟨(inT 457 (by decide +kernel) rfl), (inT 63 (by decide +kernel) rfl), ⟨by decide +kernel, by decide +kernel, by decide +kernel⟩, by decide +kernel⟩
def YX5_shortestNote : PMth := (yX5_shortestNote, cX5_shortestNote, 5, some .int)
theorem kb_YX5_shortestNote : KBp YX5_shortestNote 1 := ⟨(inT 461 (by decide +kernel) rfl), (inT 64 (by decide +kernel) rfl), ⟨by decide +kernel, by decide +kernel, by decide +kernel⟩, by decide +kernel⟩
def YX5_anotherHas : PMth := (yX5_anotherHas, cX5_anotherHas, 4, some .boolean)
theorem kb_YX5_anotherHas : KBp YX5_anotherHas 2 := ⟨(inT 465 (by decide +kernel) rfl), (inT 64 (by decide +kernel) rfl), ⟨by decide +kernel, by decide +kernel, by decide +kernel⟩, by decide +kernel⟩
def YX6_only : PMth := (yX6_only, cX6_only, 5, some .int)
theorem kb_YX6_only : KBp YX6_only 2 := ⟨(inT 469 (by decide +kernel) rfl), (inT 63 (by decide +kernel) rfl), ⟨by decide +kernel, by decide +kernel, by decide +kernel⟩, by decide +kernel⟩
def YX6_share : PMth := (yX6_share, cX6_share, 3, some .int)
theorem kb_YX6_share : KBp YX6_share 2 := ⟨(inT 477 (by decide +kernel) rfl), (inT 63 (by decide +kernel) rfl), ⟨by decide +kernel, by decide +kernel, by decide +kernel⟩, by decide +kernel⟩
def YX5_shareOf : PMth := (yX5_shareOf, cX5_shareOf, 9, some .int)
theorem kb_YX5_shareOf : KBp YX5_shareOf 2 := ⟨(inT 481 (by decide +kernel) rfl), (inT 64 (by decide +kernel) rfl), ⟨by decide +kernel, by decide +kernel, by decide +kernel⟩, by decide +kernel⟩
def YX6_match : PMth := (yX6_match, cX6_match, 2, some .int)
theorem kb_YX6_match : KBp YX6_match 1 := ⟨(inT 485 (by decide +kernel) rfl), (inT 63 (by decide +kernel) rfl), ⟨by decide +kernel, by decide +kernel, by decide +kernel⟩, by decide +kernel⟩
def YX2_weigh : PMth := (yX2_weigh, cX2_weigh, 5, none)
theorem kb_YX2_weigh : KBp YX2_weigh 1 := ⟨(inT 489 (by decide +kernel) rfl), (inT 68 (by decide +kernel) rfl), ⟨by decide +kernel, by decide +kernel, by decide +kernel⟩, by decide +kernel⟩
def YX5_boxesFor : PMth := (yX5_boxesFor, cX5_boxesFor, 4, some .int)
theorem kb_YX5_boxesFor : KBp YX5_boxesFor 1 := ⟨(inT 493 (by decide +kernel) rfl), (inT 64 (by decide +kernel) rfl), ⟨by decide +kernel, by decide +kernel, by decide +kernel⟩, by decide +kernel⟩
def YX2_mostOf : PMth := (yX2_mostOf, cX2_mostOf, 7, some .int)
theorem kb_YX2_mostOf : KBp YX2_mostOf 4 := ⟨(inT 497 (by decide +kernel) rfl), (inT 68 (by decide +kernel) rfl), ⟨by decide +kernel, by decide +kernel, by decide +kernel⟩, by decide +kernel⟩
def YX2_mostBehind : PMth := (yX2_mostBehind, cX2_mostBehind, 3, some .int)
theorem kb_YX2_mostBehind : KBp YX2_mostBehind 2 := ⟨(inT 501 (by decide +kernel) rfl), (inT 68 (by decide +kernel) rfl), ⟨by decide +kernel, by decide +kernel, by decide +kernel⟩, by decide +kernel⟩
def YX2_mostWith : PMth := (yX2_mostWith, cX2_mostWith, 5, some .int)
theorem kb_YX2_mostWith : KBp YX2_mostWith 4 := ⟨(inT 506 (by decide +kernel) rfl), (inT 68 (by decide +kernel) rfl), ⟨by decide +kernel, by decide +kernel, by decide +kernel⟩, by decide +kernel⟩
def YX2_mostTogether : PMth := (yX2_mostTogether, cX2_mostTogether, 1, some .int)
theorem kb_YX2_mostTogether : KBp YX2_mostTogether 0 := ⟨(inT 511 (by decide +kernel) rfl), (inT 68 (by decide +kernel) rfl), ⟨by decide +kernel, by decide +kernel, by decide +kernel⟩, by decide +kernel⟩
def YX2_boxOf : PMth := (yX2_boxOf, cX2_boxOf, 6, some .int)
theorem kb_YX2_boxOf : KBp YX2_boxOf 2 := ⟨(inT 515 (by decide +kernel) rfl), (inT 68 (by decide +kernel) rfl), ⟨by decide +kernel, by decide +kernel, by decide +kernel⟩, by decide +kernel⟩
def YX2_leastBestBox : PMth := (yX2_leastBestBox, cX2_leastBestBox, 6, some .int)
theorem kb_YX2_leastBestBox : KBp YX2_leastBestBox 3 := ⟨(inT 519 (by decide +kernel) rfl), (inT 68 (by decide +kernel) rfl), ⟨by decide +kernel, by decide +kernel, by decide +kernel⟩, by decide +kernel⟩
def YX6_seen : PMth := (yX6_seen, cX6_seen, 3, some .int)
theorem kb_YX6_seen : KBp YX6_seen 2 := ⟨(inT 523 (by decide +kernel) rfl), (inT 63 (by decide +kernel) rfl), ⟨by decide +kernel, by decide +kernel, by decide +kernel⟩, by decide +kernel⟩
def YX5_addSight : PMth := (yX5_addSight, cX5_addSight, 3, some .boolean)
theorem kb_YX5_addSight : KBp YX5_addSight 2 := ⟨(inT 527 (by decide +kernel) rfl), (inT 64 (by decide +kernel) rfl), ⟨by decide +kernel, by decide +kernel, by decide +kernel⟩, by decide +kernel⟩
def YX6_forget : PMth := (yX6_forget, cX6_forget, 2, some .int)
theorem kb_YX6_forget : KBp YX6_forget 0 := ⟨(inT 531 (by decide +kernel) rfl), (inT 63 (by decide +kernel) rfl), ⟨by decide +kernel, by decide +kernel, by decide +kernel⟩, by decide +kernel⟩
def YX6_laws : PMth := (yX6_laws, cX6_laws, 2, some .int)
theorem kb_YX6_laws : KBp YX6_laws 1 := ⟨(inT 535 (by decide +kernel) rfl), (inT 63 (by decide +kernel) rfl), ⟨by decide +kernel, by decide +kernel, by decide +kernel⟩, by decide +kernel⟩
def YX1_howMany : PMth := (yX1_howMany, cX1_howMany, 2, some .int)
theorem kb_YX1_howMany : KBp YX1_howMany 1 := ⟨(inT 539 (by decide +kernel) rfl), (inT 69 (by decide +kernel) rfl), ⟨by decide +kernel, by decide +kernel, by decide +kernel⟩, by decide +kernel⟩
def YX1_weigh : PMth := (yX1_weigh, cX1_weigh, 3, none)
theorem kb_YX1_weigh : KBp YX1_weigh 1 := ⟨(inT 543 (by decide +kernel) rfl), (inT 69 (by decide +kernel) rfl), ⟨by decide +kernel, by decide +kernel, by decide +kernel⟩, by decide +kernel⟩
def YX1_leastHits : PMth := (yX1_leastHits, cX1_leastHits, 4, some .int)
theorem kb_YX1_leastHits : KBp YX1_leastHits 2 := ⟨(inT 546 (by decide +kernel) rfl), (inT 69 (by decide +kernel) rfl), ⟨by decide +kernel, by decide +kernel, by decide +kernel⟩, by decide +kernel⟩
def YX1_mostHits : PMth := (yX1_mostHits, cX1_mostHits, 4, some .int)
theorem kb_YX1_mostHits : KBp YX1_mostHits 2 := ⟨(inT 552 (by decide +kernel) rfl), (inT 69 (by decide +kernel) rfl), ⟨by decide +kernel, by decide +kernel, by decide +kernel⟩, by decide +kernel⟩
def YX1_weighWants : PMth := (yX1_weighWants, cX1_weighWants, 7, none)
theorem kb_YX1_weighWants : KBp YX1_weighWants 4 := ⟨(inT 557 (by decide +kernel) rfl), (inT 69 (by decide +kernel) rfl), ⟨by decide +kernel, by decide +kernel, by decide +kernel⟩, by decide +kernel⟩
def YX1_lawAt : PMth := (yX1_lawAt, cX1_lawAt, 7, some .int)
theorem kb_YX1_lawAt : KBp YX1_lawAt 2 := ⟨(inT 561 (by decide +kernel) rfl), (inT 69 (by decide +kernel) rfl), ⟨by decide +kernel, by decide +kernel, by decide +kernel⟩, by decide +kernel⟩
def YX6_next : PMth := (yX6_next, cX6_next, 3, some .int)
theorem kb_YX6_next : KBp YX6_next 1 := ⟨(inT 565 (by decide +kernel) rfl), (inT 63 (by decide +kernel) rfl), ⟨by decide +kernel, by decide +kernel, by decide +kernel⟩, by decide +kernel⟩
def YX1_soulToTry : PMth := (yX1_soulToTry, cX1_soulToTry, 4, some .int)
theorem kb_YX1_soulToTry : KBp YX1_soulToTry 1 := ⟨(inT 570 (by decide +kernel) rfl), (inT 69 (by decide +kernel) rfl), ⟨by decide +kernel, by decide +kernel, by decide +kernel⟩, by decide +kernel⟩
def YX1_mostLeft : PMth := (yX1_mostLeft, cX1_mostLeft, 2, some .int)
theorem kb_YX1_mostLeft : KBp YX1_mostLeft 1 := ⟨(inT 575 (by decide +kernel) rfl), (inT 69 (by decide +kernel) rfl), ⟨by decide +kernel, by decide +kernel, by decide +kernel⟩, by decide +kernel⟩
def YX6_chance : PMth := (yX6_chance, cX6_chance, 17, some .long)
theorem kb_YX6_chance : KBp YX6_chance 5 := ⟨(inT 581 (by decide +kernel) rfl), (inT 63 (by decide +kernel) rfl), ⟨by decide +kernel, by decide +kernel, by decide +kernel⟩, by decide +kernel⟩
def YX6_power : PMth := (yX6_power, cX6_power, 6, some .long)
theorem kb_YX6_power : KBp YX6_power 2 := ⟨(inT 586 (by decide +kernel) rfl), (inT 63 (by decide +kernel) rfl), ⟨by decide +kernel, by decide +kernel, by decide +kernel⟩, by decide +kernel⟩
def YX6_waysToKeep : PMth := (yX6_waysToKeep, cX6_waysToKeep, 11, some .long)
theorem kb_YX6_waysToKeep : KBp YX6_waysToKeep 4 := ⟨(inT 590 (by decide +kernel) rfl), (inT 63 (by decide +kernel) rfl), ⟨by decide +kernel, by decide +kernel, by decide +kernel⟩, by decide +kernel⟩
def YX6_commonDivisor : PMth := (yX6_commonDivisor, cX6_commonDivisor, 11, some .long)
theorem kb_YX6_commonDivisor : KBp YX6_commonDivisor 2 := ⟨(inT 593 (by decide +kernel) rfl), (inT 63 (by decide +kernel) rfl), ⟨by decide +kernel, by decide +kernel, by decide +kernel⟩, by decide +kernel⟩
def YX6_book : PMth := (yX6_book, cX6_book, 4, some .int)
theorem kb_YX6_book : KBp YX6_book 3 := ⟨(inT 597 (by decide +kernel) rfl), (inT 63 (by decide +kernel) rfl), ⟨by decide +kernel, by decide +kernel, by decide +kernel⟩, by decide +kernel⟩
def YX4_followDraws : PMth := (yX4_followDraws, cX4_followDraws, 6, none)
theorem kb_YX4_followDraws : KBp YX4_followDraws 3 := ⟨(inT 601 (by decide +kernel) rfl), (inT 66 (by decide +kernel) rfl), ⟨by decide +kernel, by decide +kernel, by decide +kernel⟩, by decide +kernel⟩
def YX0_drawFrom : PMth := (yX0_drawFrom, cX0_drawFrom, 3, none)
theorem kb_YX0_drawFrom : KBp YX0_drawFrom 1 := ⟨(inT 606 (by decide +kernel) rfl), (inT 67 (by decide +kernel) rfl), ⟨by decide +kernel, by decide +kernel, by decide +kernel⟩, by decide +kernel⟩
def YX5_pursesTogether : PMth := (yX5_pursesTogether, cX5_pursesTogether, 3, some .int)
theorem kb_YX5_pursesTogether : KBp YX5_pursesTogether 0 := ⟨(inT 610 (by decide +kernel) rfl), (inT 64 (by decide +kernel) rfl), ⟨by decide +kernel, by decide +kernel, by decide +kernel⟩, by decide +kernel⟩
def YX5_coinsLeft : PMth := (yX5_coinsLeft, cX5_coinsLeft, 3, some .int)
theorem kb_YX5_coinsLeft : KBp YX5_coinsLeft 0 := ⟨(inT 614 (by decide +kernel) rfl), (inT 64 (by decide +kernel) rfl), ⟨by decide +kernel, by decide +kernel, by decide +kernel⟩, by decide +kernel⟩
def YX6_image : PMth := (yX6_image, cX6_image, 3, some .int)
theorem kb_YX6_image : KBp YX6_image 1 := ⟨(inT 618 (by decide +kernel) rfl), (inT 63 (by decide +kernel) rfl), ⟨by decide +kernel, by decide +kernel, by decide +kernel⟩, by decide +kernel⟩
def YX6_restore : PMth := (yX6_restore, cX6_restore, 3, some .int)
theorem kb_YX6_restore : KBp YX6_restore 1 := ⟨(inT 622 (by decide +kernel) rfl), (inT 63 (by decide +kernel) rfl), ⟨by decide +kernel, by decide +kernel, by decide +kernel⟩, by decide +kernel⟩
def YX6_told : PMth := (yX6_told, cX6_told, 2, some .int)
theorem kb_YX6_told : KBp YX6_told 1 := ⟨(inT 626 (by decide +kernel) rfl), (inT 63 (by decide +kernel) rfl), ⟨by decide +kernel, by decide +kernel, by decide +kernel⟩, by decide +kernel⟩
def YX6_toldOfSoul : PMth := (yX6_toldOfSoul, cX6_toldOfSoul, 3, some .int)
theorem kb_YX6_toldOfSoul : KBp YX6_toldOfSoul 2 := ⟨(inT 630 (by decide +kernel) rfl), (inT 63 (by decide +kernel) rfl), ⟨by decide +kernel, by decide +kernel, by decide +kernel⟩, by decide +kernel⟩
def YX6_toldOfBox : PMth := (yX6_toldOfBox, cX6_toldOfBox, 3, some .int)
theorem kb_YX6_toldOfBox : KBp YX6_toldOfBox 2 := ⟨(inT 634 (by decide +kernel) rfl), (inT 63 (by decide +kernel) rfl), ⟨by decide +kernel, by decide +kernel, by decide +kernel⟩, by decide +kernel⟩
def YX7_init : PMth := (yX7_init, cX7_init, 2, none)
theorem kb_YX7_init : KBp YX7_init 0 := ⟨(inT 639 (by decide +kernel) rfl), (inT 70 (by decide +kernel) rfl), ⟨by decide +kernel, by decide +kernel, by decide +kernel⟩, by decide +kernel⟩
def YX7_birth : PMth := (yX7_birth, cX7_birth, 5, some .int)
theorem kb_YX7_birth : KBp YX7_birth 3 := ⟨(inT 697 (by decide +kernel) rfl), (inT 70 (by decide +kernel) rfl), ⟨by decide +kernel, by decide +kernel, by decide +kernel⟩, by decide +kernel⟩
def YX7_isSoul : PMth := (yX7_isSoul, cX7_isSoul, 1, some .boolean)
theorem kb_YX7_isSoul : KBp YX7_isSoul 1 := ⟨(inT 700 (by decide +kernel) rfl), (inT 70 (by decide +kernel) rfl), ⟨by decide +kernel, by decide +kernel, by decide +kernel⟩, by decide +kernel⟩
def YX7_in : PMth := (yX7_in, cX7_in, 3, some .boolean)
theorem kb_YX7_in : KBp YX7_in 3 := ⟨(inT 703 (by decide +kernel) rfl), (inT 70 (by decide +kernel) rfl), ⟨by decide +kernel, by decide +kernel, by decide +kernel⟩, by decide +kernel⟩
def YX7_bits : PMth := (yX7_bits, cX7_bits, 3, some .int)
theorem kb_YX7_bits : KBp YX7_bits 1 := ⟨(inT 706 (by decide +kernel) rfl), (inT 70 (by decide +kernel) rfl), ⟨by decide +kernel, by decide +kernel, by decide +kernel⟩, by decide +kernel⟩
def YX7_box : PMth := (yX7_box, cX7_box, 6, some .int)
theorem kb_YX7_box : KBp YX7_box 4 := ⟨(inT 710 (by decide +kernel) rfl), (inT 70 (by decide +kernel) rfl), ⟨by decide +kernel, by decide +kernel, by decide +kernel⟩, by decide +kernel⟩
def YX7_isBox : PMth := (yX7_isBox, cX7_isBox, 1, some .boolean)
theorem kb_YX7_isBox : KBp YX7_isBox 1 := ⟨(inT 713 (by decide +kernel) rfl), (inT 70 (by decide +kernel) rfl), ⟨by decide +kernel, by decide +kernel, by decide +kernel⟩, by decide +kernel⟩
def YX7_say : PMth := (yX7_say, cX7_say, 2, some .int)
theorem kb_YX7_say : KBp YX7_say 1 := ⟨(inT 717 (by decide +kernel) rfl), (inT 70 (by decide +kernel) rfl), ⟨by decide +kernel, by decide +kernel, by decide +kernel⟩, by decide +kernel⟩
def YX7_wipe : PMth := (yX7_wipe, cX7_wipe, 2, some .int)
theorem kb_YX7_wipe : KBp YX7_wipe 0 := ⟨(inT 721 (by decide +kernel) rfl), (inT 70 (by decide +kernel) rfl), ⟨by decide +kernel, by decide +kernel, by decide +kernel⟩, by decide +kernel⟩
def YX7_fault : PMth := (yX7_fault, cX7_fault, 1, some .int)
theorem kb_YX7_fault : KBp YX7_fault 0 := ⟨(inT 725 (by decide +kernel) rfl), (inT 70 (by decide +kernel) rfl), ⟨by decide +kernel, by decide +kernel, by decide +kernel⟩, by decide +kernel⟩
def YX7_faultOf : PMth := (yX7_faultOf, cX7_faultOf, 5, some .int)
theorem kb_YX7_faultOf : KBp YX7_faultOf 0 := ⟨(inT 729 (by decide +kernel) rfl), (inT 70 (by decide +kernel) rfl), ⟨by decide +kernel, by decide +kernel, by decide +kernel⟩, by decide +kernel⟩
def YX7_isLetter : PMth := (yX7_isLetter, cX7_isLetter, 1, some .boolean)
theorem kb_YX7_isLetter : KBp YX7_isLetter 1 := ⟨(inT 732 (by decide +kernel) rfl), (inT 70 (by decide +kernel) rfl), ⟨by decide +kernel, by decide +kernel, by decide +kernel⟩, by decide +kernel⟩
def YX7_judge : PMth := (yX7_judge, cX7_judge, 3, some .int)
theorem kb_YX7_judge : KBp YX7_judge 1 := ⟨(inT 736 (by decide +kernel) rfl), (inT 70 (by decide +kernel) rfl), ⟨by decide +kernel, by decide +kernel, by decide +kernel⟩, by decide +kernel⟩
def YX7_goYears : PMth := (yX7_goYears, cX7_goYears, 4, some .int)
theorem kb_YX7_goYears : KBp YX7_goYears 0 := ⟨(inT 740 (by decide +kernel) rfl), (inT 70 (by decide +kernel) rfl), ⟨by decide +kernel, by decide +kernel, by decide +kernel⟩, by decide +kernel⟩
def YX7_asNow : PMth := (yX7_asNow, cX7_asNow, 2, none)
theorem kb_YX7_asNow : KBp YX7_asNow 0 := ⟨(inT 744 (by decide +kernel) rfl), (inT 70 (by decide +kernel) rfl), ⟨by decide +kernel, by decide +kernel, by decide +kernel⟩, by decide +kernel⟩
def YX7_endYear : PMth := (yX7_endYear, cX7_endYear, 1, some .int)
theorem kb_YX7_endYear : KBp YX7_endYear 0 := ⟨(inT 748 (by decide +kernel) rfl), (inT 70 (by decide +kernel) rfl), ⟨by decide +kernel, by decide +kernel, by decide +kernel⟩, by decide +kernel⟩
def YX7_dies : PMth := (yX7_dies, cX7_dies, 6, some .int)
theorem kb_YX7_dies : KBp YX7_dies 2 := ⟨(inT 752 (by decide +kernel) rfl), (inT 70 (by decide +kernel) rfl), ⟨by decide +kernel, by decide +kernel, by decide +kernel⟩, by decide +kernel⟩
def YX7_has : PMth := (yX7_has, cX7_has, 2, some .boolean)
theorem kb_YX7_has : KBp YX7_has 2 := ⟨(inT 755 (by decide +kernel) rfl), (inT 70 (by decide +kernel) rfl), ⟨by decide +kernel, by decide +kernel, by decide +kernel⟩, by decide +kernel⟩
def YX7_lends : PMth := (yX7_lends, cX7_lends, 5, some .int)
theorem kb_YX7_lends : KBp YX7_lends 3 := ⟨(inT 759 (by decide +kernel) rfl), (inT 70 (by decide +kernel) rfl), ⟨by decide +kernel, by decide +kernel, by decide +kernel⟩, by decide +kernel⟩
def YX7_gets : PMth := (yX7_gets, cX7_gets, 3, none)
theorem kb_YX7_gets : KBp YX7_gets 2 := ⟨(inT 763 (by decide +kernel) rfl), (inT 70 (by decide +kernel) rfl), ⟨by decide +kernel, by decide +kernel, by decide +kernel⟩, by decide +kernel⟩
def YX7_tries : PMth := (yX7_tries, cX7_tries, 3, some .int)
theorem kb_YX7_tries : KBp YX7_tries 2 := ⟨(inT 767 (by decide +kernel) rfl), (inT 70 (by decide +kernel) rfl), ⟨by decide +kernel, by decide +kernel, by decide +kernel⟩, by decide +kernel⟩
def YX7_doesOpen : PMth := (yX7_doesOpen, cX7_doesOpen, 3, some .boolean)
theorem kb_YX7_doesOpen : KBp YX7_doesOpen 2 := ⟨(inT 771 (by decide +kernel) rfl), (inT 70 (by decide +kernel) rfl), ⟨by decide +kernel, by decide +kernel, by decide +kernel⟩, by decide +kernel⟩
def YX7_done : PMth := (yX7_done, cX7_done, 2, some .int)
theorem kb_YX7_done : KBp YX7_done 0 := ⟨(inT 775 (by decide +kernel) rfl), (inT 70 (by decide +kernel) rfl), ⟨by decide +kernel, by decide +kernel, by decide +kernel⟩, by decide +kernel⟩
def YX7_barOfYears : PMth := (yX7_barOfYears, cX7_barOfYears, 1, some .int)
theorem kb_YX7_barOfYears : KBp YX7_barOfYears 0 := ⟨(inT 779 (by decide +kernel) rfl), (inT 70 (by decide +kernel) rfl), ⟨by decide +kernel, by decide +kernel, by decide +kernel⟩, by decide +kernel⟩
def YX7_behind : PMth := (yX7_behind, cX7_behind, 3, some .int)
theorem kb_YX7_behind : KBp YX7_behind 2 := ⟨(inT 783 (by decide +kernel) rfl), (inT 70 (by decide +kernel) rfl), ⟨by decide +kernel, by decide +kernel, by decide +kernel⟩, by decide +kernel⟩
def YX7_then : PMth := (yX7_then, cX7_then, 2, some .int)
theorem kb_YX7_then : KBp YX7_then 1 := ⟨(inT 787 (by decide +kernel) rfl), (inT 70 (by decide +kernel) rfl), ⟨by decide +kernel, by decide +kernel, by decide +kernel⟩, by decide +kernel⟩
def YX7_opens : PMth := (yX7_opens, cX7_opens, 2, some .int)
theorem kb_YX7_opens : KBp YX7_opens 1 := ⟨(inT 791 (by decide +kernel) rfl), (inT 70 (by decide +kernel) rfl), ⟨by decide +kernel, by decide +kernel, by decide +kernel⟩, by decide +kernel⟩
def YX7_openSet : PMth := (yX7_openSet, cX7_openSet, 4, some .int)
theorem kb_YX7_openSet : KBp YX7_openSet 1 := ⟨(inT 795 (by decide +kernel) rfl), (inT 70 (by decide +kernel) rfl), ⟨by decide +kernel, by decide +kernel, by decide +kernel⟩, by decide +kernel⟩
def YX7_lives : PMth := (yX7_lives, cX7_lives, 2, some .boolean)
theorem kb_YX7_lives : KBp YX7_lives 1 := ⟨(inT 799 (by decide +kernel) rfl), (inT 70 (by decide +kernel) rfl), ⟨by decide +kernel, by decide +kernel, by decide +kernel⟩, by decide +kernel⟩
def YX7_two : PMth := (yX7_two, cX7_two, 3, some .int)
theorem kb_YX7_two : KBp YX7_two 0 := ⟨(inT 803 (by decide +kernel) rfl), (inT 70 (by decide +kernel) rfl), ⟨by decide +kernel, by decide +kernel, by decide +kernel⟩, by decide +kernel⟩
def YX7_chain : PMth := (yX7_chain, cX7_chain, 6, some .int)
theorem kb_YX7_chain : KBp YX7_chain 2 := ⟨(inT 807 (by decide +kernel) rfl), (inT 70 (by decide +kernel) rfl), ⟨by decide +kernel, by decide +kernel, by decide +kernel⟩, by decide +kernel⟩
def YX7_owes : PMth := (yX7_owes, cX7_owes, 3, some .int)
theorem kb_YX7_owes : KBp YX7_owes 2 := ⟨(inT 811 (by decide +kernel) rfl), (inT 70 (by decide +kernel) rfl), ⟨by decide +kernel, by decide +kernel, by decide +kernel⟩, by decide +kernel⟩
def YX7_netted : PMth := (yX7_netted, cX7_netted, 4, some .int)
theorem kb_YX7_netted : KBp YX7_netted 1 := ⟨(inT 815 (by decide +kernel) rfl), (inT 70 (by decide +kernel) rfl), ⟨by decide +kernel, by decide +kernel, by decide +kernel⟩, by decide +kernel⟩
def YX7_rings : PMth := (yX7_rings, cX7_rings, 8, some .int)
theorem kb_YX7_rings : KBp YX7_rings 0 := ⟨(inT 819 (by decide +kernel) rfl), (inT 70 (by decide +kernel) rfl), ⟨by decide +kernel, by decide +kernel, by decide +kernel⟩, by decide +kernel⟩
def YX7_note : PMth := (yX7_note, cX7_note, 7, some .int)
theorem kb_YX7_note : KBp YX7_note 2 := ⟨(inT 823 (by decide +kernel) rfl), (inT 70 (by decide +kernel) rfl), ⟨by decide +kernel, by decide +kernel, by decide +kernel⟩, by decide +kernel⟩
def YX7_only : PMth := (yX7_only, cX7_only, 6, some .int)
theorem kb_YX7_only : KBp YX7_only 2 := ⟨(inT 827 (by decide +kernel) rfl), (inT 70 (by decide +kernel) rfl), ⟨by decide +kernel, by decide +kernel, by decide +kernel⟩, by decide +kernel⟩
def YX7_share : PMth := (yX7_share, cX7_share, 9, some .int)
theorem kb_YX7_share : KBp YX7_share 2 := ⟨(inT 831 (by decide +kernel) rfl), (inT 70 (by decide +kernel) rfl), ⟨by decide +kernel, by decide +kernel, by decide +kernel⟩, by decide +kernel⟩
def YX7_feels : PMth := (yX7_feels, cX7_feels, 3, some .int)
theorem kb_YX7_feels : KBp YX7_feels 2 := ⟨(inT 835 (by decide +kernel) rfl), (inT 70 (by decide +kernel) rfl), ⟨by decide +kernel, by decide +kernel, by decide +kernel⟩, by decide +kernel⟩
def YX7_match : PMth := (yX7_match, cX7_match, 7, some .int)
theorem kb_YX7_match : KBp YX7_match 1 := ⟨(inT 839 (by decide +kernel) rfl), (inT 70 (by decide +kernel) rfl), ⟨by decide +kernel, by decide +kernel, by decide +kernel⟩, by decide +kernel⟩
def YX7_layMatch : PMth := (yX7_layMatch, cX7_layMatch, 6, none)
theorem kb_YX7_layMatch : KBp YX7_layMatch 0 := ⟨(inT 843 (by decide +kernel) rfl), (inT 70 (by decide +kernel) rfl), ⟨by decide +kernel, by decide +kernel, by decide +kernel⟩, by decide +kernel⟩
def YX7_seen : PMth := (yX7_seen, cX7_seen, 3, some .int)
theorem kb_YX7_seen : KBp YX7_seen 2 := ⟨(inT 847 (by decide +kernel) rfl), (inT 70 (by decide +kernel) rfl), ⟨by decide +kernel, by decide +kernel, by decide +kernel⟩, by decide +kernel⟩
def YX7_forget : PMth := (yX7_forget, cX7_forget, 2, some .int)
theorem kb_YX7_forget : KBp YX7_forget 0 := ⟨(inT 851 (by decide +kernel) rfl), (inT 70 (by decide +kernel) rfl), ⟨by decide +kernel, by decide +kernel, by decide +kernel⟩, by decide +kernel⟩
def YX7_laws : PMth := (yX7_laws, cX7_laws, 5, some .int)
theorem kb_YX7_laws : KBp YX7_laws 1 := ⟨(inT 855 (by decide +kernel) rfl), (inT 70 (by decide +kernel) rfl), ⟨by decide +kernel, by decide +kernel, by decide +kernel⟩, by decide +kernel⟩
def YX7_isLaw : PMth := (yX7_isLaw, cX7_isLaw, 5, some .boolean)
theorem kb_YX7_isLaw : KBp YX7_isLaw 2 := ⟨(inT 859 (by decide +kernel) rfl), (inT 70 (by decide +kernel) rfl), ⟨by decide +kernel, by decide +kernel, by decide +kernel⟩, by decide +kernel⟩
def YX7_next : PMth := (yX7_next, cX7_next, 7, some .int)
theorem kb_YX7_next : KBp YX7_next 1 := ⟨(inT 863 (by decide +kernel) rfl), (inT 70 (by decide +kernel) rfl), ⟨by decide +kernel, by decide +kernel, by decide +kernel⟩, by decide +kernel⟩
def YX7_chance : PMth := (yX7_chance, cX7_chance, 23, some .long)
theorem kb_YX7_chance : KBp YX7_chance 5 := ⟨(inT 868 (by decide +kernel) rfl), (inT 70 (by decide +kernel) rfl), ⟨by decide +kernel, by decide +kernel, by decide +kernel⟩, by decide +kernel⟩
def YX7_power : PMth := (yX7_power, cX7_power, 6, some .long)
theorem kb_YX7_power : KBp YX7_power 2 := ⟨(inT 873 (by decide +kernel) rfl), (inT 70 (by decide +kernel) rfl), ⟨by decide +kernel, by decide +kernel, by decide +kernel⟩, by decide +kernel⟩
def YX7_book : PMth := (yX7_book, cX7_book, 9, some .int)
theorem kb_YX7_book : KBp YX7_book 3 := ⟨(inT 878 (by decide +kernel) rfl), (inT 70 (by decide +kernel) rfl), ⟨by decide +kernel, by decide +kernel, by decide +kernel⟩, by decide +kernel⟩
def YX7_image : PMth := (yX7_image, cX7_image, 4, some .int)
theorem kb_YX7_image : KBp YX7_image 1 := ⟨(inT 883 (by decide +kernel) rfl), (inT 70 (by decide +kernel) rfl), ⟨by decide +kernel, by decide +kernel, by decide +kernel⟩, by decide +kernel⟩
def YX7_restore : PMth := (yX7_restore, cX7_restore, 4, some .int)
theorem kb_YX7_restore : KBp YX7_restore 1 := ⟨(inT 887 (by decide +kernel) rfl), (inT 70 (by decide +kernel) rfl), ⟨by decide +kernel, by decide +kernel, by decide +kernel⟩, by decide +kernel⟩
def YX7_told : PMth := (yX7_told, cX7_told, 4, some .int)
theorem kb_YX7_told : KBp YX7_told 1 := ⟨(inT 891 (by decide +kernel) rfl), (inT 70 (by decide +kernel) rfl), ⟨by decide +kernel, by decide +kernel, by decide +kernel⟩, by decide +kernel⟩
theorem k_L_9 : KIp RL 9 YX6_init 0 := ⟨kb_YX6_init, Or.inl (inT 76 (by decide +kernel) rfl), (inT 77 (by decide +kernel) rfl), rfl, rfl⟩
theorem k_X6_9 : KIp RX6 9 YX5_init 0 := ⟨kb_YX5_init, Or.inr ⟨RX6, (inN 84 (by decide +kernel) rfl)⟩, (inT 85 (by decide +kernel) rfl), rfl, rfl⟩
theorem f_X5_9 : FLp RX5 9 5 0 false .int := ⟨RX5, TX5, 12, tyX5, rfl, by decide, rfl, iX5, Or.inl (inT 88 (by decide +kernel) rfl), tyX5_ok, nmX5, rfl, by decide +kernel⟩
theorem f_X6_60 : FLp RX6 60 5 0 false .int := ⟨RX5, TX5, 12, tyX5, rfl, by decide, rfl, iX5, Or.inr ⟨RX6, (inN 89 (by decide +kernel) rfl)⟩, tyX5_ok, nmX5, rfl, by decide +kernel⟩
theorem f_X5_15 : FLp RX5 15 5 1 false .int := ⟨RX5, TX5, 12, tyX5, rfl, by decide, rfl, iX5, Or.inl (inT 90 (by decide +kernel) rfl), tyX5_ok, nmX5, rfl, by decide +kernel⟩
theorem f_X6_129 : FLp RX6 129 5 1 false .int := ⟨RX5, TX5, 12, tyX5, rfl, by decide, rfl, iX5, Or.inr ⟨RX6, (inN 91 (by decide +kernel) rfl)⟩, tyX5_ok, nmX5, rfl, by decide +kernel⟩
theorem f_X5_18 : FLp RX5 18 5 2 false .int := ⟨RX5, TX5, 12, tyX5, rfl, by decide, rfl, iX5, Or.inl (inT 92 (by decide +kernel) rfl), tyX5_ok, nmX5, rfl, by decide +kernel⟩
theorem f_X1_19 : FLp RX1 19 5 2 false .int := ⟨RX5, TX5, 12, tyX5, rfl, by decide, rfl, iX5, Or.inr ⟨RX6, (inN 93 (by decide +kernel) rfl)⟩, tyX5_ok, nmX5, rfl, by decide +kernel⟩
theorem f_X6_183 : FLp RX6 183 5 2 false .int := ⟨RX5, TX5, 12, tyX5, rfl, by decide, rfl, iX5, Or.inr ⟨RX6, (inN 94 (by decide +kernel) rfl)⟩, tyX5_ok, nmX5, rfl, by decide +kernel⟩
theorem f_X5_21 : FLp RX5 21 5 3 false .int := ⟨RX5, TX5, 12, tyX5, rfl, by decide, rfl, iX5, Or.inl (inT 95 (by decide +kernel) rfl), tyX5_ok, nmX5, rfl, by decide +kernel⟩
theorem f_X1_24 : FLp RX1 24 5 3 false .int := ⟨RX5, TX5, 12, tyX5, rfl, by decide, rfl, iX5, Or.inr ⟨RX6, (inN 96 (by decide +kernel) rfl)⟩, tyX5_ok, nmX5, rfl, by decide +kernel⟩
theorem f_X6_186 : FLp RX6 186 5 3 false .int := ⟨RX5, TX5, 12, tyX5, rfl, by decide, rfl, iX5, Or.inr ⟨RX6, (inN 97 (by decide +kernel) rfl)⟩, tyX5_ok, nmX5, rfl, by decide +kernel⟩
theorem f_X5_24 : FLp RX5 24 5 4 true (.array .int) := ⟨RX5, TX5, 12, tyX5, rfl, by decide, rfl, iX5, Or.inl (inT 98 (by decide +kernel) rfl), tyX5_ok, nmX5, rfl, by decide +kernel⟩
theorem f_X1_64 : FLp RX1 64 5 4 true (.array .int) := ⟨RX5, TX5, 12, tyX5, rfl, by decide, rfl, iX5, Or.inr ⟨RX6, (inN 99 (by decide +kernel) rfl)⟩, tyX5_ok, nmX5, rfl, by decide +kernel⟩
theorem f_X6_120 : FLp RX6 120 5 4 true (.array .int) := ⟨RX5, TX5, 12, tyX5, rfl, by decide, rfl, iX5, Or.inr ⟨RX6, (inN 100 (by decide +kernel) rfl)⟩, tyX5_ok, nmX5, rfl, by decide +kernel⟩
theorem f_X5_28 : FLp RX5 28 5 5 true (.array .int) := ⟨RX5, TX5, 12, tyX5, rfl, by decide, rfl, iX5, Or.inl (inT 101 (by decide +kernel) rfl), tyX5_ok, nmX5, rfl, by decide +kernel⟩
theorem f_X6_123 : FLp RX6 123 5 5 true (.array .int) := ⟨RX5, TX5, 12, tyX5, rfl, by decide, rfl, iX5, Or.inr ⟨RX6, (inN 102 (by decide +kernel) rfl)⟩, tyX5_ok, nmX5, rfl, by decide +kernel⟩
theorem f_X5_31 : FLp RX5 31 5 6 true (.array .int) := ⟨RX5, TX5, 12, tyX5, rfl, by decide, rfl, iX5, Or.inl (inT 103 (by decide +kernel) rfl), tyX5_ok, nmX5, rfl, by decide +kernel⟩
theorem f_X6_126 : FLp RX6 126 5 6 true (.array .int) := ⟨RX5, TX5, 12, tyX5, rfl, by decide, rfl, iX5, Or.inr ⟨RX6, (inN 104 (by decide +kernel) rfl)⟩, tyX5_ok, nmX5, rfl, by decide +kernel⟩
theorem f_X5_34 : FLp RX5 34 5 7 true (.array .int) := ⟨RX5, TX5, 12, tyX5, rfl, by decide, rfl, iX5, Or.inl (inT 105 (by decide +kernel) rfl), tyX5_ok, nmX5, rfl, by decide +kernel⟩
theorem f_X6_145 : FLp RX6 145 5 7 true (.array .int) := ⟨RX5, TX5, 12, tyX5, rfl, by decide, rfl, iX5, Or.inr ⟨RX6, (inN 106 (by decide +kernel) rfl)⟩, tyX5_ok, nmX5, rfl, by decide +kernel⟩
theorem f_X5_37 : FLp RX5 37 5 8 true (.array .int) := ⟨RX5, TX5, 12, tyX5, rfl, by decide, rfl, iX5, Or.inl (inT 107 (by decide +kernel) rfl), tyX5_ok, nmX5, rfl, by decide +kernel⟩
theorem f_X6_77 : FLp RX6 77 5 8 true (.array .int) := ⟨RX5, TX5, 12, tyX5, rfl, by decide, rfl, iX5, Or.inr ⟨RX6, (inN 108 (by decide +kernel) rfl)⟩, tyX5_ok, nmX5, rfl, by decide +kernel⟩
theorem f_X5_40 : FLp RX5 40 5 9 true (.array .int) := ⟨RX5, TX5, 12, tyX5, rfl, by decide, rfl, iX5, Or.inl (inT 109 (by decide +kernel) rfl), tyX5_ok, nmX5, rfl, by decide +kernel⟩
theorem f_X6_80 : FLp RX6 80 5 9 true (.array .int) := ⟨RX5, TX5, 12, tyX5, rfl, by decide, rfl, iX5, Or.inr ⟨RX6, (inN 110 (by decide +kernel) rfl)⟩, tyX5_ok, nmX5, rfl, by decide +kernel⟩
theorem f_X5_43 : FLp RX5 43 5 10 true (.array .int) := ⟨RX5, TX5, 12, tyX5, rfl, by decide, rfl, iX5, Or.inl (inT 111 (by decide +kernel) rfl), tyX5_ok, nmX5, rfl, by decide +kernel⟩
theorem f_X6_73 : FLp RX6 73 5 10 true (.array .int) := ⟨RX5, TX5, 12, tyX5, rfl, by decide, rfl, iX5, Or.inr ⟨RX6, (inN 112 (by decide +kernel) rfl)⟩, tyX5_ok, nmX5, rfl, by decide +kernel⟩
theorem f_X2_41 : FLp RX2 41 5 10 true (.array .int) := ⟨RX5, TX5, 12, tyX5, rfl, by decide, rfl, iX5, Or.inr ⟨RX6, (inN 113 (by decide +kernel) rfl)⟩, tyX5_ok, nmX5, rfl, by decide +kernel⟩
theorem f_X5_46 : FLp RX5 46 5 11 true (.array .int) := ⟨RX5, TX5, 12, tyX5, rfl, by decide, rfl, iX5, Or.inl (inT 114 (by decide +kernel) rfl), tyX5_ok, nmX5, rfl, by decide +kernel⟩
theorem f_X1_31 : FLp RX1 31 5 11 true (.array .int) := ⟨RX5, TX5, 12, tyX5, rfl, by decide, rfl, iX5, Or.inr ⟨RX6, (inN 115 (by decide +kernel) rfl)⟩, tyX5_ok, nmX5, rfl, by decide +kernel⟩
theorem k_X6_22 : KIp RX6 22 YX3_init 0 := ⟨kb_YX3_init, Or.inr ⟨RX6, (inN 145 (by decide +kernel) rfl)⟩, (inT 146 (by decide +kernel) rfl), rfl, rfl⟩
theorem f_X3_9 : FLp RX3 9 3 0 true (.array .int) := ⟨RX3, TX3, 2, tyX3, rfl, by decide, rfl, iX3, Or.inl (inT 149 (by decide +kernel) rfl), tyX3_ok, nmX3, rfl, by decide +kernel⟩
theorem f_X3_15 : FLp RX3 15 3 1 false .int := ⟨RX3, TX3, 2, tyX3, rfl, by decide, rfl, iX3, Or.inl (inT 150 (by decide +kernel) rfl), tyX3_ok, nmX3, rfl, by decide +kernel⟩
theorem f_X4_45 : FLp RX4 45 3 1 false .int := ⟨RX3, TX3, 2, tyX3, rfl, by decide, rfl, iX3, Or.inr ⟨RX6, (inN 151 (by decide +kernel) rfl)⟩, tyX3_ok, nmX3, rfl, by decide +kernel⟩
theorem f_X6_86 : FLp RX6 86 3 1 false .int := ⟨RX3, TX3, 2, tyX3, rfl, by decide, rfl, iX3, Or.inr ⟨RX6, (inN 152 (by decide +kernel) rfl)⟩, tyX3_ok, nmX3, rfl, by decide +kernel⟩
theorem k_X6_29 : KIp RX6 29 YX4_init 0 := ⟨kb_YX4_init, Or.inr ⟨RX6, (inN 160 (by decide +kernel) rfl)⟩, (inT 161 (by decide +kernel) rfl), rfl, rfl⟩
theorem k_X4_11 : KIp RX4 11 YX5_init 0 := ⟨kb_YX5_init, Or.inr ⟨RX6, (inN 165 (by decide +kernel) rfl)⟩, (inT 85 (by decide +kernel) rfl), rfl, rfl⟩
theorem k_X4_20 : KIp RX4 20 YX0_init 0 := ⟨kb_YX0_init, Or.inr ⟨RX6, (inN 168 (by decide +kernel) rfl)⟩, (inT 169 (by decide +kernel) rfl), rfl, rfl⟩
theorem f_X0_11 : FLp RX0 11 0 0 false .int := ⟨RX0, TX0, 4, tyX0, rfl, by decide, rfl, iX0, Or.inl (inT 172 (by decide +kernel) rfl), tyX0_ok, nmX0, rfl, by decide +kernel⟩
theorem f_X4_65 : FLp RX4 65 0 0 false .int := ⟨RX0, TX0, 4, tyX0, rfl, by decide, rfl, iX0, Or.inr ⟨RX6, (inN 173 (by decide +kernel) rfl)⟩, tyX0_ok, nmX0, rfl, by decide +kernel⟩
theorem f_X5_85 : FLp RX5 85 0 0 false .int := ⟨RX0, TX0, 4, tyX0, rfl, by decide, rfl, iX0, Or.inr ⟨RX6, (inN 174 (by decide +kernel) rfl)⟩, tyX0_ok, nmX0, rfl, by decide +kernel⟩
theorem f_X0_15 : FLp RX0 15 0 1 false .int := ⟨RX0, TX0, 4, tyX0, rfl, by decide, rfl, iX0, Or.inl (inT 175 (by decide +kernel) rfl), tyX0_ok, nmX0, rfl, by decide +kernel⟩
theorem f_X4_71 : FLp RX4 71 0 1 false .int := ⟨RX0, TX0, 4, tyX0, rfl, by decide, rfl, iX0, Or.inr ⟨RX6, (inN 176 (by decide +kernel) rfl)⟩, tyX0_ok, nmX0, rfl, by decide +kernel⟩
theorem f_X5_90 : FLp RX5 90 0 1 false .int := ⟨RX0, TX0, 4, tyX0, rfl, by decide, rfl, iX0, Or.inr ⟨RX6, (inN 177 (by decide +kernel) rfl)⟩, tyX0_ok, nmX0, rfl, by decide +kernel⟩
theorem f_X0_18 : FLp RX0 18 0 2 false .int := ⟨RX0, TX0, 4, tyX0, rfl, by decide, rfl, iX0, Or.inl (inT 178 (by decide +kernel) rfl), tyX0_ok, nmX0, rfl, by decide +kernel⟩
theorem f_X4_68 : FLp RX4 68 0 2 false .int := ⟨RX0, TX0, 4, tyX0, rfl, by decide, rfl, iX0, Or.inr ⟨RX6, (inN 179 (by decide +kernel) rfl)⟩, tyX0_ok, nmX0, rfl, by decide +kernel⟩
theorem f_X5_93 : FLp RX5 93 0 2 false .int := ⟨RX0, TX0, 4, tyX0, rfl, by decide, rfl, iX0, Or.inr ⟨RX6, (inN 180 (by decide +kernel) rfl)⟩, tyX0_ok, nmX0, rfl, by decide +kernel⟩
theorem f_X0_21 : FLp RX0 21 0 3 false .int := ⟨RX0, TX0, 4, tyX0, rfl, by decide, rfl, iX0, Or.inl (inT 181 (by decide +kernel) rfl), tyX0_ok, nmX0, rfl, by decide +kernel⟩
theorem f_X5_96 : FLp RX5 96 0 3 false .int := ⟨RX0, TX0, 4, tyX0, rfl, by decide, rfl, iX0, Or.inr ⟨RX6, (inN 182 (by decide +kernel) rfl)⟩, tyX0_ok, nmX0, rfl, by decide +kernel⟩
theorem f_X4_12 : FLp RX4 12 4 0 true (.object "NextLife$World") := ⟨RX4, TX4, 7, tyX4, rfl, by decide, rfl, iX4, Or.inl (inT 192 (by decide +kernel) rfl), tyX4_ok, nmX4, rfl, by decide +kernel⟩
theorem f_X6_107 : FLp RX6 107 4 0 true (.object "NextLife$World") := ⟨RX4, TX4, 7, tyX4, rfl, by decide, rfl, iX4, Or.inr ⟨RX6, (inN 193 (by decide +kernel) rfl)⟩, tyX4_ok, nmX4, rfl, by decide +kernel⟩
theorem f_X4_21 : FLp RX4 21 4 1 true (.object "NextLife$Act") := ⟨RX4, TX4, 7, tyX4, rfl, by decide, rfl, iX4, Or.inl (inT 194 (by decide +kernel) rfl), tyX4_ok, nmX4, rfl, by decide +kernel⟩
theorem f_X4_25 : FLp RX4 25 4 2 false .int := ⟨RX4, TX4, 7, tyX4, rfl, by decide, rfl, iX4, Or.inl (inT 195 (by decide +kernel) rfl), tyX4_ok, nmX4, rfl, by decide +kernel⟩
theorem f_X6_114 : FLp RX6 114 4 2 false .int := ⟨RX4, TX4, 7, tyX4, rfl, by decide, rfl, iX4, Or.inr ⟨RX6, (inN 196 (by decide +kernel) rfl)⟩, tyX4_ok, nmX4, rfl, by decide +kernel⟩
theorem f_X4_29 : FLp RX4 29 4 3 false .int := ⟨RX4, TX4, 7, tyX4, rfl, by decide, rfl, iX4, Or.inl (inT 197 (by decide +kernel) rfl), tyX4_ok, nmX4, rfl, by decide +kernel⟩
theorem f_X6_97 : FLp RX6 97 4 3 false .int := ⟨RX4, TX4, 7, tyX4, rfl, by decide, rfl, iX4, Or.inr ⟨RX6, (inN 198 (by decide +kernel) rfl)⟩, tyX4_ok, nmX4, rfl, by decide +kernel⟩
theorem f_X4_32 : FLp RX4 32 4 4 false .int := ⟨RX4, TX4, 7, tyX4, rfl, by decide, rfl, iX4, Or.inl (inT 199 (by decide +kernel) rfl), tyX4_ok, nmX4, rfl, by decide +kernel⟩
theorem f_X6_100 : FLp RX6 100 4 4 false .int := ⟨RX4, TX4, 7, tyX4, rfl, by decide, rfl, iX4, Or.inr ⟨RX6, (inN 200 (by decide +kernel) rfl)⟩, tyX4_ok, nmX4, rfl, by decide +kernel⟩
theorem f_X4_35 : FLp RX4 35 4 5 false .int := ⟨RX4, TX4, 7, tyX4, rfl, by decide, rfl, iX4, Or.inl (inT 201 (by decide +kernel) rfl), tyX4_ok, nmX4, rfl, by decide +kernel⟩
theorem f_X6_132 : FLp RX6 132 4 5 false .int := ⟨RX4, TX4, 7, tyX4, rfl, by decide, rfl, iX4, Or.inr ⟨RX6, (inN 202 (by decide +kernel) rfl)⟩, tyX4_ok, nmX4, rfl, by decide +kernel⟩
theorem f_X4_38 : FLp RX4 38 4 6 false .int := ⟨RX4, TX4, 7, tyX4, rfl, by decide, rfl, iX4, Or.inl (inT 203 (by decide +kernel) rfl), tyX4_ok, nmX4, rfl, by decide +kernel⟩
theorem f_X6_135 : FLp RX6 135 4 6 false .int := ⟨RX4, TX4, 7, tyX4, rfl, by decide, rfl, iX4, Or.inr ⟨RX6, (inN 204 (by decide +kernel) rfl)⟩, tyX4_ok, nmX4, rfl, by decide +kernel⟩
theorem k_X6_36 : KIp RX6 36 YX2_init 0 := ⟨kb_YX2_init, Or.inr ⟨RX6, (inN 222 (by decide +kernel) rfl)⟩, (inT 223 (by decide +kernel) rfl), rfl, rfl⟩
theorem f_X2_11 : FLp RX2 11 2 0 true (.array .int) := ⟨RX2, TX2, 1, tyX2, rfl, by decide, rfl, iX2, Or.inl (inT 226 (by decide +kernel) rfl), tyX2_ok, nmX2, rfl, by decide +kernel⟩
theorem k_X6_43 : KIp RX6 43 YX1_init 0 := ⟨kb_YX1_init, Or.inr ⟨RX6, (inN 232 (by decide +kernel) rfl)⟩, (inT 233 (by decide +kernel) rfl), rfl, rfl⟩
theorem f_X1_9 : FLp RX1 9 1 0 true (.array .int) := ⟨RX1, TX1, 2, tyX1, rfl, by decide, rfl, iX1, Or.inl (inT 236 (by decide +kernel) rfl), tyX1_ok, nmX1, rfl, by decide +kernel⟩
theorem f_X1_15 : FLp RX1 15 1 1 false .int := ⟨RX1, TX1, 2, tyX1, rfl, by decide, rfl, iX1, Or.inl (inT 237 (by decide +kernel) rfl), tyX1_ok, nmX1, rfl, by decide +kernel⟩
theorem f_X6_10 : FLp RX6 10 6 0 true (.object "NextLife$World") := ⟨RX6, TX6, 6, tyX6, rfl, by decide, rfl, iX6, Or.inl (inT 243 (by decide +kernel) rfl), tyX6_ok, nmX6, rfl, by decide +kernel⟩
theorem f_X6_16 : FLp RX6 16 6 1 true (.array (.object "NextLife$World")) := ⟨RX6, TX6, 6, tyX6, rfl, by decide, rfl, iX6, Or.inl (inT 244 (by decide +kernel) rfl), tyX6_ok, nmX6, rfl, by decide +kernel⟩
theorem f_X6_23 : FLp RX6 23 6 2 true (.object "NextLife$Pad") := ⟨RX6, TX6, 6, tyX6, rfl, by decide, rfl, iX6, Or.inl (inT 245 (by decide +kernel) rfl), tyX6_ok, nmX6, rfl, by decide +kernel⟩
theorem f_X6_30 : FLp RX6 30 6 3 true (.object "NextLife$Trial") := ⟨RX6, TX6, 6, tyX6, rfl, by decide, rfl, iX6, Or.inl (inT 246 (by decide +kernel) rfl), tyX6_ok, nmX6, rfl, by decide +kernel⟩
theorem f_X6_37 : FLp RX6 37 6 4 true (.object "NextLife$Matching") := ⟨RX6, TX6, 6, tyX6, rfl, by decide, rfl, iX6, Or.inl (inT 247 (by decide +kernel) rfl), tyX6_ok, nmX6, rfl, by decide +kernel⟩
theorem f_X6_44 : FLp RX6 44 6 5 true (.object "NextLife$Lawbook") := ⟨RX6, TX6, 6, tyX6, rfl, by decide, rfl, iX6, Or.inl (inT 248 (by decide +kernel) rfl), tyX6_ok, nmX6, rfl, by decide +kernel⟩
theorem k_L_13 : KVp RL 13 YX6_birth 3 := ⟨kb_YX6_birth, Or.inl (inT 262 (by decide +kernel) rfl), (inT 263 (by decide +kernel) rfl), (inT 264 (by decide +kernel) rfl)⟩
theorem k_X6_48 : KSp RX6 48 YX6_isSoul 1 := ⟨kb_YX6_isSoul, Or.inl (inT 266 (by decide +kernel) rfl), (inT 267 (by decide +kernel) rfl)⟩
theorem k_X6_52 : KSp RX6 52 YX6_isWithin 3 := ⟨kb_YX6_isWithin, Or.inl (inT 269 (by decide +kernel) rfl), (inT 270 (by decide +kernel) rfl)⟩
theorem k_X6_56 : KVp RX6 56 YX5_bear 3 := ⟨kb_YX5_bear, Or.inr ⟨RX6, (inN 272 (by decide +kernel) rfl)⟩, (inT 274 (by decide +kernel) rfl), (inT 0 (by decide +kernel) rfl)⟩
theorem k_X5_63 : KSp RX5 63 YX5_debtPlace 2 := ⟨kb_YX5_debtPlace, Or.inl (inT 276 (by decide +kernel) rfl), (inT 277 (by decide +kernel) rfl)⟩
theorem k_X6_64 : KSp RX6 64 YJ6_bitCount_0f7a4 1 := ⟨kb_YJ6_bitCount_0f7a4, Or.inl (inT 279 (by decide +kernel) rfl), (inT 280 (by decide +kernel) rfl)⟩
theorem k_L_18 : KVp RL 18 YX6_box 4 := ⟨kb_YX6_box, Or.inl (inT 285 (by decide +kernel) rfl), (inT 286 (by decide +kernel) rfl), (inT 287 (by decide +kernel) rfl)⟩
theorem k_X6_70 : KSp RX6 70 YX6_isBox 1 := ⟨kb_YX6_isBox, Or.inl (inT 289 (by decide +kernel) rfl), (inT 290 (by decide +kernel) rfl)⟩
theorem k_L_23 : KVp RL 23 YX6_say 1 := ⟨kb_YX6_say, Or.inl (inT 292 (by decide +kernel) rfl), (inT 293 (by decide +kernel) rfl), (inT 294 (by decide +kernel) rfl)⟩
theorem k_X6_83 : KVp RX6 83 YX3_put 1 := ⟨kb_YX3_put, Or.inr ⟨RX6, (inN 296 (by decide +kernel) rfl)⟩, (inT 298 (by decide +kernel) rfl), (inT 1 (by decide +kernel) rfl)⟩
theorem k_L_28 : KVp RL 28 YX6_wipe 0 := ⟨kb_YX6_wipe, Or.inl (inT 300 (by decide +kernel) rfl), (inT 301 (by decide +kernel) rfl), (inT 302 (by decide +kernel) rfl)⟩
theorem k_L_33 : KVp RL 33 YX6_fault 0 := ⟨kb_YX6_fault, Or.inl (inT 304 (by decide +kernel) rfl), (inT 305 (by decide +kernel) rfl), (inT 306 (by decide +kernel) rfl)⟩
theorem k_X6_89 : KVp RX6 89 YX3_faultPlace 0 := ⟨kb_YX3_faultPlace, Or.inr ⟨RX6, (inN 308 (by decide +kernel) rfl)⟩, (inT 310 (by decide +kernel) rfl), (inT 2 (by decide +kernel) rfl)⟩
theorem k_X3_19 : KVp RX3 19 YX3_signAt 1 := ⟨kb_YX3_signAt, Or.inl (inT 312 (by decide +kernel) rfl), (inT 314 (by decide +kernel) rfl), (inT 3 (by decide +kernel) rfl)⟩
theorem k_X3_23 : KSp RX3 23 YX3_stepOver 2 := ⟨kb_YX3_stepOver, Or.inl (inT 316 (by decide +kernel) rfl), (inT 317 (by decide +kernel) rfl)⟩
theorem k_X3_27 : KSp RX3 27 YX6_isWithin 3 := ⟨kb_YX6_isWithin, Or.inr ⟨RX6, (inN 319 (by decide +kernel) rfl)⟩, (inT 270 (by decide +kernel) rfl)⟩
theorem k_L_37 : KVp RL 37 YX6_judge 1 := ⟨kb_YX6_judge, Or.inl (inT 320 (by decide +kernel) rfl), (inT 321 (by decide +kernel) rfl), (inT 322 (by decide +kernel) rfl)⟩
theorem k_X6_93 : KVp RX6 93 YX4_followPad 2 := ⟨kb_YX4_followPad, Or.inr ⟨RX6, (inN 324 (by decide +kernel) rfl)⟩, (inT 326 (by decide +kernel) rfl), (inT 4 (by decide +kernel) rfl)⟩
theorem k_X4_41 : KVp RX4 41 YX5_copyFrom 1 := ⟨kb_YX5_copyFrom, Or.inr ⟨RX6, (inN 328 (by decide +kernel) rfl)⟩, (inT 330 (by decide +kernel) rfl), (inT 5 (by decide +kernel) rfl)⟩
theorem k_X4_50 : KVp RX4 50 YX0_readFrom 2 := ⟨kb_YX0_readFrom, Or.inr ⟨RX6, (inN 335 (by decide +kernel) rfl)⟩, (inT 337 (by decide +kernel) rfl), (inT 6 (by decide +kernel) rfl)⟩
theorem k_X0_24 : KVp RX0 24 YX3_signAt 1 := ⟨kb_YX3_signAt, Or.inr ⟨RX6, (inN 339 (by decide +kernel) rfl)⟩, (inT 314 (by decide +kernel) rfl), (inT 3 (by decide +kernel) rfl)⟩
theorem k_X4_54 : KVp RX4 54 YX5_hindrance 1 := ⟨kb_YX5_hindrance, Or.inr ⟨RX6, (inN 340 (by decide +kernel) rfl)⟩, (inT 342 (by decide +kernel) rfl), (inT 7 (by decide +kernel) rfl)⟩
theorem k_X5_76 : KVp RX5 76 YX5_isLiving 1 := ⟨kb_YX5_isLiving, Or.inl (inT 344 (by decide +kernel) rfl), (inT 346 (by decide +kernel) rfl), (inT 8 (by decide +kernel) rfl)⟩
theorem k_X5_55 : KSp RX5 55 YX6_isSoul 1 := ⟨kb_YX6_isSoul, Or.inr ⟨RX6, (inN 348 (by decide +kernel) rfl)⟩, (inT 267 (by decide +kernel) rfl)⟩
theorem k_X5_59 : KSp RX5 59 YX6_hasBit 2 := ⟨kb_YX6_hasBit, Or.inr ⟨RX6, (inN 349 (by decide +kernel) rfl)⟩, (inT 350 (by decide +kernel) rfl)⟩
theorem k_X5_98 : KVp RX5 98 YX5_canLend 3 := ⟨kb_YX5_canLend, Or.inl (inT 352 (by decide +kernel) rfl), (inT 354 (by decide +kernel) rfl), (inT 9 (by decide +kernel) rfl)⟩
theorem k_X4_58 : KVp RX4 58 YX4_countTry 0 := ⟨kb_YX4_countTry, Or.inl (inT 356 (by decide +kernel) rfl), (inT 358 (by decide +kernel) rfl), (inT 10 (by decide +kernel) rfl)⟩
theorem k_X4_74 : KVp RX4 74 YX5_letsIn 2 := ⟨kb_YX5_letsIn, Or.inr ⟨RX6, (inN 360 (by decide +kernel) rfl)⟩, (inT 362 (by decide +kernel) rfl), (inT 11 (by decide +kernel) rfl)⟩
theorem k_X5_73 : KSp RX5 73 YX6_isBox 1 := ⟨kb_YX6_isBox, Or.inr ⟨RX6, (inN 364 (by decide +kernel) rfl)⟩, (inT 290 (by decide +kernel) rfl)⟩
theorem k_X5_79 : KVp RX5 79 YX5_felt 2 := ⟨kb_YX5_felt, Or.inl (inT 365 (by decide +kernel) rfl), (inT 367 (by decide +kernel) rfl), (inT 12 (by decide +kernel) rfl)⟩
theorem k_X5_67 : KSp RX5 67 YJ6_bitCount_0f7a4 1 := ⟨kb_YJ6_bitCount_0f7a4, Or.inl (inT 369 (by decide +kernel) rfl), (inT 280 (by decide +kernel) rfl)⟩
theorem k_X4_61 : KVp RX4 61 YX5_perform 1 := ⟨kb_YX5_perform, Or.inr ⟨RX6, (inN 370 (by decide +kernel) rfl)⟩, (inT 372 (by decide +kernel) rfl), (inT 13 (by decide +kernel) rfl)⟩
theorem k_X5_102 : KVp RX5 102 YX5_comeBack 2 := ⟨kb_YX5_comeBack, Or.inl (inT 374 (by decide +kernel) rfl), (inT 376 (by decide +kernel) rfl), (inT 14 (by decide +kernel) rfl)⟩
theorem k_X5_116 : KVp RX5 116 YX5_moveDebt 2 := ⟨kb_YX5_moveDebt, Or.inl (inT 378 (by decide +kernel) rfl), (inT 380 (by decide +kernel) rfl), (inT 15 (by decide +kernel) rfl)⟩
theorem k_X5_106 : KVp RX5 106 YX5_lend 3 := ⟨kb_YX5_lend, Or.inl (inT 382 (by decide +kernel) rfl), (inT 384 (by decide +kernel) rfl), (inT 16 (by decide +kernel) rfl)⟩
theorem k_X5_113 : KVp RX5 113 YX5_fillPurse 2 := ⟨kb_YX5_fillPurse, Or.inl (inT 386 (by decide +kernel) rfl), (inT 388 (by decide +kernel) rfl), (inT 17 (by decide +kernel) rfl)⟩
theorem m_X5_119 : Cond.methodLink RX5 119 Lib.Math.min.name ∈ pTb := inT 390 (by decide +kernel) rfl
theorem k_X5_110 : KVp RX5 110 YX5_tryBox 2 := ⟨kb_YX5_tryBox, Or.inl (inT 393 (by decide +kernel) rfl), (inT 395 (by decide +kernel) rfl), (inT 18 (by decide +kernel) rfl)⟩
theorem k_X5_82 : KVp RX5 82 YX5_letsIn 2 := ⟨kb_YX5_letsIn, Or.inl (inT 397 (by decide +kernel) rfl), (inT 362 (by decide +kernel) rfl), (inT 11 (by decide +kernel) rfl)⟩
theorem k_L_41 : KVp RL 41 YX6_done 0 := ⟨kb_YX6_done, Or.inl (inT 398 (by decide +kernel) rfl), (inT 399 (by decide +kernel) rfl), (inT 400 (by decide +kernel) rfl)⟩
theorem k_X6_103 : KVp RX6 103 YX6_yearsCanBe 0 := ⟨kb_YX6_yearsCanBe, Or.inl (inT 402 (by decide +kernel) rfl), (inT 404 (by decide +kernel) rfl), (inT 19 (by decide +kernel) rfl)⟩
theorem k_X6_110 : KVp RX6 110 YX5_copyFrom 1 := ⟨kb_YX5_copyFrom, Or.inr ⟨RX6, (inN 406 (by decide +kernel) rfl)⟩, (inT 330 (by decide +kernel) rfl), (inT 5 (by decide +kernel) rfl)⟩
theorem k_L_45 : KVp RL 45 YX6_behind 2 := ⟨kb_YX6_behind, Or.inl (inT 407 (by decide +kernel) rfl), (inT 408 (by decide +kernel) rfl), (inT 409 (by decide +kernel) rfl)⟩
theorem k_X6_117 : KVp RX6 117 YX5_isLiving 1 := ⟨kb_YX5_isLiving, Or.inr ⟨RX6, (inN 411 (by decide +kernel) rfl)⟩, (inT 346 (by decide +kernel) rfl), (inT 8 (by decide +kernel) rfl)⟩
theorem k_L_50 : KVp RL 50 YX6_then 1 := ⟨kb_YX6_then, Or.inl (inT 412 (by decide +kernel) rfl), (inT 413 (by decide +kernel) rfl), (inT 414 (by decide +kernel) rfl)⟩
theorem k_L_54 : KVp RL 54 YX6_opens 1 := ⟨kb_YX6_opens, Or.inl (inT 416 (by decide +kernel) rfl), (inT 417 (by decide +kernel) rfl), (inT 418 (by decide +kernel) rfl)⟩
theorem k_X6_138 : KVp RX6 138 YX5_soulsLetIn 1 := ⟨kb_YX5_soulsLetIn, Or.inr ⟨RX6, (inN 420 (by decide +kernel) rfl)⟩, (inT 422 (by decide +kernel) rfl), (inT 20 (by decide +kernel) rfl)⟩
theorem k_L_58 : KVp RL 58 YX6_two 0 := ⟨kb_YX6_two, Or.inl (inT 424 (by decide +kernel) rfl), (inT 425 (by decide +kernel) rfl), (inT 426 (by decide +kernel) rfl)⟩
theorem k_L_62 : KVp RL 62 YX6_chain 2 := ⟨kb_YX6_chain, Or.inl (inT 428 (by decide +kernel) rfl), (inT 429 (by decide +kernel) rfl), (inT 430 (by decide +kernel) rfl)⟩
theorem k_X6_141 : KSp RX6 141 YX6_hasBit 2 := ⟨kb_YX6_hasBit, Or.inl (inT 432 (by decide +kernel) rfl), (inT 350 (by decide +kernel) rfl)⟩
theorem k_L_66 : KVp RL 66 YX6_owes 2 := ⟨kb_YX6_owes, Or.inl (inT 433 (by decide +kernel) rfl), (inT 434 (by decide +kernel) rfl), (inT 435 (by decide +kernel) rfl)⟩
theorem k_X6_148 : KSp RX6 148 YX5_debtPlace 2 := ⟨kb_YX5_debtPlace, Or.inr ⟨RX6, (inN 437 (by decide +kernel) rfl)⟩, (inT 277 (by decide +kernel) rfl)⟩
theorem k_L_70 : KVp RL 70 YX6_netted 1 := ⟨kb_YX6_netted, Or.inl (inT 438 (by decide +kernel) rfl), (inT 439 (by decide +kernel) rfl), (inT 440 (by decide +kernel) rfl)⟩
theorem k_L_74 : KVp RL 74 YX6_rings 0 := ⟨kb_YX6_rings, Or.inl (inT 442 (by decide +kernel) rfl), (inT 443 (by decide +kernel) rfl), (inT 444 (by decide +kernel) rfl)⟩
theorem k_X6_152 : KVp RX6 152 YX5_creditorsBehind 1 := ⟨kb_YX5_creditorsBehind, Or.inr ⟨RX6, (inN 446 (by decide +kernel) rfl)⟩, (inT 448 (by decide +kernel) rfl), (inT 21 (by decide +kernel) rfl)⟩
theorem k_X5_124 : KVp RX5 124 YX5_creditorsOf 1 := ⟨kb_YX5_creditorsOf, Or.inl (inT 450 (by decide +kernel) rfl), (inT 452 (by decide +kernel) rfl), (inT 22 (by decide +kernel) rfl)⟩
theorem k_L_78 : KVp RL 78 YX6_note 2 := ⟨kb_YX6_note, Or.inl (inT 454 (by decide +kernel) rfl), (inT 455 (by decide +kernel) rfl), (inT 456 (by decide +kernel) rfl)⟩
theorem k_X6_155 : KVp RX6 155 YX5_shortestNote 1 := ⟨kb_YX5_shortestNote, Or.inr ⟨RX6, (inN 458 (by decide +kernel) rfl)⟩, (inT 460 (by decide +kernel) rfl), (inT 23 (by decide +kernel) rfl)⟩
theorem k_X5_127 : KVp RX5 127 YX5_anotherHas 2 := ⟨kb_YX5_anotherHas, Or.inl (inT 462 (by decide +kernel) rfl), (inT 464 (by decide +kernel) rfl), (inT 24 (by decide +kernel) rfl)⟩
theorem k_L_82 : KVp RL 82 YX6_only 2 := ⟨kb_YX6_only, Or.inl (inT 466 (by decide +kernel) rfl), (inT 467 (by decide +kernel) rfl), (inT 468 (by decide +kernel) rfl)⟩
theorem k_X6_158 : KVp RX6 158 YX5_felt 2 := ⟨kb_YX5_felt, Or.inr ⟨RX6, (inN 470 (by decide +kernel) rfl)⟩, (inT 367 (by decide +kernel) rfl), (inT 12 (by decide +kernel) rfl)⟩
theorem m_X6_161 : Cond.methodLink RX6 161 Lib.Math.max.name ∈ pTb := inT 471 (by decide +kernel) rfl
theorem k_L_86 : KVp RL 86 YX6_share 2 := ⟨kb_YX6_share, Or.inl (inT 474 (by decide +kernel) rfl), (inT 475 (by decide +kernel) rfl), (inT 476 (by decide +kernel) rfl)⟩
theorem k_X6_166 : KVp RX6 166 YX5_shareOf 2 := ⟨kb_YX5_shareOf, Or.inr ⟨RX6, (inN 478 (by decide +kernel) rfl)⟩, (inT 480 (by decide +kernel) rfl), (inT 25 (by decide +kernel) rfl)⟩
theorem k_L_90 : KVp RL 90 YX6_match 1 := ⟨kb_YX6_match, Or.inl (inT 482 (by decide +kernel) rfl), (inT 483 (by decide +kernel) rfl), (inT 484 (by decide +kernel) rfl)⟩
theorem k_X6_169 : KVp RX6 169 YX2_weigh 1 := ⟨kb_YX2_weigh, Or.inr ⟨RX6, (inN 486 (by decide +kernel) rfl)⟩, (inT 488 (by decide +kernel) rfl), (inT 26 (by decide +kernel) rfl)⟩
theorem k_X2_15 : KVp RX2 15 YX5_boxesFor 1 := ⟨kb_YX5_boxesFor, Or.inr ⟨RX6, (inN 490 (by decide +kernel) rfl)⟩, (inT 492 (by decide +kernel) rfl), (inT 27 (by decide +kernel) rfl)⟩
theorem k_X2_21 : KVp RX2 21 YX2_mostOf 4 := ⟨kb_YX2_mostOf, Or.inl (inT 494 (by decide +kernel) rfl), (inT 496 (by decide +kernel) rfl), (inT 28 (by decide +kernel) rfl)⟩
theorem k_X2_25 : KVp RX2 25 YX2_mostBehind 2 := ⟨kb_YX2_mostBehind, Or.inl (inT 498 (by decide +kernel) rfl), (inT 500 (by decide +kernel) rfl), (inT 29 (by decide +kernel) rfl)⟩
theorem k_X2_29 : KSp RX2 29 YX6_hasBit 2 := ⟨kb_YX6_hasBit, Or.inr ⟨RX6, (inN 502 (by decide +kernel) rfl)⟩, (inT 350 (by decide +kernel) rfl)⟩
theorem k_X2_33 : KVp RX2 33 YX2_mostWith 4 := ⟨kb_YX2_mostWith, Or.inl (inT 503 (by decide +kernel) rfl), (inT 505 (by decide +kernel) rfl), (inT 30 (by decide +kernel) rfl)⟩
theorem m_X2_36 : Cond.methodLink RX2 36 Lib.Math.max.name ∈ pTb := inT 507 (by decide +kernel) rfl
theorem k_X6_172 : KVp RX6 172 YX2_mostTogether 0 := ⟨kb_YX2_mostTogether, Or.inr ⟨RX6, (inN 508 (by decide +kernel) rfl)⟩, (inT 510 (by decide +kernel) rfl), (inT 31 (by decide +kernel) rfl)⟩
theorem k_X6_175 : KVp RX6 175 YX2_boxOf 2 := ⟨kb_YX2_boxOf, Or.inr ⟨RX6, (inN 512 (by decide +kernel) rfl)⟩, (inT 514 (by decide +kernel) rfl), (inT 32 (by decide +kernel) rfl)⟩
theorem k_X2_44 : KVp RX2 44 YX2_leastBestBox 3 := ⟨kb_YX2_leastBestBox, Or.inl (inT 516 (by decide +kernel) rfl), (inT 518 (by decide +kernel) rfl), (inT 33 (by decide +kernel) rfl)⟩
theorem k_L_94 : KVp RL 94 YX6_seen 2 := ⟨kb_YX6_seen, Or.inl (inT 520 (by decide +kernel) rfl), (inT 521 (by decide +kernel) rfl), (inT 522 (by decide +kernel) rfl)⟩
theorem k_X6_179 : KVp RX6 179 YX5_addSight 2 := ⟨kb_YX5_addSight, Or.inr ⟨RX6, (inN 524 (by decide +kernel) rfl)⟩, (inT 526 (by decide +kernel) rfl), (inT 34 (by decide +kernel) rfl)⟩
theorem k_L_99 : KVp RL 99 YX6_forget 0 := ⟨kb_YX6_forget, Or.inl (inT 528 (by decide +kernel) rfl), (inT 529 (by decide +kernel) rfl), (inT 530 (by decide +kernel) rfl)⟩
theorem k_L_103 : KVp RL 103 YX6_laws 1 := ⟨kb_YX6_laws, Or.inl (inT 532 (by decide +kernel) rfl), (inT 533 (by decide +kernel) rfl), (inT 534 (by decide +kernel) rfl)⟩
theorem k_X6_189 : KVp RX6 189 YX1_howMany 1 := ⟨kb_YX1_howMany, Or.inr ⟨RX6, (inN 536 (by decide +kernel) rfl)⟩, (inT 538 (by decide +kernel) rfl), (inT 35 (by decide +kernel) rfl)⟩
theorem k_X1_49 : KVp RX1 49 YX1_weigh 1 := ⟨kb_YX1_weigh, Or.inl (inT 540 (by decide +kernel) rfl), (inT 542 (by decide +kernel) rfl), (inT 36 (by decide +kernel) rfl)⟩
theorem k_X1_53 : KSp RX1 53 YX1_leastHits 2 := ⟨kb_YX1_leastHits, Or.inl (inT 544 (by decide +kernel) rfl), (inT 545 (by decide +kernel) rfl)⟩
theorem k_X1_27 : KSp RX1 27 YX6_hasBit 2 := ⟨kb_YX6_hasBit, Or.inr ⟨RX6, (inN 547 (by decide +kernel) rfl)⟩, (inT 350 (by decide +kernel) rfl)⟩
theorem k_X1_34 : KSp RX1 34 YJ6_bitCount_0f7a4 1 := ⟨kb_YJ6_bitCount_0f7a4, Or.inl (inT 548 (by decide +kernel) rfl), (inT 280 (by decide +kernel) rfl)⟩
theorem m_X1_40 : Cond.methodLink RX1 40 Lib.Math.max.name ∈ pTb := inT 549 (by decide +kernel) rfl
theorem k_X1_57 : KSp RX1 57 YX1_mostHits 2 := ⟨kb_YX1_mostHits, Or.inl (inT 550 (by decide +kernel) rfl), (inT 551 (by decide +kernel) rfl)⟩
theorem m_X1_46 : Cond.methodLink RX1 46 Lib.Math.min.name ∈ pTb := inT 553 (by decide +kernel) rfl
theorem k_X1_60 : KVp RX1 60 YX1_weighWants 4 := ⟨kb_YX1_weighWants, Or.inl (inT 554 (by decide +kernel) rfl), (inT 556 (by decide +kernel) rfl), (inT 37 (by decide +kernel) rfl)⟩
theorem k_X6_193 : KVp RX6 193 YX1_lawAt 2 := ⟨kb_YX1_lawAt, Or.inr ⟨RX6, (inN 558 (by decide +kernel) rfl)⟩, (inT 560 (by decide +kernel) rfl), (inT 38 (by decide +kernel) rfl)⟩
theorem k_L_107 : KVp RL 107 YX6_next 1 := ⟨kb_YX6_next, Or.inl (inT 562 (by decide +kernel) rfl), (inT 563 (by decide +kernel) rfl), (inT 564 (by decide +kernel) rfl)⟩
theorem k_X6_196 : KVp RX6 196 YX1_weigh 1 := ⟨kb_YX1_weigh, Or.inr ⟨RX6, (inN 566 (by decide +kernel) rfl)⟩, (inT 542 (by decide +kernel) rfl), (inT 36 (by decide +kernel) rfl)⟩
theorem k_X6_197 : KVp RX6 197 YX1_soulToTry 1 := ⟨kb_YX1_soulToTry, Or.inr ⟨RX6, (inN 567 (by decide +kernel) rfl)⟩, (inT 569 (by decide +kernel) rfl), (inT 39 (by decide +kernel) rfl)⟩
theorem k_X1_71 : KVp RX1 71 YX5_isLiving 1 := ⟨kb_YX5_isLiving, Or.inr ⟨RX6, (inN 571 (by decide +kernel) rfl)⟩, (inT 346 (by decide +kernel) rfl), (inT 8 (by decide +kernel) rfl)⟩
theorem k_X1_74 : KVp RX1 74 YX1_mostLeft 1 := ⟨kb_YX1_mostLeft, Or.inl (inT 572 (by decide +kernel) rfl), (inT 574 (by decide +kernel) rfl), (inT 40 (by decide +kernel) rfl)⟩
theorem k_X1_67 : KSp RX1 67 YX6_isSoul 1 := ⟨kb_YX6_isSoul, Or.inr ⟨RX6, (inN 576 (by decide +kernel) rfl)⟩, (inT 267 (by decide +kernel) rfl)⟩
theorem k_X6_200 : KVp RX6 200 YX1_mostLeft 1 := ⟨kb_YX1_mostLeft, Or.inr ⟨RX6, (inN 577 (by decide +kernel) rfl)⟩, (inT 574 (by decide +kernel) rfl), (inT 40 (by decide +kernel) rfl)⟩
theorem k_L_111 : KVp RL 111 YX6_chance 5 := ⟨kb_YX6_chance, Or.inl (inT 578 (by decide +kernel) rfl), (inT 579 (by decide +kernel) rfl), (inT 580 (by decide +kernel) rfl)⟩
theorem k_X6_207 : KSp RX6 207 YX6_power 2 := ⟨kb_YX6_power, Or.inl (inT 584 (by decide +kernel) rfl), (inT 585 (by decide +kernel) rfl)⟩
theorem k_X6_213 : KSp RX6 213 YX6_waysToKeep 4 := ⟨kb_YX6_waysToKeep, Or.inl (inT 588 (by decide +kernel) rfl), (inT 589 (by decide +kernel) rfl)⟩
theorem k_X6_217 : KSp RX6 217 YX6_commonDivisor 2 := ⟨kb_YX6_commonDivisor, Or.inl (inT 591 (by decide +kernel) rfl), (inT 592 (by decide +kernel) rfl)⟩
theorem k_L_116 : KVp RL 116 YX6_book 3 := ⟨kb_YX6_book, Or.inl (inT 594 (by decide +kernel) rfl), (inT 595 (by decide +kernel) rfl), (inT 596 (by decide +kernel) rfl)⟩
theorem k_X6_221 : KVp RX6 221 YX4_followDraws 3 := ⟨kb_YX4_followDraws, Or.inr ⟨RX6, (inN 598 (by decide +kernel) rfl)⟩, (inT 600 (by decide +kernel) rfl), (inT 41 (by decide +kernel) rfl)⟩
theorem k_X4_79 : KVp RX4 79 YX0_drawFrom 1 := ⟨kb_YX0_drawFrom, Or.inr ⟨RX6, (inN 603 (by decide +kernel) rfl)⟩, (inT 605 (by decide +kernel) rfl), (inT 42 (by decide +kernel) rfl)⟩
theorem k_X6_225 : KVp RX6 225 YX5_pursesTogether 0 := ⟨kb_YX5_pursesTogether, Or.inr ⟨RX6, (inN 607 (by decide +kernel) rfl)⟩, (inT 609 (by decide +kernel) rfl), (inT 43 (by decide +kernel) rfl)⟩
theorem k_X6_228 : KVp RX6 228 YX5_coinsLeft 0 := ⟨kb_YX5_coinsLeft, Or.inr ⟨RX6, (inN 611 (by decide +kernel) rfl)⟩, (inT 613 (by decide +kernel) rfl), (inT 44 (by decide +kernel) rfl)⟩
theorem k_L_120 : KVp RL 120 YX6_image 1 := ⟨kb_YX6_image, Or.inl (inT 615 (by decide +kernel) rfl), (inT 616 (by decide +kernel) rfl), (inT 617 (by decide +kernel) rfl)⟩
theorem k_L_124 : KVp RL 124 YX6_restore 1 := ⟨kb_YX6_restore, Or.inl (inT 619 (by decide +kernel) rfl), (inT 620 (by decide +kernel) rfl), (inT 621 (by decide +kernel) rfl)⟩
theorem k_L_128 : KVp RL 128 YX6_told 1 := ⟨kb_YX6_told, Or.inl (inT 623 (by decide +kernel) rfl), (inT 624 (by decide +kernel) rfl), (inT 625 (by decide +kernel) rfl)⟩
theorem k_X6_231 : KVp RX6 231 YX6_toldOfSoul 2 := ⟨kb_YX6_toldOfSoul, Or.inl (inT 627 (by decide +kernel) rfl), (inT 629 (by decide +kernel) rfl), (inT 45 (by decide +kernel) rfl)⟩
theorem k_X6_234 : KVp RX6 234 YX6_toldOfBox 2 := ⟨kb_YX6_toldOfBox, Or.inl (inT 631 (by decide +kernel) rfl), (inT 633 (by decide +kernel) rfl), (inT 46 (by decide +kernel) rfl)⟩
theorem k_L_12 : KIp RL 12 YX7_init 0 := ⟨kb_YX7_init, Or.inl (inT 637 (by decide +kernel) rfl), (inT 638 (by decide +kernel) rfl), rfl, rfl⟩
theorem f_X7_7 : FLp RX7 7 7 0 true (.array .int) := ⟨RX7, TX7, 17, tyX7, rfl, by decide, rfl, iX7, Or.inl (inT 641 (by decide +kernel) rfl), tyX7_ok, nmX7, rfl, by decide +kernel⟩
theorem f_X7_13 : FLp RX7 13 7 1 true (.array .int) := ⟨RX7, TX7, 17, tyX7, rfl, by decide, rfl, iX7, Or.inl (inT 642 (by decide +kernel) rfl), tyX7_ok, nmX7, rfl, by decide +kernel⟩
theorem f_X7_16 : FLp RX7 16 7 2 true (.array .int) := ⟨RX7, TX7, 17, tyX7, rfl, by decide, rfl, iX7, Or.inl (inT 643 (by decide +kernel) rfl), tyX7_ok, nmX7, rfl, by decide +kernel⟩
theorem f_X7_19 : FLp RX7 19 7 3 true (.array .int) := ⟨RX7, TX7, 17, tyX7, rfl, by decide, rfl, iX7, Or.inl (inT 644 (by decide +kernel) rfl), tyX7_ok, nmX7, rfl, by decide +kernel⟩
theorem f_X7_129 : FLp RX7 129 7 4 false .int := ⟨RX7, TX7, 17, tyX7, rfl, by decide, rfl, iX7, Or.inl (inT 645 (by decide +kernel) rfl), tyX7_ok, nmX7, rfl, by decide +kernel⟩
theorem f_X7_22 : FLp RX7 22 7 5 true (.array .int) := ⟨RX7, TX7, 17, tyX7, rfl, by decide, rfl, iX7, Or.inl (inT 646 (by decide +kernel) rfl), tyX7_ok, nmX7, rfl, by decide +kernel⟩
theorem f_X7_60 : FLp RX7 60 7 6 false .int := ⟨RX7, TX7, 17, tyX7, rfl, by decide, rfl, iX7, Or.inl (inT 647 (by decide +kernel) rfl), tyX7_ok, nmX7, rfl, by decide +kernel⟩
theorem f_X7_25 : FLp RX7 25 7 7 true (.array .int) := ⟨RX7, TX7, 17, tyX7, rfl, by decide, rfl, iX7, Or.inl (inT 648 (by decide +kernel) rfl), tyX7_ok, nmX7, rfl, by decide +kernel⟩
theorem f_X7_71 : FLp RX7 71 7 8 false .int := ⟨RX7, TX7, 17, tyX7, rfl, by decide, rfl, iX7, Or.inl (inT 649 (by decide +kernel) rfl), tyX7_ok, nmX7, rfl, by decide +kernel⟩
theorem f_X7_74 : FLp RX7 74 7 9 false .int := ⟨RX7, TX7, 17, tyX7, rfl, by decide, rfl, iX7, Or.inl (inT 650 (by decide +kernel) rfl), tyX7_ok, nmX7, rfl, by decide +kernel⟩
theorem f_X7_80 : FLp RX7 80 7 10 false .boolean := ⟨RX7, TX7, 17, tyX7, rfl, by decide, rfl, iX7, Or.inl (inT 651 (by decide +kernel) rfl), tyX7_ok, nmX7, rfl, by decide +kernel⟩
theorem f_X7_97 : FLp RX7 97 7 11 false .int := ⟨RX7, TX7, 17, tyX7, rfl, by decide, rfl, iX7, Or.inl (inT 652 (by decide +kernel) rfl), tyX7_ok, nmX7, rfl, by decide +kernel⟩
theorem f_X7_91 : FLp RX7 91 7 12 false .int := ⟨RX7, TX7, 17, tyX7, rfl, by decide, rfl, iX7, Or.inl (inT 653 (by decide +kernel) rfl), tyX7_ok, nmX7, rfl, by decide +kernel⟩
theorem f_X7_28 : FLp RX7 28 7 13 true (.array .int) := ⟨RX7, TX7, 17, tyX7, rfl, by decide, rfl, iX7, Or.inl (inT 654 (by decide +kernel) rfl), tyX7_ok, nmX7, rfl, by decide +kernel⟩
theorem f_X7_31 : FLp RX7 31 7 14 true (.array .int) := ⟨RX7, TX7, 17, tyX7, rfl, by decide, rfl, iX7, Or.inl (inT 655 (by decide +kernel) rfl), tyX7_ok, nmX7, rfl, by decide +kernel⟩
theorem f_X7_34 : FLp RX7 34 7 15 true (.array .int) := ⟨RX7, TX7, 17, tyX7, rfl, by decide, rfl, iX7, Or.inl (inT 656 (by decide +kernel) rfl), tyX7_ok, nmX7, rfl, by decide +kernel⟩
theorem f_X7_37 : FLp RX7 37 7 16 true (.array .boolean) := ⟨RX7, TX7, 17, tyX7, rfl, by decide, rfl, iX7, Or.inl (inT 657 (by decide +kernel) rfl), tyX7_ok, nmX7, rfl, by decide +kernel⟩
theorem k_L_17 : KVp RL 17 YX7_birth 3 := ⟨kb_YX7_birth, Or.inl (inT 694 (by decide +kernel) rfl), (inT 695 (by decide +kernel) rfl), (inT 696 (by decide +kernel) rfl)⟩
theorem k_X7_45 : KSp RX7 45 YX7_isSoul 1 := ⟨kb_YX7_isSoul, Or.inl (inT 698 (by decide +kernel) rfl), (inT 699 (by decide +kernel) rfl)⟩
theorem k_X7_41 : KSp RX7 41 YX7_in 3 := ⟨kb_YX7_in, Or.inl (inT 701 (by decide +kernel) rfl), (inT 702 (by decide +kernel) rfl)⟩
theorem k_X7_53 : KSp RX7 53 YX7_bits 1 := ⟨kb_YX7_bits, Or.inl (inT 704 (by decide +kernel) rfl), (inT 705 (by decide +kernel) rfl)⟩
theorem k_L_22 : KVp RL 22 YX7_box 4 := ⟨kb_YX7_box, Or.inl (inT 707 (by decide +kernel) rfl), (inT 708 (by decide +kernel) rfl), (inT 709 (by decide +kernel) rfl)⟩
theorem k_X7_57 : KSp RX7 57 YX7_isBox 1 := ⟨kb_YX7_isBox, Or.inl (inT 711 (by decide +kernel) rfl), (inT 712 (by decide +kernel) rfl)⟩
theorem k_L_27 : KVp RL 27 YX7_say 1 := ⟨kb_YX7_say, Or.inl (inT 714 (by decide +kernel) rfl), (inT 715 (by decide +kernel) rfl), (inT 716 (by decide +kernel) rfl)⟩
theorem k_L_32 : KVp RL 32 YX7_wipe 0 := ⟨kb_YX7_wipe, Or.inl (inT 718 (by decide +kernel) rfl), (inT 719 (by decide +kernel) rfl), (inT 720 (by decide +kernel) rfl)⟩
theorem k_L_36 : KVp RL 36 YX7_fault 0 := ⟨kb_YX7_fault, Or.inl (inT 722 (by decide +kernel) rfl), (inT 723 (by decide +kernel) rfl), (inT 724 (by decide +kernel) rfl)⟩
theorem k_X7_67 : KVp RX7 67 YX7_faultOf 0 := ⟨kb_YX7_faultOf, Or.inl (inT 726 (by decide +kernel) rfl), (inT 728 (by decide +kernel) rfl), (inT 47 (by decide +kernel) rfl)⟩
theorem k_X7_64 : KSp RX7 64 YX7_isLetter 1 := ⟨kb_YX7_isLetter, Or.inl (inT 730 (by decide +kernel) rfl), (inT 731 (by decide +kernel) rfl)⟩
theorem k_L_40 : KVp RL 40 YX7_judge 1 := ⟨kb_YX7_judge, Or.inl (inT 733 (by decide +kernel) rfl), (inT 734 (by decide +kernel) rfl), (inT 735 (by decide +kernel) rfl)⟩
theorem k_X7_111 : KVp RX7 111 YX7_goYears 0 := ⟨kb_YX7_goYears, Or.inl (inT 737 (by decide +kernel) rfl), (inT 739 (by decide +kernel) rfl), (inT 48 (by decide +kernel) rfl)⟩
theorem k_X7_88 : KVp RX7 88 YX7_asNow 0 := ⟨kb_YX7_asNow, Or.inl (inT 741 (by decide +kernel) rfl), (inT 743 (by decide +kernel) rfl), (inT 49 (by decide +kernel) rfl)⟩
theorem k_X7_94 : KVp RX7 94 YX7_endYear 0 := ⟨kb_YX7_endYear, Or.inl (inT 745 (by decide +kernel) rfl), (inT 747 (by decide +kernel) rfl), (inT 50 (by decide +kernel) rfl)⟩
theorem k_X7_100 : KVp RX7 100 YX7_dies 2 := ⟨kb_YX7_dies, Or.inl (inT 749 (by decide +kernel) rfl), (inT 751 (by decide +kernel) rfl), (inT 51 (by decide +kernel) rfl)⟩
theorem k_X7_49 : KSp RX7 49 YX7_has 2 := ⟨kb_YX7_has, Or.inl (inT 753 (by decide +kernel) rfl), (inT 754 (by decide +kernel) rfl)⟩
theorem k_X7_104 : KVp RX7 104 YX7_lends 3 := ⟨kb_YX7_lends, Or.inl (inT 756 (by decide +kernel) rfl), (inT 758 (by decide +kernel) rfl), (inT 52 (by decide +kernel) rfl)⟩
theorem k_X7_84 : KVp RX7 84 YX7_gets 2 := ⟨kb_YX7_gets, Or.inl (inT 760 (by decide +kernel) rfl), (inT 762 (by decide +kernel) rfl), (inT 53 (by decide +kernel) rfl)⟩
theorem k_X7_108 : KVp RX7 108 YX7_tries 2 := ⟨kb_YX7_tries, Or.inl (inT 764 (by decide +kernel) rfl), (inT 766 (by decide +kernel) rfl), (inT 54 (by decide +kernel) rfl)⟩
theorem k_X7_77 : KVp RX7 77 YX7_doesOpen 2 := ⟨kb_YX7_doesOpen, Or.inl (inT 768 (by decide +kernel) rfl), (inT 770 (by decide +kernel) rfl), (inT 55 (by decide +kernel) rfl)⟩
theorem k_L_44 : KVp RL 44 YX7_done 0 := ⟨kb_YX7_done, Or.inl (inT 772 (by decide +kernel) rfl), (inT 773 (by decide +kernel) rfl), (inT 774 (by decide +kernel) rfl)⟩
theorem k_X7_114 : KVp RX7 114 YX7_barOfYears 0 := ⟨kb_YX7_barOfYears, Or.inl (inT 776 (by decide +kernel) rfl), (inT 778 (by decide +kernel) rfl), (inT 56 (by decide +kernel) rfl)⟩
theorem k_L_49 : KVp RL 49 YX7_behind 2 := ⟨kb_YX7_behind, Or.inl (inT 780 (by decide +kernel) rfl), (inT 781 (by decide +kernel) rfl), (inT 782 (by decide +kernel) rfl)⟩
theorem k_L_53 : KVp RL 53 YX7_then 1 := ⟨kb_YX7_then, Or.inl (inT 784 (by decide +kernel) rfl), (inT 785 (by decide +kernel) rfl), (inT 786 (by decide +kernel) rfl)⟩
theorem k_L_57 : KVp RL 57 YX7_opens 1 := ⟨kb_YX7_opens, Or.inl (inT 788 (by decide +kernel) rfl), (inT 789 (by decide +kernel) rfl), (inT 790 (by decide +kernel) rfl)⟩
theorem k_X7_120 : KVp RX7 120 YX7_openSet 1 := ⟨kb_YX7_openSet, Or.inl (inT 792 (by decide +kernel) rfl), (inT 794 (by decide +kernel) rfl), (inT 57 (by decide +kernel) rfl)⟩
theorem k_X7_117 : KVp RX7 117 YX7_lives 1 := ⟨kb_YX7_lives, Or.inl (inT 796 (by decide +kernel) rfl), (inT 798 (by decide +kernel) rfl), (inT 58 (by decide +kernel) rfl)⟩
theorem k_L_61 : KVp RL 61 YX7_two 0 := ⟨kb_YX7_two, Or.inl (inT 800 (by decide +kernel) rfl), (inT 801 (by decide +kernel) rfl), (inT 802 (by decide +kernel) rfl)⟩
theorem k_L_65 : KVp RL 65 YX7_chain 2 := ⟨kb_YX7_chain, Or.inl (inT 804 (by decide +kernel) rfl), (inT 805 (by decide +kernel) rfl), (inT 806 (by decide +kernel) rfl)⟩
theorem k_L_69 : KVp RL 69 YX7_owes 2 := ⟨kb_YX7_owes, Or.inl (inT 808 (by decide +kernel) rfl), (inT 809 (by decide +kernel) rfl), (inT 810 (by decide +kernel) rfl)⟩
theorem k_L_73 : KVp RL 73 YX7_netted 1 := ⟨kb_YX7_netted, Or.inl (inT 812 (by decide +kernel) rfl), (inT 813 (by decide +kernel) rfl), (inT 814 (by decide +kernel) rfl)⟩
theorem k_L_77 : KVp RL 77 YX7_rings 0 := ⟨kb_YX7_rings, Or.inl (inT 816 (by decide +kernel) rfl), (inT 817 (by decide +kernel) rfl), (inT 818 (by decide +kernel) rfl)⟩
theorem k_L_81 : KVp RL 81 YX7_note 2 := ⟨kb_YX7_note, Or.inl (inT 820 (by decide +kernel) rfl), (inT 821 (by decide +kernel) rfl), (inT 822 (by decide +kernel) rfl)⟩
theorem k_L_85 : KVp RL 85 YX7_only 2 := ⟨kb_YX7_only, Or.inl (inT 824 (by decide +kernel) rfl), (inT 825 (by decide +kernel) rfl), (inT 826 (by decide +kernel) rfl)⟩
theorem k_L_89 : KVp RL 89 YX7_share 2 := ⟨kb_YX7_share, Or.inl (inT 828 (by decide +kernel) rfl), (inT 829 (by decide +kernel) rfl), (inT 830 (by decide +kernel) rfl)⟩
theorem k_X7_123 : KVp RX7 123 YX7_feels 2 := ⟨kb_YX7_feels, Or.inl (inT 832 (by decide +kernel) rfl), (inT 834 (by decide +kernel) rfl), (inT 59 (by decide +kernel) rfl)⟩
theorem k_L_93 : KVp RL 93 YX7_match 1 := ⟨kb_YX7_match, Or.inl (inT 836 (by decide +kernel) rfl), (inT 837 (by decide +kernel) rfl), (inT 838 (by decide +kernel) rfl)⟩
theorem k_X7_126 : KVp RX7 126 YX7_layMatch 0 := ⟨kb_YX7_layMatch, Or.inl (inT 840 (by decide +kernel) rfl), (inT 842 (by decide +kernel) rfl), (inT 60 (by decide +kernel) rfl)⟩
theorem k_L_98 : KVp RL 98 YX7_seen 2 := ⟨kb_YX7_seen, Or.inl (inT 844 (by decide +kernel) rfl), (inT 845 (by decide +kernel) rfl), (inT 846 (by decide +kernel) rfl)⟩
theorem k_L_102 : KVp RL 102 YX7_forget 0 := ⟨kb_YX7_forget, Or.inl (inT 848 (by decide +kernel) rfl), (inT 849 (by decide +kernel) rfl), (inT 850 (by decide +kernel) rfl)⟩
theorem k_L_106 : KVp RL 106 YX7_laws 1 := ⟨kb_YX7_laws, Or.inl (inT 852 (by decide +kernel) rfl), (inT 853 (by decide +kernel) rfl), (inT 854 (by decide +kernel) rfl)⟩
theorem k_X7_132 : KVp RX7 132 YX7_isLaw 2 := ⟨kb_YX7_isLaw, Or.inl (inT 856 (by decide +kernel) rfl), (inT 858 (by decide +kernel) rfl), (inT 61 (by decide +kernel) rfl)⟩
theorem k_L_110 : KVp RL 110 YX7_next 1 := ⟨kb_YX7_next, Or.inl (inT 860 (by decide +kernel) rfl), (inT 861 (by decide +kernel) rfl), (inT 862 (by decide +kernel) rfl)⟩
theorem k_L_115 : KVp RL 115 YX7_chance 5 := ⟨kb_YX7_chance, Or.inl (inT 865 (by decide +kernel) rfl), (inT 866 (by decide +kernel) rfl), (inT 867 (by decide +kernel) rfl)⟩
theorem k_X7_140 : KSp RX7 140 YX7_power 2 := ⟨kb_YX7_power, Or.inl (inT 871 (by decide +kernel) rfl), (inT 872 (by decide +kernel) rfl)⟩
theorem k_L_119 : KVp RL 119 YX7_book 3 := ⟨kb_YX7_book, Or.inl (inT 875 (by decide +kernel) rfl), (inT 876 (by decide +kernel) rfl), (inT 877 (by decide +kernel) rfl)⟩
theorem k_L_123 : KVp RL 123 YX7_image 1 := ⟨kb_YX7_image, Or.inl (inT 880 (by decide +kernel) rfl), (inT 881 (by decide +kernel) rfl), (inT 882 (by decide +kernel) rfl)⟩
theorem k_L_127 : KVp RL 127 YX7_restore 1 := ⟨kb_YX7_restore, Or.inl (inT 884 (by decide +kernel) rfl), (inT 885 (by decide +kernel) rfl), (inT 886 (by decide +kernel) rfl)⟩
theorem k_L_131 : KVp RL 131 YX7_told 1 := ⟨kb_YX7_told, Or.inl (inT 888 (by decide +kernel) rfl), (inT 889 (by decide +kernel) rfl), (inT 890 (by decide +kernel) rfl)⟩
theorem q_J6_265 : Cond.constant RJ6 265 (1431655765) ∈ pTb := inT 282 (by decide +kernel) rfl
theorem q_J6_266 : Cond.constant RJ6 266 (858993459) ∈ pTb := inT 283 (by decide +kernel) rfl
theorem q_J6_267 : Cond.constant RJ6 267 (252645135) ∈ pTb := inT 284 (by decide +kernel) rfl
theorem q_X6_203 : Cond.constantLong RX6 203 (-1000000000000000001) ∈ pTb := inT 582 (by decide +kernel) rfl
theorem q_X6_205 : Cond.constantLong RX6 205 (-1000000000000000002) ∈ pTb := inT 583 (by decide +kernel) rfl
theorem q_X6_211 : Cond.constantLong RX6 211 (10) ∈ pTb := inT 587 (by decide +kernel) rfl
theorem q_X4_78 : Cond.constant RX4 78 (65537) ∈ pTb := inT 602 (by decide +kernel) rfl
theorem q_X7_135 : Cond.constant RX7 135 (1000000) ∈ pTb := inT 864 (by decide +kernel) rfl
theorem q_X7_136 : Cond.constantLong RX7 136 (-1000000000000000001) ∈ pTb := inT 869 (by decide +kernel) rfl
theorem q_X7_138 : Cond.constantLong RX7 138 (-1000000000000000002) ∈ pTb := inT 870 (by decide +kernel) rfl
theorem q_X7_144 : Cond.constantLong RX7 144 (10) ∈ pTb := inT 874 (by decide +kernel) rfl
theorem q_X7_146 : Cond.constant RX7 146 (65537) ∈ pTb := inT 879 (by decide +kernel) rfl
theorem n_L_7 : NWp RL 7 6 6 [.null, .null, .null, .null, .null, .null] := ⟨RX6, TX6, tyX6, rfl, iX6, (inT 74 (by decide +kernel) rfl), (inT 75 (by decide +kernel) rfl), (inT 63 (by decide +kernel) rfl), tyX6_ok, fun j hj => by
  rcases (show j = 0 ∨ j = 1 ∨ j = 2 ∨ j = 3 ∨ j = 4 ∨ j = 5 by omega) with rfl | rfl | rfl | rfl | rfl | rfl <;> rfl⟩
theorem n_X6_7 : NWp RX6 7 5 12 [.int 0, .int 0, .int 0, .int 0, .null, .null, .null, .null, .null, .null, .null, .null] := ⟨RX5, TX5, tyX5, rfl, iX5, (inT 82 (by decide +kernel) rfl), (inT 83 (by decide +kernel) rfl), (inT 64 (by decide +kernel) rfl), tyX5_ok, fun j hj => by
  rcases (show j = 0 ∨ j = 1 ∨ j = 2 ∨ j = 3 ∨ j = 4 ∨ j = 5 ∨ j = 6 ∨ j = 7 ∨ j = 8 ∨ j = 9 ∨ j = 10 ∨ j = 11 by omega) with rfl | rfl | rfl | rfl | rfl | rfl | rfl | rfl | rfl | rfl | rfl | rfl <;> rfl⟩
theorem n_X6_20 : NWp RX6 20 3 2 [.null, .int 0] := ⟨RX3, TX3, tyX3, rfl, iX3, (inT 143 (by decide +kernel) rfl), (inT 144 (by decide +kernel) rfl), (inT 65 (by decide +kernel) rfl), tyX3_ok, fun j hj => by
  rcases (show j = 0 ∨ j = 1 by omega) with rfl | rfl <;> rfl⟩
theorem n_X6_27 : NWp RX6 27 4 7 [.null, .null, .int 0, .int 0, .int 0, .int 0, .int 0] := ⟨RX4, TX4, tyX4, rfl, iX4, (inT 158 (by decide +kernel) rfl), (inT 159 (by decide +kernel) rfl), (inT 66 (by decide +kernel) rfl), tyX4_ok, fun j hj => by
  rcases (show j = 0 ∨ j = 1 ∨ j = 2 ∨ j = 3 ∨ j = 4 ∨ j = 5 ∨ j = 6 by omega) with rfl | rfl | rfl | rfl | rfl | rfl | rfl <;> rfl⟩
theorem n_X4_9 : NWp RX4 9 5 12 [.int 0, .int 0, .int 0, .int 0, .null, .null, .null, .null, .null, .null, .null, .null] := ⟨RX5, TX5, tyX5, rfl, iX5, (inT 164 (by decide +kernel) rfl), (inT 83 (by decide +kernel) rfl), (inT 64 (by decide +kernel) rfl), tyX5_ok, fun j hj => by
  rcases (show j = 0 ∨ j = 1 ∨ j = 2 ∨ j = 3 ∨ j = 4 ∨ j = 5 ∨ j = 6 ∨ j = 7 ∨ j = 8 ∨ j = 9 ∨ j = 10 ∨ j = 11 by omega) with rfl | rfl | rfl | rfl | rfl | rfl | rfl | rfl | rfl | rfl | rfl | rfl <;> rfl⟩
theorem n_X4_18 : NWp RX4 18 0 4 [.int 0, .int 0, .int 0, .int 0] := ⟨RX0, TX0, tyX0, rfl, iX0, (inT 166 (by decide +kernel) rfl), (inT 167 (by decide +kernel) rfl), (inT 67 (by decide +kernel) rfl), tyX0_ok, fun j hj => by
  rcases (show j = 0 ∨ j = 1 ∨ j = 2 ∨ j = 3 by omega) with rfl | rfl | rfl | rfl <;> rfl⟩
theorem n_X6_34 : NWp RX6 34 2 1 [.null] := ⟨RX2, TX2, tyX2, rfl, iX2, (inT 220 (by decide +kernel) rfl), (inT 221 (by decide +kernel) rfl), (inT 68 (by decide +kernel) rfl), tyX2_ok, fun j hj => by
  have : j = 0 := by omega
  subst this; rfl⟩
theorem n_X6_41 : NWp RX6 41 1 2 [.null, .int 0] := ⟨RX1, TX1, tyX1, rfl, iX1, (inT 230 (by decide +kernel) rfl), (inT 231 (by decide +kernel) rfl), (inT 69 (by decide +kernel) rfl), tyX1_ok, fun j hj => by
  rcases (show j = 0 ∨ j = 1 by omega) with rfl | rfl <;> rfl⟩
theorem n_L_10 : NWp RL 10 7 17 [.null, .null, .null, .null, .int 0, .null, .int 0, .null, .int 0, .int 0, .int 0, .int 0, .int 0, .null, .null, .null, .null] := ⟨RX7, TX7, tyX7, rfl, iX7, (inT 635 (by decide +kernel) rfl), (inT 636 (by decide +kernel) rfl), (inT 70 (by decide +kernel) rfl), tyX7_ok, fun j hj => by
  rcases (show j = 0 ∨ j = 1 ∨ j = 2 ∨ j = 3 ∨ j = 4 ∨ j = 5 ∨ j = 6 ∨ j = 7 ∨ j = 8 ∨ j = 9 ∨ j = 10 ∨ j = 11 ∨ j = 12 ∨ j = 13 ∨ j = 14 ∨ j = 15 ∨ j = 16 by omega) with rfl | rfl | rfl | rfl | rfl | rfl | rfl | rfl | rfl | rfl | rfl | rfl | rfl | rfl | rfl | rfl | rfl <;> rfl⟩
theorem o_X6_1 : Cond.methodLink RX6 1 Lib.objectInit ∈ pTb := inT 79 (by decide +kernel) rfl
theorem o_X5_3 : Cond.methodLink RX5 3 Lib.objectInit ∈ pTb := inT 87 (by decide +kernel) rfl
theorem o_X3_3 : Cond.methodLink RX3 3 Lib.objectInit ∈ pTb := inT 148 (by decide +kernel) rfl
theorem o_X4_3 : Cond.methodLink RX4 3 Lib.objectInit ∈ pTb := inT 163 (by decide +kernel) rfl
theorem o_X0_3 : Cond.methodLink RX0 3 Lib.objectInit ∈ pTb := inT 171 (by decide +kernel) rfl
theorem o_X2_3 : Cond.methodLink RX2 3 Lib.objectInit ∈ pTb := inT 225 (by decide +kernel) rfl
theorem o_X1_3 : Cond.methodLink RX1 3 Lib.objectInit ∈ pTb := inT 235 (by decide +kernel) rfl
theorem a_X5_49 : Cond.methodLink RX5 49 arraycopyName ∈ pTb := inT 332 (by decide +kernel) rfl
theorem o_X7_1 : Cond.methodLink RX7 1 Lib.objectInit ∈ pTb := inT 640 (by decide +kernel) rfl
theorem o_inst : Cond.instanceMethod Lib.objectInit ∈ pTb := inT 80 (by decide +kernel) rfl
theorem o_code : Cond.code Lib.objectInit ⟨#[0xb1]⟩ 1 none ∈ pTb := inT 81 (by decide +kernel) rfl
theorem a_nat : Cond.native arraycopyName ∈ pTb := inT 334 (by decide +kernel) rfl
theorem a_stat : Cond.static arraycopyName ∈ pTb := inT 333 (by decide +kernel) rfl
theorem a_ini : Cond.initialized "java/lang/System" ∈ pTb := inT 72 (by decide +kernel) rfl
theorem m_max_stat : Cond.static Lib.Math.max.name ∈ pTb := inT 472 (by decide +kernel) rfl
theorem m_max_code : Cond.code Lib.Math.max.name Lib.Math.max.code 2 (some .int) ∈ pTb := inT 473 (by decide +kernel) rfl
theorem m_min_stat : Cond.static Lib.Math.min.name ∈ pTb := inT 391 (by decide +kernel) rfl
theorem m_min_code : Cond.code Lib.Math.min.name Lib.Math.min.code 2 (some .int) ∈ pTb := inT 392 (by decide +kernel) rfl
theorem m_ini : Cond.initialized "java/lang/Math" ∈ pTb := inT 73 (by decide +kernel) rfl
theorem z_int : Cond.arrayClass .int ∈ pTb := inT 141 (by decide +kernel) rfl
theorem z_bool : Cond.arrayClass .boolean ∈ pTb := inT 693 (by decide +kernel) rfl
theorem ao_W : Cond.arrayOver (.object RX5) ∈ lw_tbl := List.mem_of_getElem? (i := 142) (by decide +kernel)
end
section
def dc (cc : ByteArray) (pc : Nat) (i : Instr) (len nx : Nat) : Prop := decode cc pc = .ok (i, len) ∧ pc + len = nx
theorem dX0_init_0 : dc cX0_init 0 (.aload_n 0) 1 1 := ⟨by decide +kernel, rfl⟩
theorem dX0_init_1 : dc cX0_init 1 (.invokespecial 3) 3 4 := ⟨by decide +kernel, rfl⟩
theorem dX0_init_4 : dc cX0_init 4 (.aload_n 0) 1 5 := ⟨by decide +kernel, rfl⟩
theorem dX0_init_5 : dc cX0_init 5 (.iconst 0) 1 6 := ⟨by decide +kernel, rfl⟩
theorem dX0_init_6 : dc cX0_init 6 (.putfield 11) 3 9 := ⟨by decide +kernel, rfl⟩
theorem dX0_init_9 : dc cX0_init 9 (.aload_n 0) 1 10 := ⟨by decide +kernel, rfl⟩
theorem dX0_init_10 : dc cX0_init 10 (.iconst 0) 1 11 := ⟨by decide +kernel, rfl⟩
theorem dX0_init_11 : dc cX0_init 11 (.putfield 15) 3 14 := ⟨by decide +kernel, rfl⟩
theorem dX0_init_14 : dc cX0_init 14 (.aload_n 0) 1 15 := ⟨by decide +kernel, rfl⟩
theorem dX0_init_15 : dc cX0_init 15 (.iconst 0) 1 16 := ⟨by decide +kernel, rfl⟩
theorem dX0_init_16 : dc cX0_init 16 (.putfield 18) 3 19 := ⟨by decide +kernel, rfl⟩
theorem dX0_init_19 : dc cX0_init 19 (.aload_n 0) 1 20 := ⟨by decide +kernel, rfl⟩
theorem dX0_init_20 : dc cX0_init 20 (.iconst 0) 1 21 := ⟨by decide +kernel, rfl⟩
theorem dX0_init_21 : dc cX0_init 21 (.putfield 21) 3 24 := ⟨by decide +kernel, rfl⟩
theorem dX0_init_24 : dc cX0_init 24 (.return_) 1 25 := ⟨by decide +kernel, rfl⟩
theorem dX0_readFrom_0 : dc cX0_readFrom 0 (.aload_n 1) 1 1 := ⟨by decide +kernel, rfl⟩
theorem dX0_readFrom_1 : dc cX0_readFrom 1 (.iload_n 2) 1 2 := ⟨by decide +kernel, rfl⟩
theorem dX0_readFrom_2 : dc cX0_readFrom 2 (.invokevirtual 24) 3 5 := ⟨by decide +kernel, rfl⟩
theorem dX0_readFrom_5 : dc cX0_readFrom 5 (.istore_n 3) 1 6 := ⟨by decide +kernel, rfl⟩
theorem dX0_readFrom_6 : dc cX0_readFrom 6 (.iload_n 3) 1 7 := ⟨by decide +kernel, rfl⟩
theorem dX0_readFrom_7 : dc cX0_readFrom 7 (.bipush 46) 2 9 := ⟨by decide +kernel, rfl⟩
theorem dX0_readFrom_9 : dc cX0_readFrom 9 (.if_icmp .ne 10) 3 12 := ⟨by decide +kernel, rfl⟩
theorem dX0_readFrom_12 : dc cX0_readFrom 12 (.aload_n 0) 1 13 := ⟨by decide +kernel, rfl⟩
theorem dX0_readFrom_13 : dc cX0_readFrom 13 (.iconst 0) 1 14 := ⟨by decide +kernel, rfl⟩
theorem dX0_readFrom_14 : dc cX0_readFrom 14 (.putfield 11) 3 17 := ⟨by decide +kernel, rfl⟩
theorem dX0_readFrom_17 : dc cX0_readFrom 17 (.iconst 1) 1 18 := ⟨by decide +kernel, rfl⟩
theorem dX0_readFrom_18 : dc cX0_readFrom 18 (.ireturn) 1 19 := ⟨by decide +kernel, rfl⟩
theorem dX0_readFrom_19 : dc cX0_readFrom 19 (.aload_n 0) 1 20 := ⟨by decide +kernel, rfl⟩
theorem dX0_readFrom_20 : dc cX0_readFrom 20 (.iload_n 3) 1 21 := ⟨by decide +kernel, rfl⟩
theorem dX0_readFrom_21 : dc cX0_readFrom 21 (.bipush 65) 2 23 := ⟨by decide +kernel, rfl⟩
theorem dX0_readFrom_23 : dc cX0_readFrom 23 (.isub) 1 24 := ⟨by decide +kernel, rfl⟩
theorem dX0_readFrom_24 : dc cX0_readFrom 24 (.putfield 15) 3 27 := ⟨by decide +kernel, rfl⟩
theorem dX0_readFrom_27 : dc cX0_readFrom 27 (.aload_n 1) 1 28 := ⟨by decide +kernel, rfl⟩
theorem dX0_readFrom_28 : dc cX0_readFrom 28 (.iload_n 2) 1 29 := ⟨by decide +kernel, rfl⟩
theorem dX0_readFrom_29 : dc cX0_readFrom 29 (.iconst 1) 1 30 := ⟨by decide +kernel, rfl⟩
theorem dX0_readFrom_30 : dc cX0_readFrom 30 (.iadd) 1 31 := ⟨by decide +kernel, rfl⟩
theorem dX0_readFrom_31 : dc cX0_readFrom 31 (.invokevirtual 24) 3 34 := ⟨by decide +kernel, rfl⟩
theorem dX0_readFrom_34 : dc cX0_readFrom 34 (.istore 4) 2 36 := ⟨by decide +kernel, rfl⟩
theorem dX0_readFrom_36 : dc cX0_readFrom 36 (.iload 4) 2 38 := ⟨by decide +kernel, rfl⟩
theorem dX0_readFrom_38 : dc cX0_readFrom 38 (.bipush 62) 2 40 := ⟨by decide +kernel, rfl⟩
theorem dX0_readFrom_40 : dc cX0_readFrom 40 (.if_icmp .ne 24) 3 43 := ⟨by decide +kernel, rfl⟩
theorem dX0_readFrom_43 : dc cX0_readFrom 43 (.aload_n 0) 1 44 := ⟨by decide +kernel, rfl⟩
theorem dX0_readFrom_44 : dc cX0_readFrom 44 (.iconst 1) 1 45 := ⟨by decide +kernel, rfl⟩
theorem dX0_readFrom_45 : dc cX0_readFrom 45 (.putfield 11) 3 48 := ⟨by decide +kernel, rfl⟩
theorem dX0_readFrom_48 : dc cX0_readFrom 48 (.aload_n 0) 1 49 := ⟨by decide +kernel, rfl⟩
theorem dX0_readFrom_49 : dc cX0_readFrom 49 (.aload_n 1) 1 50 := ⟨by decide +kernel, rfl⟩
theorem dX0_readFrom_50 : dc cX0_readFrom 50 (.iload_n 2) 1 51 := ⟨by decide +kernel, rfl⟩
theorem dX0_readFrom_51 : dc cX0_readFrom 51 (.iconst 2) 1 52 := ⟨by decide +kernel, rfl⟩
theorem dX0_readFrom_52 : dc cX0_readFrom 52 (.iadd) 1 53 := ⟨by decide +kernel, rfl⟩
theorem dX0_readFrom_53 : dc cX0_readFrom 53 (.invokevirtual 24) 3 56 := ⟨by decide +kernel, rfl⟩
theorem dX0_readFrom_56 : dc cX0_readFrom 56 (.bipush 65) 2 58 := ⟨by decide +kernel, rfl⟩
theorem dX0_readFrom_58 : dc cX0_readFrom 58 (.isub) 1 59 := ⟨by decide +kernel, rfl⟩
theorem dX0_readFrom_59 : dc cX0_readFrom 59 (.putfield 18) 3 62 := ⟨by decide +kernel, rfl⟩
theorem dX0_readFrom_62 : dc cX0_readFrom 62 (.iconst 3) 1 63 := ⟨by decide +kernel, rfl⟩
theorem dX0_readFrom_63 : dc cX0_readFrom 63 (.ireturn) 1 64 := ⟨by decide +kernel, rfl⟩
theorem dX0_readFrom_64 : dc cX0_readFrom 64 (.iload 4) 2 66 := ⟨by decide +kernel, rfl⟩
theorem dX0_readFrom_66 : dc cX0_readFrom 66 (.bipush 61) 2 68 := ⟨by decide +kernel, rfl⟩
theorem dX0_readFrom_68 : dc cX0_readFrom 68 (.if_icmp .ne 38) 3 71 := ⟨by decide +kernel, rfl⟩
theorem dX0_readFrom_71 : dc cX0_readFrom 71 (.aload_n 0) 1 72 := ⟨by decide +kernel, rfl⟩
theorem dX0_readFrom_72 : dc cX0_readFrom 72 (.iconst 2) 1 73 := ⟨by decide +kernel, rfl⟩
theorem dX0_readFrom_73 : dc cX0_readFrom 73 (.putfield 11) 3 76 := ⟨by decide +kernel, rfl⟩
theorem dX0_readFrom_76 : dc cX0_readFrom 76 (.aload_n 0) 1 77 := ⟨by decide +kernel, rfl⟩
theorem dX0_readFrom_77 : dc cX0_readFrom 77 (.aload_n 1) 1 78 := ⟨by decide +kernel, rfl⟩
theorem dX0_readFrom_78 : dc cX0_readFrom 78 (.iload_n 2) 1 79 := ⟨by decide +kernel, rfl⟩
theorem dX0_readFrom_79 : dc cX0_readFrom 79 (.iconst 2) 1 80 := ⟨by decide +kernel, rfl⟩
theorem dX0_readFrom_80 : dc cX0_readFrom 80 (.iadd) 1 81 := ⟨by decide +kernel, rfl⟩
theorem dX0_readFrom_81 : dc cX0_readFrom 81 (.invokevirtual 24) 3 84 := ⟨by decide +kernel, rfl⟩
theorem dX0_readFrom_84 : dc cX0_readFrom 84 (.bipush 48) 2 86 := ⟨by decide +kernel, rfl⟩
theorem dX0_readFrom_86 : dc cX0_readFrom 86 (.isub) 1 87 := ⟨by decide +kernel, rfl⟩
theorem dX0_readFrom_87 : dc cX0_readFrom 87 (.putfield 21) 3 90 := ⟨by decide +kernel, rfl⟩
theorem dX0_readFrom_90 : dc cX0_readFrom 90 (.aload_n 0) 1 91 := ⟨by decide +kernel, rfl⟩
theorem dX0_readFrom_91 : dc cX0_readFrom 91 (.aload_n 1) 1 92 := ⟨by decide +kernel, rfl⟩
theorem dX0_readFrom_92 : dc cX0_readFrom 92 (.iload_n 2) 1 93 := ⟨by decide +kernel, rfl⟩
theorem dX0_readFrom_93 : dc cX0_readFrom 93 (.iconst 3) 1 94 := ⟨by decide +kernel, rfl⟩
theorem dX0_readFrom_94 : dc cX0_readFrom 94 (.iadd) 1 95 := ⟨by decide +kernel, rfl⟩
theorem dX0_readFrom_95 : dc cX0_readFrom 95 (.invokevirtual 24) 3 98 := ⟨by decide +kernel, rfl⟩
theorem dX0_readFrom_98 : dc cX0_readFrom 98 (.bipush 65) 2 100 := ⟨by decide +kernel, rfl⟩
theorem dX0_readFrom_100 : dc cX0_readFrom 100 (.isub) 1 101 := ⟨by decide +kernel, rfl⟩
theorem dX0_readFrom_101 : dc cX0_readFrom 101 (.putfield 18) 3 104 := ⟨by decide +kernel, rfl⟩
theorem dX0_readFrom_104 : dc cX0_readFrom 104 (.iconst 4) 1 105 := ⟨by decide +kernel, rfl⟩
theorem dX0_readFrom_105 : dc cX0_readFrom 105 (.ireturn) 1 106 := ⟨by decide +kernel, rfl⟩
theorem dX0_readFrom_106 : dc cX0_readFrom 106 (.aload_n 0) 1 107 := ⟨by decide +kernel, rfl⟩
theorem dX0_readFrom_107 : dc cX0_readFrom 107 (.iconst 3) 1 108 := ⟨by decide +kernel, rfl⟩
theorem dX0_readFrom_108 : dc cX0_readFrom 108 (.putfield 11) 3 111 := ⟨by decide +kernel, rfl⟩
theorem dX0_readFrom_111 : dc cX0_readFrom 111 (.aload_n 0) 1 112 := ⟨by decide +kernel, rfl⟩
theorem dX0_readFrom_112 : dc cX0_readFrom 112 (.iload 4) 2 114 := ⟨by decide +kernel, rfl⟩
theorem dX0_readFrom_114 : dc cX0_readFrom 114 (.bipush 48) 2 116 := ⟨by decide +kernel, rfl⟩
theorem dX0_readFrom_116 : dc cX0_readFrom 116 (.isub) 1 117 := ⟨by decide +kernel, rfl⟩
theorem dX0_readFrom_117 : dc cX0_readFrom 117 (.putfield 18) 3 120 := ⟨by decide +kernel, rfl⟩
theorem dX0_readFrom_120 : dc cX0_readFrom 120 (.iconst 2) 1 121 := ⟨by decide +kernel, rfl⟩
theorem dX0_readFrom_121 : dc cX0_readFrom 121 (.ireturn) 1 122 := ⟨by decide +kernel, rfl⟩
theorem dX0_drawFrom_0 : dc cX0_drawFrom 0 (.iload_n 1) 1 1 := ⟨by decide +kernel, rfl⟩
theorem dX0_drawFrom_1 : dc cX0_drawFrom 1 (.bipush 8) 2 3 := ⟨by decide +kernel, rfl⟩
theorem dX0_drawFrom_3 : dc cX0_drawFrom 3 (.irem) 1 4 := ⟨by decide +kernel, rfl⟩
theorem dX0_drawFrom_4 : dc cX0_drawFrom 4 (.istore_n 2) 1 5 := ⟨by decide +kernel, rfl⟩
theorem dX0_drawFrom_5 : dc cX0_drawFrom 5 (.aload_n 0) 1 6 := ⟨by decide +kernel, rfl⟩
theorem dX0_drawFrom_6 : dc cX0_drawFrom 6 (.iload_n 1) 1 7 := ⟨by decide +kernel, rfl⟩
theorem dX0_drawFrom_7 : dc cX0_drawFrom 7 (.bipush 8) 2 9 := ⟨by decide +kernel, rfl⟩
theorem dX0_drawFrom_9 : dc cX0_drawFrom 9 (.idiv) 1 10 := ⟨by decide +kernel, rfl⟩
theorem dX0_drawFrom_10 : dc cX0_drawFrom 10 (.bipush 8) 2 12 := ⟨by decide +kernel, rfl⟩
theorem dX0_drawFrom_12 : dc cX0_drawFrom 12 (.irem) 1 13 := ⟨by decide +kernel, rfl⟩
theorem dX0_drawFrom_13 : dc cX0_drawFrom 13 (.putfield 15) 3 16 := ⟨by decide +kernel, rfl⟩
theorem dX0_drawFrom_16 : dc cX0_drawFrom 16 (.aload_n 0) 1 17 := ⟨by decide +kernel, rfl⟩
theorem dX0_drawFrom_17 : dc cX0_drawFrom 17 (.iload_n 1) 1 18 := ⟨by decide +kernel, rfl⟩
theorem dX0_drawFrom_18 : dc cX0_drawFrom 18 (.bipush 64) 2 20 := ⟨by decide +kernel, rfl⟩
theorem dX0_drawFrom_20 : dc cX0_drawFrom 20 (.idiv) 1 21 := ⟨by decide +kernel, rfl⟩
theorem dX0_drawFrom_21 : dc cX0_drawFrom 21 (.bipush 8) 2 23 := ⟨by decide +kernel, rfl⟩
theorem dX0_drawFrom_23 : dc cX0_drawFrom 23 (.irem) 1 24 := ⟨by decide +kernel, rfl⟩
theorem dX0_drawFrom_24 : dc cX0_drawFrom 24 (.putfield 18) 3 27 := ⟨by decide +kernel, rfl⟩
theorem dX0_drawFrom_27 : dc cX0_drawFrom 27 (.iload_n 2) 1 28 := ⟨by decide +kernel, rfl⟩
theorem dX0_drawFrom_28 : dc cX0_drawFrom 28 (.ifCond .ne 11) 3 31 := ⟨by decide +kernel, rfl⟩
theorem dX0_drawFrom_31 : dc cX0_drawFrom 31 (.aload_n 0) 1 32 := ⟨by decide +kernel, rfl⟩
theorem dX0_drawFrom_32 : dc cX0_drawFrom 32 (.iconst 0) 1 33 := ⟨by decide +kernel, rfl⟩
theorem dX0_drawFrom_33 : dc cX0_drawFrom 33 (.putfield 11) 3 36 := ⟨by decide +kernel, rfl⟩
theorem dX0_drawFrom_36 : dc cX0_drawFrom 36 (.goto 59) 3 39 := ⟨by decide +kernel, rfl⟩
theorem dX0_drawFrom_39 : dc cX0_drawFrom 39 (.iload_n 2) 1 40 := ⟨by decide +kernel, rfl⟩
theorem dX0_drawFrom_40 : dc cX0_drawFrom 40 (.iconst 1) 1 41 := ⟨by decide +kernel, rfl⟩
theorem dX0_drawFrom_41 : dc cX0_drawFrom 41 (.if_icmp .ne 11) 3 44 := ⟨by decide +kernel, rfl⟩
theorem dX0_drawFrom_44 : dc cX0_drawFrom 44 (.aload_n 0) 1 45 := ⟨by decide +kernel, rfl⟩
theorem dX0_drawFrom_45 : dc cX0_drawFrom 45 (.iconst 1) 1 46 := ⟨by decide +kernel, rfl⟩
theorem dX0_drawFrom_46 : dc cX0_drawFrom 46 (.putfield 11) 3 49 := ⟨by decide +kernel, rfl⟩
theorem dX0_drawFrom_49 : dc cX0_drawFrom 49 (.goto 46) 3 52 := ⟨by decide +kernel, rfl⟩
theorem dX0_drawFrom_52 : dc cX0_drawFrom 52 (.iload_n 2) 1 53 := ⟨by decide +kernel, rfl⟩
theorem dX0_drawFrom_53 : dc cX0_drawFrom 53 (.iconst 3) 1 54 := ⟨by decide +kernel, rfl⟩
theorem dX0_drawFrom_54 : dc cX0_drawFrom 54 (.if_icmp .gt 25) 3 57 := ⟨by decide +kernel, rfl⟩
theorem dX0_drawFrom_57 : dc cX0_drawFrom 57 (.aload_n 0) 1 58 := ⟨by decide +kernel, rfl⟩
theorem dX0_drawFrom_58 : dc cX0_drawFrom 58 (.iconst 2) 1 59 := ⟨by decide +kernel, rfl⟩
theorem dX0_drawFrom_59 : dc cX0_drawFrom 59 (.putfield 11) 3 62 := ⟨by decide +kernel, rfl⟩
theorem dX0_drawFrom_62 : dc cX0_drawFrom 62 (.aload_n 0) 1 63 := ⟨by decide +kernel, rfl⟩
theorem dX0_drawFrom_63 : dc cX0_drawFrom 63 (.iconst 1) 1 64 := ⟨by decide +kernel, rfl⟩
theorem dX0_drawFrom_64 : dc cX0_drawFrom 64 (.iload_n 1) 1 65 := ⟨by decide +kernel, rfl⟩
theorem dX0_drawFrom_65 : dc cX0_drawFrom 65 (.sipush 512) 3 68 := ⟨by decide +kernel, rfl⟩
theorem dX0_drawFrom_68 : dc cX0_drawFrom 68 (.idiv) 1 69 := ⟨by decide +kernel, rfl⟩
theorem dX0_drawFrom_69 : dc cX0_drawFrom 69 (.bipush 9) 2 71 := ⟨by decide +kernel, rfl⟩
theorem dX0_drawFrom_71 : dc cX0_drawFrom 71 (.irem) 1 72 := ⟨by decide +kernel, rfl⟩
theorem dX0_drawFrom_72 : dc cX0_drawFrom 72 (.iadd) 1 73 := ⟨by decide +kernel, rfl⟩
theorem dX0_drawFrom_73 : dc cX0_drawFrom 73 (.putfield 21) 3 76 := ⟨by decide +kernel, rfl⟩
theorem dX0_drawFrom_76 : dc cX0_drawFrom 76 (.goto 19) 3 79 := ⟨by decide +kernel, rfl⟩
theorem dX0_drawFrom_79 : dc cX0_drawFrom 79 (.aload_n 0) 1 80 := ⟨by decide +kernel, rfl⟩
theorem dX0_drawFrom_80 : dc cX0_drawFrom 80 (.iconst 3) 1 81 := ⟨by decide +kernel, rfl⟩
theorem dX0_drawFrom_81 : dc cX0_drawFrom 81 (.putfield 11) 3 84 := ⟨by decide +kernel, rfl⟩
theorem dX0_drawFrom_84 : dc cX0_drawFrom 84 (.aload_n 0) 1 85 := ⟨by decide +kernel, rfl⟩
theorem dX0_drawFrom_85 : dc cX0_drawFrom 85 (.iload_n 1) 1 86 := ⟨by decide +kernel, rfl⟩
theorem dX0_drawFrom_86 : dc cX0_drawFrom 86 (.bipush 64) 2 88 := ⟨by decide +kernel, rfl⟩
theorem dX0_drawFrom_88 : dc cX0_drawFrom 88 (.idiv) 1 89 := ⟨by decide +kernel, rfl⟩
theorem dX0_drawFrom_89 : dc cX0_drawFrom 89 (.bipush 6) 2 91 := ⟨by decide +kernel, rfl⟩
theorem dX0_drawFrom_91 : dc cX0_drawFrom 91 (.irem) 1 92 := ⟨by decide +kernel, rfl⟩
theorem dX0_drawFrom_92 : dc cX0_drawFrom 92 (.putfield 18) 3 95 := ⟨by decide +kernel, rfl⟩
theorem dX0_drawFrom_95 : dc cX0_drawFrom 95 (.return_) 1 96 := ⟨by decide +kernel, rfl⟩
theorem dX1_init_0 : dc cX1_init 0 (.aload_n 0) 1 1 := ⟨by decide +kernel, rfl⟩
theorem dX1_init_1 : dc cX1_init 1 (.invokespecial 3) 3 4 := ⟨by decide +kernel, rfl⟩
theorem dX1_init_4 : dc cX1_init 4 (.aload_n 0) 1 5 := ⟨by decide +kernel, rfl⟩
theorem dX1_init_5 : dc cX1_init 5 (.bipush 8) 2 7 := ⟨by decide +kernel, rfl⟩
theorem dX1_init_7 : dc cX1_init 7 (.newarray .int) 2 9 := ⟨by decide +kernel, rfl⟩
theorem dX1_init_9 : dc cX1_init 9 (.putfield 9) 3 12 := ⟨by decide +kernel, rfl⟩
theorem dX1_init_12 : dc cX1_init 12 (.aload_n 0) 1 13 := ⟨by decide +kernel, rfl⟩
theorem dX1_init_13 : dc cX1_init 13 (.iconst 0) 1 14 := ⟨by decide +kernel, rfl⟩
theorem dX1_init_14 : dc cX1_init 14 (.putfield 15) 3 17 := ⟨by decide +kernel, rfl⟩
theorem dX1_init_17 : dc cX1_init 17 (.return_) 1 18 := ⟨by decide +kernel, rfl⟩
theorem dX1_leastHits_0 : dc cX1_leastHits 0 (.iconst 1) 1 1 := ⟨by decide +kernel, rfl⟩
theorem dX1_leastHits_1 : dc cX1_leastHits 1 (.istore_n 2) 1 2 := ⟨by decide +kernel, rfl⟩
theorem dX1_leastHits_2 : dc cX1_leastHits 2 (.iconst 0) 1 3 := ⟨by decide +kernel, rfl⟩
theorem dX1_leastHits_3 : dc cX1_leastHits 3 (.istore_n 3) 1 4 := ⟨by decide +kernel, rfl⟩
theorem dX1_leastHits_4 : dc cX1_leastHits 4 (.iload_n 3) 1 5 := ⟨by decide +kernel, rfl⟩
theorem dX1_leastHits_5 : dc cX1_leastHits 5 (.aload_n 0) 1 6 := ⟨by decide +kernel, rfl⟩
theorem dX1_leastHits_6 : dc cX1_leastHits 6 (.getfield 19) 3 9 := ⟨by decide +kernel, rfl⟩
theorem dX1_leastHits_9 : dc cX1_leastHits 9 (.if_icmp .ge 38) 3 12 := ⟨by decide +kernel, rfl⟩
theorem dX1_leastHits_12 : dc cX1_leastHits 12 (.aload_n 0) 1 13 := ⟨by decide +kernel, rfl⟩
theorem dX1_leastHits_13 : dc cX1_leastHits 13 (.getfield 24) 3 16 := ⟨by decide +kernel, rfl⟩
theorem dX1_leastHits_16 : dc cX1_leastHits 16 (.iload_n 3) 1 17 := ⟨by decide +kernel, rfl⟩
theorem dX1_leastHits_17 : dc cX1_leastHits 17 (.invokestatic 27) 3 20 := ⟨by decide +kernel, rfl⟩
theorem dX1_leastHits_20 : dc cX1_leastHits 20 (.ifCond .ne 21) 3 23 := ⟨by decide +kernel, rfl⟩
theorem dX1_leastHits_23 : dc cX1_leastHits 23 (.iload_n 2) 1 24 := ⟨by decide +kernel, rfl⟩
theorem dX1_leastHits_24 : dc cX1_leastHits 24 (.iload_n 1) 1 25 := ⟨by decide +kernel, rfl⟩
theorem dX1_leastHits_25 : dc cX1_leastHits 25 (.aload_n 0) 1 26 := ⟨by decide +kernel, rfl⟩
theorem dX1_leastHits_26 : dc cX1_leastHits 26 (.getfield 31) 3 29 := ⟨by decide +kernel, rfl⟩
theorem dX1_leastHits_29 : dc cX1_leastHits 29 (.iload_n 3) 1 30 := ⟨by decide +kernel, rfl⟩
theorem dX1_leastHits_30 : dc cX1_leastHits 30 (.iaload) 1 31 := ⟨by decide +kernel, rfl⟩
theorem dX1_leastHits_31 : dc cX1_leastHits 31 (.iand) 1 32 := ⟨by decide +kernel, rfl⟩
theorem dX1_leastHits_32 : dc cX1_leastHits 32 (.invokestatic 34) 3 35 := ⟨by decide +kernel, rfl⟩
theorem dX1_leastHits_35 : dc cX1_leastHits 35 (.iconst 1) 1 36 := ⟨by decide +kernel, rfl⟩
theorem dX1_leastHits_36 : dc cX1_leastHits 36 (.iadd) 1 37 := ⟨by decide +kernel, rfl⟩
theorem dX1_leastHits_37 : dc cX1_leastHits 37 (.invokestatic 40) 3 40 := ⟨by decide +kernel, rfl⟩
theorem dX1_leastHits_40 : dc cX1_leastHits 40 (.istore_n 2) 1 41 := ⟨by decide +kernel, rfl⟩
theorem dX1_leastHits_41 : dc cX1_leastHits 41 (.iinc 3 1) 3 44 := ⟨by decide +kernel, rfl⟩
theorem dX1_leastHits_44 : dc cX1_leastHits 44 (.goto (-40)) 3 47 := ⟨by decide +kernel, rfl⟩
theorem dX1_leastHits_47 : dc cX1_leastHits 47 (.iload_n 2) 1 48 := ⟨by decide +kernel, rfl⟩
theorem dX1_leastHits_48 : dc cX1_leastHits 48 (.ireturn) 1 49 := ⟨by decide +kernel, rfl⟩
theorem dX1_mostHits_0 : dc cX1_mostHits 0 (.iload_n 1) 1 1 := ⟨by decide +kernel, rfl⟩
theorem dX1_mostHits_1 : dc cX1_mostHits 1 (.invokestatic 34) 3 4 := ⟨by decide +kernel, rfl⟩
theorem dX1_mostHits_4 : dc cX1_mostHits 4 (.istore_n 2) 1 5 := ⟨by decide +kernel, rfl⟩
theorem dX1_mostHits_5 : dc cX1_mostHits 5 (.iconst 0) 1 6 := ⟨by decide +kernel, rfl⟩
theorem dX1_mostHits_6 : dc cX1_mostHits 6 (.istore_n 3) 1 7 := ⟨by decide +kernel, rfl⟩
theorem dX1_mostHits_7 : dc cX1_mostHits 7 (.iload_n 3) 1 8 := ⟨by decide +kernel, rfl⟩
theorem dX1_mostHits_8 : dc cX1_mostHits 8 (.aload_n 0) 1 9 := ⟨by decide +kernel, rfl⟩
theorem dX1_mostHits_9 : dc cX1_mostHits 9 (.getfield 19) 3 12 := ⟨by decide +kernel, rfl⟩
theorem dX1_mostHits_12 : dc cX1_mostHits 12 (.if_icmp .ge 36) 3 15 := ⟨by decide +kernel, rfl⟩
theorem dX1_mostHits_15 : dc cX1_mostHits 15 (.aload_n 0) 1 16 := ⟨by decide +kernel, rfl⟩
theorem dX1_mostHits_16 : dc cX1_mostHits 16 (.getfield 24) 3 19 := ⟨by decide +kernel, rfl⟩
theorem dX1_mostHits_19 : dc cX1_mostHits 19 (.iload_n 3) 1 20 := ⟨by decide +kernel, rfl⟩
theorem dX1_mostHits_20 : dc cX1_mostHits 20 (.invokestatic 27) 3 23 := ⟨by decide +kernel, rfl⟩
theorem dX1_mostHits_23 : dc cX1_mostHits 23 (.ifCond .eq 19) 3 26 := ⟨by decide +kernel, rfl⟩
theorem dX1_mostHits_26 : dc cX1_mostHits 26 (.iload_n 2) 1 27 := ⟨by decide +kernel, rfl⟩
theorem dX1_mostHits_27 : dc cX1_mostHits 27 (.iload_n 1) 1 28 := ⟨by decide +kernel, rfl⟩
theorem dX1_mostHits_28 : dc cX1_mostHits 28 (.aload_n 0) 1 29 := ⟨by decide +kernel, rfl⟩
theorem dX1_mostHits_29 : dc cX1_mostHits 29 (.getfield 31) 3 32 := ⟨by decide +kernel, rfl⟩
theorem dX1_mostHits_32 : dc cX1_mostHits 32 (.iload_n 3) 1 33 := ⟨by decide +kernel, rfl⟩
theorem dX1_mostHits_33 : dc cX1_mostHits 33 (.iaload) 1 34 := ⟨by decide +kernel, rfl⟩
theorem dX1_mostHits_34 : dc cX1_mostHits 34 (.iand) 1 35 := ⟨by decide +kernel, rfl⟩
theorem dX1_mostHits_35 : dc cX1_mostHits 35 (.invokestatic 34) 3 38 := ⟨by decide +kernel, rfl⟩
theorem dX1_mostHits_38 : dc cX1_mostHits 38 (.invokestatic 46) 3 41 := ⟨by decide +kernel, rfl⟩
theorem dX1_mostHits_41 : dc cX1_mostHits 41 (.istore_n 2) 1 42 := ⟨by decide +kernel, rfl⟩
theorem dX1_mostHits_42 : dc cX1_mostHits 42 (.iinc 3 1) 3 45 := ⟨by decide +kernel, rfl⟩
theorem dX1_mostHits_45 : dc cX1_mostHits 45 (.goto (-38)) 3 48 := ⟨by decide +kernel, rfl⟩
theorem dX1_mostHits_48 : dc cX1_mostHits 48 (.iload_n 2) 1 49 := ⟨by decide +kernel, rfl⟩
theorem dX1_mostHits_49 : dc cX1_mostHits 49 (.ireturn) 1 50 := ⟨by decide +kernel, rfl⟩
theorem dX1_howMany_0 : dc cX1_howMany 0 (.aload_n 0) 1 1 := ⟨by decide +kernel, rfl⟩
theorem dX1_howMany_1 : dc cX1_howMany 1 (.aload_n 1) 1 2 := ⟨by decide +kernel, rfl⟩
theorem dX1_howMany_2 : dc cX1_howMany 2 (.invokevirtual 49) 3 5 := ⟨by decide +kernel, rfl⟩
theorem dX1_howMany_5 : dc cX1_howMany 5 (.aload_n 0) 1 6 := ⟨by decide +kernel, rfl⟩
theorem dX1_howMany_6 : dc cX1_howMany 6 (.getfield 15) 3 9 := ⟨by decide +kernel, rfl⟩
theorem dX1_howMany_9 : dc cX1_howMany 9 (.ireturn) 1 10 := ⟨by decide +kernel, rfl⟩
theorem dX1_lawAt_0 : dc cX1_lawAt 0 (.iload_n 2) 1 1 := ⟨by decide +kernel, rfl⟩
theorem dX1_lawAt_1 : dc cX1_lawAt 1 (.ifCond .ge 6) 3 4 := ⟨by decide +kernel, rfl⟩
theorem dX1_lawAt_4 : dc cX1_lawAt 4 (.bipush (-6)) 2 6 := ⟨by decide +kernel, rfl⟩
theorem dX1_lawAt_6 : dc cX1_lawAt 6 (.ireturn) 1 7 := ⟨by decide +kernel, rfl⟩
theorem dX1_lawAt_7 : dc cX1_lawAt 7 (.iconst 0) 1 8 := ⟨by decide +kernel, rfl⟩
theorem dX1_lawAt_8 : dc cX1_lawAt 8 (.istore_n 3) 1 9 := ⟨by decide +kernel, rfl⟩
theorem dX1_lawAt_9 : dc cX1_lawAt 9 (.iconst 1) 1 10 := ⟨by decide +kernel, rfl⟩
theorem dX1_lawAt_10 : dc cX1_lawAt 10 (.istore 4) 2 12 := ⟨by decide +kernel, rfl⟩
theorem dX1_lawAt_12 : dc cX1_lawAt 12 (.iload 4) 2 14 := ⟨by decide +kernel, rfl⟩
theorem dX1_lawAt_14 : dc cX1_lawAt 14 (.sipush 255) 3 17 := ⟨by decide +kernel, rfl⟩
theorem dX1_lawAt_17 : dc cX1_lawAt 17 (.if_icmp .gt 60) 3 20 := ⟨by decide +kernel, rfl⟩
theorem dX1_lawAt_20 : dc cX1_lawAt 20 (.aload_n 1) 1 21 := ⟨by decide +kernel, rfl⟩
theorem dX1_lawAt_21 : dc cX1_lawAt 21 (.iload 4) 2 23 := ⟨by decide +kernel, rfl⟩
theorem dX1_lawAt_23 : dc cX1_lawAt 23 (.invokestatic 53) 3 26 := ⟨by decide +kernel, rfl⟩
theorem dX1_lawAt_26 : dc cX1_lawAt 26 (.istore 5) 2 28 := ⟨by decide +kernel, rfl⟩
theorem dX1_lawAt_28 : dc cX1_lawAt 28 (.iconst 0) 1 29 := ⟨by decide +kernel, rfl⟩
theorem dX1_lawAt_29 : dc cX1_lawAt 29 (.aload_n 1) 1 30 := ⟨by decide +kernel, rfl⟩
theorem dX1_lawAt_30 : dc cX1_lawAt 30 (.iload 4) 2 32 := ⟨by decide +kernel, rfl⟩
theorem dX1_lawAt_32 : dc cX1_lawAt 32 (.invokestatic 57) 3 35 := ⟨by decide +kernel, rfl⟩
theorem dX1_lawAt_35 : dc cX1_lawAt 35 (.iload 5) 2 37 := ⟨by decide +kernel, rfl⟩
theorem dX1_lawAt_37 : dc cX1_lawAt 37 (.isub) 1 38 := ⟨by decide +kernel, rfl⟩
theorem dX1_lawAt_38 : dc cX1_lawAt 38 (.iconst 1) 1 39 := ⟨by decide +kernel, rfl⟩
theorem dX1_lawAt_39 : dc cX1_lawAt 39 (.iadd) 1 40 := ⟨by decide +kernel, rfl⟩
theorem dX1_lawAt_40 : dc cX1_lawAt 40 (.invokestatic 40) 3 43 := ⟨by decide +kernel, rfl⟩
theorem dX1_lawAt_43 : dc cX1_lawAt 43 (.istore 6) 2 45 := ⟨by decide +kernel, rfl⟩
theorem dX1_lawAt_45 : dc cX1_lawAt 45 (.iload_n 2) 1 46 := ⟨by decide +kernel, rfl⟩
theorem dX1_lawAt_46 : dc cX1_lawAt 46 (.iload_n 3) 1 47 := ⟨by decide +kernel, rfl⟩
theorem dX1_lawAt_47 : dc cX1_lawAt 47 (.isub) 1 48 := ⟨by decide +kernel, rfl⟩
theorem dX1_lawAt_48 : dc cX1_lawAt 48 (.iload 6) 2 50 := ⟨by decide +kernel, rfl⟩
theorem dX1_lawAt_50 : dc cX1_lawAt 50 (.if_icmp .ge 16) 3 53 := ⟨by decide +kernel, rfl⟩
theorem dX1_lawAt_53 : dc cX1_lawAt 53 (.bipush 10) 2 55 := ⟨by decide +kernel, rfl⟩
theorem dX1_lawAt_55 : dc cX1_lawAt 55 (.iload 4) 2 57 := ⟨by decide +kernel, rfl⟩
theorem dX1_lawAt_57 : dc cX1_lawAt 57 (.imul) 1 58 := ⟨by decide +kernel, rfl⟩
theorem dX1_lawAt_58 : dc cX1_lawAt 58 (.iload 5) 2 60 := ⟨by decide +kernel, rfl⟩
theorem dX1_lawAt_60 : dc cX1_lawAt 60 (.iadd) 1 61 := ⟨by decide +kernel, rfl⟩
theorem dX1_lawAt_61 : dc cX1_lawAt 61 (.iload_n 2) 1 62 := ⟨by decide +kernel, rfl⟩
theorem dX1_lawAt_62 : dc cX1_lawAt 62 (.iadd) 1 63 := ⟨by decide +kernel, rfl⟩
theorem dX1_lawAt_63 : dc cX1_lawAt 63 (.iload_n 3) 1 64 := ⟨by decide +kernel, rfl⟩
theorem dX1_lawAt_64 : dc cX1_lawAt 64 (.isub) 1 65 := ⟨by decide +kernel, rfl⟩
theorem dX1_lawAt_65 : dc cX1_lawAt 65 (.ireturn) 1 66 := ⟨by decide +kernel, rfl⟩
theorem dX1_lawAt_66 : dc cX1_lawAt 66 (.iload_n 3) 1 67 := ⟨by decide +kernel, rfl⟩
theorem dX1_lawAt_67 : dc cX1_lawAt 67 (.iload 6) 2 69 := ⟨by decide +kernel, rfl⟩
theorem dX1_lawAt_69 : dc cX1_lawAt 69 (.iadd) 1 70 := ⟨by decide +kernel, rfl⟩
theorem dX1_lawAt_70 : dc cX1_lawAt 70 (.istore_n 3) 1 71 := ⟨by decide +kernel, rfl⟩
theorem dX1_lawAt_71 : dc cX1_lawAt 71 (.iinc 4 1) 3 74 := ⟨by decide +kernel, rfl⟩
theorem dX1_lawAt_74 : dc cX1_lawAt 74 (.goto (-62)) 3 77 := ⟨by decide +kernel, rfl⟩
theorem dX1_lawAt_77 : dc cX1_lawAt 77 (.bipush (-6)) 2 79 := ⟨by decide +kernel, rfl⟩
theorem dX1_lawAt_79 : dc cX1_lawAt 79 (.ireturn) 1 80 := ⟨by decide +kernel, rfl⟩
theorem dX1_weigh_0 : dc cX1_weigh 0 (.aload_n 0) 1 1 := ⟨by decide +kernel, rfl⟩
theorem dX1_weigh_1 : dc cX1_weigh 1 (.iconst 0) 1 2 := ⟨by decide +kernel, rfl⟩
theorem dX1_weigh_2 : dc cX1_weigh 2 (.putfield 15) 3 5 := ⟨by decide +kernel, rfl⟩
theorem dX1_weigh_5 : dc cX1_weigh 5 (.iconst 0) 1 6 := ⟨by decide +kernel, rfl⟩
theorem dX1_weigh_6 : dc cX1_weigh 6 (.istore_n 2) 1 7 := ⟨by decide +kernel, rfl⟩
theorem dX1_weigh_7 : dc cX1_weigh 7 (.iload_n 2) 1 8 := ⟨by decide +kernel, rfl⟩
theorem dX1_weigh_8 : dc cX1_weigh 8 (.bipush 8) 2 10 := ⟨by decide +kernel, rfl⟩
theorem dX1_weigh_10 : dc cX1_weigh 10 (.if_icmp .ge 16) 3 13 := ⟨by decide +kernel, rfl⟩
theorem dX1_weigh_13 : dc cX1_weigh 13 (.aload_n 0) 1 14 := ⟨by decide +kernel, rfl⟩
theorem dX1_weigh_14 : dc cX1_weigh 14 (.getfield 9) 3 17 := ⟨by decide +kernel, rfl⟩
theorem dX1_weigh_17 : dc cX1_weigh 17 (.iload_n 2) 1 18 := ⟨by decide +kernel, rfl⟩
theorem dX1_weigh_18 : dc cX1_weigh 18 (.iconst 0) 1 19 := ⟨by decide +kernel, rfl⟩
theorem dX1_weigh_19 : dc cX1_weigh 19 (.iastore) 1 20 := ⟨by decide +kernel, rfl⟩
theorem dX1_weigh_20 : dc cX1_weigh 20 (.iinc 2 1) 3 23 := ⟨by decide +kernel, rfl⟩
theorem dX1_weigh_23 : dc cX1_weigh 23 (.goto (-16)) 3 26 := ⟨by decide +kernel, rfl⟩
theorem dX1_weigh_26 : dc cX1_weigh 26 (.iconst 1) 1 27 := ⟨by decide +kernel, rfl⟩
theorem dX1_weigh_27 : dc cX1_weigh 27 (.istore_n 2) 1 28 := ⟨by decide +kernel, rfl⟩
theorem dX1_weigh_28 : dc cX1_weigh 28 (.iload_n 2) 1 29 := ⟨by decide +kernel, rfl⟩
theorem dX1_weigh_29 : dc cX1_weigh 29 (.sipush 255) 3 32 := ⟨by decide +kernel, rfl⟩
theorem dX1_weigh_32 : dc cX1_weigh 32 (.if_icmp .gt 25) 3 35 := ⟨by decide +kernel, rfl⟩
theorem dX1_weigh_35 : dc cX1_weigh 35 (.aload_n 0) 1 36 := ⟨by decide +kernel, rfl⟩
theorem dX1_weigh_36 : dc cX1_weigh 36 (.aload_n 1) 1 37 := ⟨by decide +kernel, rfl⟩
theorem dX1_weigh_37 : dc cX1_weigh 37 (.iload_n 2) 1 38 := ⟨by decide +kernel, rfl⟩
theorem dX1_weigh_38 : dc cX1_weigh 38 (.aload_n 1) 1 39 := ⟨by decide +kernel, rfl⟩
theorem dX1_weigh_39 : dc cX1_weigh 39 (.iload_n 2) 1 40 := ⟨by decide +kernel, rfl⟩
theorem dX1_weigh_40 : dc cX1_weigh 40 (.invokestatic 53) 3 43 := ⟨by decide +kernel, rfl⟩
theorem dX1_weigh_43 : dc cX1_weigh 43 (.aload_n 1) 1 44 := ⟨by decide +kernel, rfl⟩
theorem dX1_weigh_44 : dc cX1_weigh 44 (.iload_n 2) 1 45 := ⟨by decide +kernel, rfl⟩
theorem dX1_weigh_45 : dc cX1_weigh 45 (.invokestatic 57) 3 48 := ⟨by decide +kernel, rfl⟩
theorem dX1_weigh_48 : dc cX1_weigh 48 (.invokevirtual 60) 3 51 := ⟨by decide +kernel, rfl⟩
theorem dX1_weigh_51 : dc cX1_weigh 51 (.iinc 2 1) 3 54 := ⟨by decide +kernel, rfl⟩
theorem dX1_weigh_54 : dc cX1_weigh 54 (.goto (-26)) 3 57 := ⟨by decide +kernel, rfl⟩
theorem dX1_weigh_57 : dc cX1_weigh 57 (.return_) 1 58 := ⟨by decide +kernel, rfl⟩
theorem dX1_weighWants_0 : dc cX1_weighWants 0 (.iload_n 3) 1 1 := ⟨by decide +kernel, rfl⟩
theorem dX1_weighWants_1 : dc cX1_weighWants 1 (.iload 4) 2 3 := ⟨by decide +kernel, rfl⟩
theorem dX1_weighWants_3 : dc cX1_weighWants 3 (.if_icmp .le 4) 3 6 := ⟨by decide +kernel, rfl⟩
theorem dX1_weighWants_6 : dc cX1_weighWants 6 (.return_) 1 7 := ⟨by decide +kernel, rfl⟩
theorem dX1_weighWants_7 : dc cX1_weighWants 7 (.aload_n 0) 1 8 := ⟨by decide +kernel, rfl⟩
theorem dX1_weighWants_8 : dc cX1_weighWants 8 (.dup) 1 9 := ⟨by decide +kernel, rfl⟩
theorem dX1_weighWants_9 : dc cX1_weighWants 9 (.getfield 15) 3 12 := ⟨by decide +kernel, rfl⟩
theorem dX1_weighWants_12 : dc cX1_weighWants 12 (.iload 4) 2 14 := ⟨by decide +kernel, rfl⟩
theorem dX1_weighWants_14 : dc cX1_weighWants 14 (.iload_n 3) 1 15 := ⟨by decide +kernel, rfl⟩
theorem dX1_weighWants_15 : dc cX1_weighWants 15 (.isub) 1 16 := ⟨by decide +kernel, rfl⟩
theorem dX1_weighWants_16 : dc cX1_weighWants 16 (.iconst 1) 1 17 := ⟨by decide +kernel, rfl⟩
theorem dX1_weighWants_17 : dc cX1_weighWants 17 (.iadd) 1 18 := ⟨by decide +kernel, rfl⟩
theorem dX1_weighWants_18 : dc cX1_weighWants 18 (.iadd) 1 19 := ⟨by decide +kernel, rfl⟩
theorem dX1_weighWants_19 : dc cX1_weighWants 19 (.putfield 15) 3 22 := ⟨by decide +kernel, rfl⟩
theorem dX1_weighWants_22 : dc cX1_weighWants 22 (.iconst 0) 1 23 := ⟨by decide +kernel, rfl⟩
theorem dX1_weighWants_23 : dc cX1_weighWants 23 (.istore 5) 2 25 := ⟨by decide +kernel, rfl⟩
theorem dX1_weighWants_25 : dc cX1_weighWants 25 (.iload 5) 2 27 := ⟨by decide +kernel, rfl⟩
theorem dX1_weighWants_27 : dc cX1_weighWants 27 (.bipush 8) 2 29 := ⟨by decide +kernel, rfl⟩
theorem dX1_weighWants_29 : dc cX1_weighWants 29 (.if_icmp .ge 48) 3 32 := ⟨by decide +kernel, rfl⟩
theorem dX1_weighWants_32 : dc cX1_weighWants 32 (.iload 4) 2 34 := ⟨by decide +kernel, rfl⟩
theorem dX1_weighWants_34 : dc cX1_weighWants 34 (.iload_n 2) 1 35 := ⟨by decide +kernel, rfl⟩
theorem dX1_weighWants_35 : dc cX1_weighWants 35 (.aload_n 1) 1 36 := ⟨by decide +kernel, rfl⟩
theorem dX1_weighWants_36 : dc cX1_weighWants 36 (.getfield 64) 3 39 := ⟨by decide +kernel, rfl⟩
theorem dX1_weighWants_39 : dc cX1_weighWants 39 (.iload 5) 2 41 := ⟨by decide +kernel, rfl⟩
theorem dX1_weighWants_41 : dc cX1_weighWants 41 (.iaload) 1 42 := ⟨by decide +kernel, rfl⟩
theorem dX1_weighWants_42 : dc cX1_weighWants 42 (.iand) 1 43 := ⟨by decide +kernel, rfl⟩
theorem dX1_weighWants_43 : dc cX1_weighWants 43 (.invokestatic 34) 3 46 := ⟨by decide +kernel, rfl⟩
theorem dX1_weighWants_46 : dc cX1_weighWants 46 (.invokestatic 46) 3 49 := ⟨by decide +kernel, rfl⟩
theorem dX1_weighWants_49 : dc cX1_weighWants 49 (.istore 6) 2 51 := ⟨by decide +kernel, rfl⟩
theorem dX1_weighWants_51 : dc cX1_weighWants 51 (.aload_n 0) 1 52 := ⟨by decide +kernel, rfl⟩
theorem dX1_weighWants_52 : dc cX1_weighWants 52 (.getfield 9) 3 55 := ⟨by decide +kernel, rfl⟩
theorem dX1_weighWants_55 : dc cX1_weighWants 55 (.iload 5) 2 57 := ⟨by decide +kernel, rfl⟩
theorem dX1_weighWants_57 : dc cX1_weighWants 57 (.dup2) 1 58 := ⟨by decide +kernel, rfl⟩
theorem dX1_weighWants_58 : dc cX1_weighWants 58 (.iaload) 1 59 := ⟨by decide +kernel, rfl⟩
theorem dX1_weighWants_59 : dc cX1_weighWants 59 (.iconst 0) 1 60 := ⟨by decide +kernel, rfl⟩
theorem dX1_weighWants_60 : dc cX1_weighWants 60 (.iload 6) 2 62 := ⟨by decide +kernel, rfl⟩
theorem dX1_weighWants_62 : dc cX1_weighWants 62 (.iload_n 3) 1 63 := ⟨by decide +kernel, rfl⟩
theorem dX1_weighWants_63 : dc cX1_weighWants 63 (.isub) 1 64 := ⟨by decide +kernel, rfl⟩
theorem dX1_weighWants_64 : dc cX1_weighWants 64 (.iconst 1) 1 65 := ⟨by decide +kernel, rfl⟩
theorem dX1_weighWants_65 : dc cX1_weighWants 65 (.iadd) 1 66 := ⟨by decide +kernel, rfl⟩
theorem dX1_weighWants_66 : dc cX1_weighWants 66 (.invokestatic 40) 3 69 := ⟨by decide +kernel, rfl⟩
theorem dX1_weighWants_69 : dc cX1_weighWants 69 (.iadd) 1 70 := ⟨by decide +kernel, rfl⟩
theorem dX1_weighWants_70 : dc cX1_weighWants 70 (.iastore) 1 71 := ⟨by decide +kernel, rfl⟩
theorem dX1_weighWants_71 : dc cX1_weighWants 71 (.iinc 5 1) 3 74 := ⟨by decide +kernel, rfl⟩
theorem dX1_weighWants_74 : dc cX1_weighWants 74 (.goto (-49)) 3 77 := ⟨by decide +kernel, rfl⟩
theorem dX1_weighWants_77 : dc cX1_weighWants 77 (.return_) 1 78 := ⟨by decide +kernel, rfl⟩
theorem dX1_mostLeft_0 : dc cX1_mostLeft 0 (.iload_n 1) 1 1 := ⟨by decide +kernel, rfl⟩
theorem dX1_mostLeft_1 : dc cX1_mostLeft 1 (.invokestatic 67) 3 4 := ⟨by decide +kernel, rfl⟩
theorem dX1_mostLeft_4 : dc cX1_mostLeft 4 (.ifCond .eq 26) 3 7 := ⟨by decide +kernel, rfl⟩
theorem dX1_mostLeft_7 : dc cX1_mostLeft 7 (.aload_n 0) 1 8 := ⟨by decide +kernel, rfl⟩
theorem dX1_mostLeft_8 : dc cX1_mostLeft 8 (.getfield 9) 3 11 := ⟨by decide +kernel, rfl⟩
theorem dX1_mostLeft_11 : dc cX1_mostLeft 11 (.iload_n 1) 1 12 := ⟨by decide +kernel, rfl⟩
theorem dX1_mostLeft_12 : dc cX1_mostLeft 12 (.iaload) 1 13 := ⟨by decide +kernel, rfl⟩
theorem dX1_mostLeft_13 : dc cX1_mostLeft 13 (.aload_n 0) 1 14 := ⟨by decide +kernel, rfl⟩
theorem dX1_mostLeft_14 : dc cX1_mostLeft 14 (.getfield 15) 3 17 := ⟨by decide +kernel, rfl⟩
theorem dX1_mostLeft_17 : dc cX1_mostLeft 17 (.aload_n 0) 1 18 := ⟨by decide +kernel, rfl⟩
theorem dX1_mostLeft_18 : dc cX1_mostLeft 18 (.getfield 9) 3 21 := ⟨by decide +kernel, rfl⟩
theorem dX1_mostLeft_21 : dc cX1_mostLeft 21 (.iload_n 1) 1 22 := ⟨by decide +kernel, rfl⟩
theorem dX1_mostLeft_22 : dc cX1_mostLeft 22 (.iaload) 1 23 := ⟨by decide +kernel, rfl⟩
theorem dX1_mostLeft_23 : dc cX1_mostLeft 23 (.isub) 1 24 := ⟨by decide +kernel, rfl⟩
theorem dX1_mostLeft_24 : dc cX1_mostLeft 24 (.invokestatic 40) 3 27 := ⟨by decide +kernel, rfl⟩
theorem dX1_mostLeft_27 : dc cX1_mostLeft 27 (.goto 5) 3 30 := ⟨by decide +kernel, rfl⟩
theorem dX1_mostLeft_30 : dc cX1_mostLeft 30 (.bipush (-6)) 2 32 := ⟨by decide +kernel, rfl⟩
theorem dX1_mostLeft_32 : dc cX1_mostLeft 32 (.ireturn) 1 33 := ⟨by decide +kernel, rfl⟩
theorem dX1_soulToTry_0 : dc cX1_soulToTry 0 (.bipush (-6)) 2 2 := ⟨by decide +kernel, rfl⟩
theorem dX1_soulToTry_2 : dc cX1_soulToTry 2 (.istore_n 2) 1 3 := ⟨by decide +kernel, rfl⟩
theorem dX1_soulToTry_3 : dc cX1_soulToTry 3 (.iconst 0) 1 4 := ⟨by decide +kernel, rfl⟩
theorem dX1_soulToTry_4 : dc cX1_soulToTry 4 (.istore_n 3) 1 5 := ⟨by decide +kernel, rfl⟩
theorem dX1_soulToTry_5 : dc cX1_soulToTry 5 (.iload_n 3) 1 6 := ⟨by decide +kernel, rfl⟩
theorem dX1_soulToTry_6 : dc cX1_soulToTry 6 (.bipush 8) 2 8 := ⟨by decide +kernel, rfl⟩
theorem dX1_soulToTry_8 : dc cX1_soulToTry 8 (.if_icmp .ge 45) 3 11 := ⟨by decide +kernel, rfl⟩
theorem dX1_soulToTry_11 : dc cX1_soulToTry 11 (.aload_n 0) 1 12 := ⟨by decide +kernel, rfl⟩
theorem dX1_soulToTry_12 : dc cX1_soulToTry 12 (.getfield 15) 3 15 := ⟨by decide +kernel, rfl⟩
theorem dX1_soulToTry_15 : dc cX1_soulToTry 15 (.ifCond .le 38) 3 18 := ⟨by decide +kernel, rfl⟩
theorem dX1_soulToTry_18 : dc cX1_soulToTry 18 (.aload_n 1) 1 19 := ⟨by decide +kernel, rfl⟩
theorem dX1_soulToTry_19 : dc cX1_soulToTry 19 (.iload_n 3) 1 20 := ⟨by decide +kernel, rfl⟩
theorem dX1_soulToTry_20 : dc cX1_soulToTry 20 (.invokevirtual 71) 3 23 := ⟨by decide +kernel, rfl⟩
theorem dX1_soulToTry_23 : dc cX1_soulToTry 23 (.ifCond .eq 24) 3 26 := ⟨by decide +kernel, rfl⟩
theorem dX1_soulToTry_26 : dc cX1_soulToTry 26 (.iload_n 2) 1 27 := ⟨by decide +kernel, rfl⟩
theorem dX1_soulToTry_27 : dc cX1_soulToTry 27 (.bipush (-6)) 2 29 := ⟨by decide +kernel, rfl⟩
theorem dX1_soulToTry_29 : dc cX1_soulToTry 29 (.if_icmp .eq 16) 3 32 := ⟨by decide +kernel, rfl⟩
theorem dX1_soulToTry_32 : dc cX1_soulToTry 32 (.aload_n 0) 1 33 := ⟨by decide +kernel, rfl⟩
theorem dX1_soulToTry_33 : dc cX1_soulToTry 33 (.iload_n 3) 1 34 := ⟨by decide +kernel, rfl⟩
theorem dX1_soulToTry_34 : dc cX1_soulToTry 34 (.invokevirtual 74) 3 37 := ⟨by decide +kernel, rfl⟩
theorem dX1_soulToTry_37 : dc cX1_soulToTry 37 (.aload_n 0) 1 38 := ⟨by decide +kernel, rfl⟩
theorem dX1_soulToTry_38 : dc cX1_soulToTry 38 (.iload_n 2) 1 39 := ⟨by decide +kernel, rfl⟩
theorem dX1_soulToTry_39 : dc cX1_soulToTry 39 (.invokevirtual 74) 3 42 := ⟨by decide +kernel, rfl⟩
theorem dX1_soulToTry_42 : dc cX1_soulToTry 42 (.if_icmp .ge 5) 3 45 := ⟨by decide +kernel, rfl⟩
theorem dX1_soulToTry_45 : dc cX1_soulToTry 45 (.iload_n 3) 1 46 := ⟨by decide +kernel, rfl⟩
theorem dX1_soulToTry_46 : dc cX1_soulToTry 46 (.istore_n 2) 1 47 := ⟨by decide +kernel, rfl⟩
theorem dX1_soulToTry_47 : dc cX1_soulToTry 47 (.iinc 3 1) 3 50 := ⟨by decide +kernel, rfl⟩
theorem dX1_soulToTry_50 : dc cX1_soulToTry 50 (.goto (-45)) 3 53 := ⟨by decide +kernel, rfl⟩
theorem dX1_soulToTry_53 : dc cX1_soulToTry 53 (.iload_n 2) 1 54 := ⟨by decide +kernel, rfl⟩
theorem dX1_soulToTry_54 : dc cX1_soulToTry 54 (.ireturn) 1 55 := ⟨by decide +kernel, rfl⟩
theorem dX2_init_0 : dc cX2_init 0 (.aload_n 0) 1 1 := ⟨by decide +kernel, rfl⟩
theorem dX2_init_1 : dc cX2_init 1 (.invokespecial 3) 3 4 := ⟨by decide +kernel, rfl⟩
theorem dX2_init_4 : dc cX2_init 4 (.aload_n 0) 1 5 := ⟨by decide +kernel, rfl⟩
theorem dX2_init_5 : dc cX2_init 5 (.sipush 576) 3 8 := ⟨by decide +kernel, rfl⟩
theorem dX2_init_8 : dc cX2_init 8 (.newarray .int) 2 10 := ⟨by decide +kernel, rfl⟩
theorem dX2_init_10 : dc cX2_init 10 (.putfield 11) 3 13 := ⟨by decide +kernel, rfl⟩
theorem dX2_init_13 : dc cX2_init 13 (.return_) 1 14 := ⟨by decide +kernel, rfl⟩
theorem dX2_weigh_0 : dc cX2_weigh 0 (.bipush 7) 2 2 := ⟨by decide +kernel, rfl⟩
theorem dX2_weigh_2 : dc cX2_weigh 2 (.istore_n 2) 1 3 := ⟨by decide +kernel, rfl⟩
theorem dX2_weigh_3 : dc cX2_weigh 3 (.iload_n 2) 1 4 := ⟨by decide +kernel, rfl⟩
theorem dX2_weigh_4 : dc cX2_weigh 4 (.ifCond .lt 55) 3 7 := ⟨by decide +kernel, rfl⟩
theorem dX2_weigh_7 : dc cX2_weigh 7 (.aload_n 1) 1 8 := ⟨by decide +kernel, rfl⟩
theorem dX2_weigh_8 : dc cX2_weigh 8 (.iload_n 2) 1 9 := ⟨by decide +kernel, rfl⟩
theorem dX2_weigh_9 : dc cX2_weigh 9 (.invokevirtual 15) 3 12 := ⟨by decide +kernel, rfl⟩
theorem dX2_weigh_12 : dc cX2_weigh 12 (.istore_n 3) 1 13 := ⟨by decide +kernel, rfl⟩
theorem dX2_weigh_13 : dc cX2_weigh 13 (.iconst 0) 1 14 := ⟨by decide +kernel, rfl⟩
theorem dX2_weigh_14 : dc cX2_weigh 14 (.istore 4) 2 16 := ⟨by decide +kernel, rfl⟩
theorem dX2_weigh_16 : dc cX2_weigh 16 (.iload 4) 2 18 := ⟨by decide +kernel, rfl⟩
theorem dX2_weigh_18 : dc cX2_weigh 18 (.bipush 64) 2 20 := ⟨by decide +kernel, rfl⟩
theorem dX2_weigh_20 : dc cX2_weigh 20 (.if_icmp .ge 33) 3 23 := ⟨by decide +kernel, rfl⟩
theorem dX2_weigh_23 : dc cX2_weigh 23 (.aload_n 0) 1 24 := ⟨by decide +kernel, rfl⟩
theorem dX2_weigh_24 : dc cX2_weigh 24 (.getfield 11) 3 27 := ⟨by decide +kernel, rfl⟩
theorem dX2_weigh_27 : dc cX2_weigh 27 (.iload_n 2) 1 28 := ⟨by decide +kernel, rfl⟩
theorem dX2_weigh_28 : dc cX2_weigh 28 (.bipush 64) 2 30 := ⟨by decide +kernel, rfl⟩
theorem dX2_weigh_30 : dc cX2_weigh 30 (.imul) 1 31 := ⟨by decide +kernel, rfl⟩
theorem dX2_weigh_31 : dc cX2_weigh 31 (.iload 4) 2 33 := ⟨by decide +kernel, rfl⟩
theorem dX2_weigh_33 : dc cX2_weigh 33 (.iadd) 1 34 := ⟨by decide +kernel, rfl⟩
theorem dX2_weigh_34 : dc cX2_weigh 34 (.aload_n 0) 1 35 := ⟨by decide +kernel, rfl⟩
theorem dX2_weigh_35 : dc cX2_weigh 35 (.aload_n 1) 1 36 := ⟨by decide +kernel, rfl⟩
theorem dX2_weigh_36 : dc cX2_weigh 36 (.iload_n 2) 1 37 := ⟨by decide +kernel, rfl⟩
theorem dX2_weigh_37 : dc cX2_weigh 37 (.iload_n 3) 1 38 := ⟨by decide +kernel, rfl⟩
theorem dX2_weigh_38 : dc cX2_weigh 38 (.iload 4) 2 40 := ⟨by decide +kernel, rfl⟩
theorem dX2_weigh_40 : dc cX2_weigh 40 (.iand) 1 41 := ⟨by decide +kernel, rfl⟩
theorem dX2_weigh_41 : dc cX2_weigh 41 (.iload 4) 2 43 := ⟨by decide +kernel, rfl⟩
theorem dX2_weigh_43 : dc cX2_weigh 43 (.invokevirtual 21) 3 46 := ⟨by decide +kernel, rfl⟩
theorem dX2_weigh_46 : dc cX2_weigh 46 (.iastore) 1 47 := ⟨by decide +kernel, rfl⟩
theorem dX2_weigh_47 : dc cX2_weigh 47 (.iinc 4 1) 3 50 := ⟨by decide +kernel, rfl⟩
theorem dX2_weigh_50 : dc cX2_weigh 50 (.goto (-34)) 3 53 := ⟨by decide +kernel, rfl⟩
theorem dX2_weigh_53 : dc cX2_weigh 53 (.iinc 2 (-1)) 3 56 := ⟨by decide +kernel, rfl⟩
theorem dX2_weigh_56 : dc cX2_weigh 56 (.goto (-53)) 3 59 := ⟨by decide +kernel, rfl⟩
theorem dX2_weigh_59 : dc cX2_weigh 59 (.return_) 1 60 := ⟨by decide +kernel, rfl⟩
theorem dX2_mostOf_0 : dc cX2_mostOf 0 (.aload_n 0) 1 1 := ⟨by decide +kernel, rfl⟩
theorem dX2_mostOf_1 : dc cX2_mostOf 1 (.iload_n 2) 1 2 := ⟨by decide +kernel, rfl⟩
theorem dX2_mostOf_2 : dc cX2_mostOf 2 (.iload 4) 2 4 := ⟨by decide +kernel, rfl⟩
theorem dX2_mostOf_4 : dc cX2_mostOf 4 (.invokevirtual 25) 3 7 := ⟨by decide +kernel, rfl⟩
theorem dX2_mostOf_7 : dc cX2_mostOf 7 (.istore 5) 2 9 := ⟨by decide +kernel, rfl⟩
theorem dX2_mostOf_9 : dc cX2_mostOf 9 (.iconst 0) 1 10 := ⟨by decide +kernel, rfl⟩
theorem dX2_mostOf_10 : dc cX2_mostOf 10 (.istore 6) 2 12 := ⟨by decide +kernel, rfl⟩
theorem dX2_mostOf_12 : dc cX2_mostOf 12 (.iload 6) 2 14 := ⟨by decide +kernel, rfl⟩
theorem dX2_mostOf_14 : dc cX2_mostOf 14 (.bipush 6) 2 16 := ⟨by decide +kernel, rfl⟩
theorem dX2_mostOf_16 : dc cX2_mostOf 16 (.if_icmp .ge 42) 3 19 := ⟨by decide +kernel, rfl⟩
theorem dX2_mostOf_19 : dc cX2_mostOf 19 (.iload_n 3) 1 20 := ⟨by decide +kernel, rfl⟩
theorem dX2_mostOf_20 : dc cX2_mostOf 20 (.iload 6) 2 22 := ⟨by decide +kernel, rfl⟩
theorem dX2_mostOf_22 : dc cX2_mostOf 22 (.ishr) 1 23 := ⟨by decide +kernel, rfl⟩
theorem dX2_mostOf_23 : dc cX2_mostOf 23 (.ifCond .eq 35) 3 26 := ⟨by decide +kernel, rfl⟩
theorem dX2_mostOf_26 : dc cX2_mostOf 26 (.iload_n 3) 1 27 := ⟨by decide +kernel, rfl⟩
theorem dX2_mostOf_27 : dc cX2_mostOf 27 (.iload 6) 2 29 := ⟨by decide +kernel, rfl⟩
theorem dX2_mostOf_29 : dc cX2_mostOf 29 (.invokestatic 29) 3 32 := ⟨by decide +kernel, rfl⟩
theorem dX2_mostOf_32 : dc cX2_mostOf 32 (.ifCond .eq 20) 3 35 := ⟨by decide +kernel, rfl⟩
theorem dX2_mostOf_35 : dc cX2_mostOf 35 (.iload 5) 2 37 := ⟨by decide +kernel, rfl⟩
theorem dX2_mostOf_37 : dc cX2_mostOf 37 (.aload_n 0) 1 38 := ⟨by decide +kernel, rfl⟩
theorem dX2_mostOf_38 : dc cX2_mostOf 38 (.aload_n 1) 1 39 := ⟨by decide +kernel, rfl⟩
theorem dX2_mostOf_39 : dc cX2_mostOf 39 (.iload_n 2) 1 40 := ⟨by decide +kernel, rfl⟩
theorem dX2_mostOf_40 : dc cX2_mostOf 40 (.iload 6) 2 42 := ⟨by decide +kernel, rfl⟩
theorem dX2_mostOf_42 : dc cX2_mostOf 42 (.iload 4) 2 44 := ⟨by decide +kernel, rfl⟩
theorem dX2_mostOf_44 : dc cX2_mostOf 44 (.invokevirtual 33) 3 47 := ⟨by decide +kernel, rfl⟩
theorem dX2_mostOf_47 : dc cX2_mostOf 47 (.invokestatic 36) 3 50 := ⟨by decide +kernel, rfl⟩
theorem dX2_mostOf_50 : dc cX2_mostOf 50 (.istore 5) 2 52 := ⟨by decide +kernel, rfl⟩
theorem dX2_mostOf_52 : dc cX2_mostOf 52 (.iinc 6 1) 3 55 := ⟨by decide +kernel, rfl⟩
theorem dX2_mostOf_55 : dc cX2_mostOf 55 (.goto (-43)) 3 58 := ⟨by decide +kernel, rfl⟩
theorem dX2_mostOf_58 : dc cX2_mostOf 58 (.iload 5) 2 60 := ⟨by decide +kernel, rfl⟩
theorem dX2_mostOf_60 : dc cX2_mostOf 60 (.ireturn) 1 61 := ⟨by decide +kernel, rfl⟩
theorem dX2_mostBehind_0 : dc cX2_mostBehind 0 (.aload_n 0) 1 1 := ⟨by decide +kernel, rfl⟩
theorem dX2_mostBehind_1 : dc cX2_mostBehind 1 (.getfield 11) 3 4 := ⟨by decide +kernel, rfl⟩
theorem dX2_mostBehind_4 : dc cX2_mostBehind 4 (.iload_n 1) 1 5 := ⟨by decide +kernel, rfl⟩
theorem dX2_mostBehind_5 : dc cX2_mostBehind 5 (.iconst 1) 1 6 := ⟨by decide +kernel, rfl⟩
theorem dX2_mostBehind_6 : dc cX2_mostBehind 6 (.iadd) 1 7 := ⟨by decide +kernel, rfl⟩
theorem dX2_mostBehind_7 : dc cX2_mostBehind 7 (.bipush 64) 2 9 := ⟨by decide +kernel, rfl⟩
theorem dX2_mostBehind_9 : dc cX2_mostBehind 9 (.imul) 1 10 := ⟨by decide +kernel, rfl⟩
theorem dX2_mostBehind_10 : dc cX2_mostBehind 10 (.iload_n 2) 1 11 := ⟨by decide +kernel, rfl⟩
theorem dX2_mostBehind_11 : dc cX2_mostBehind 11 (.iadd) 1 12 := ⟨by decide +kernel, rfl⟩
theorem dX2_mostBehind_12 : dc cX2_mostBehind 12 (.iaload) 1 13 := ⟨by decide +kernel, rfl⟩
theorem dX2_mostBehind_13 : dc cX2_mostBehind 13 (.ireturn) 1 14 := ⟨by decide +kernel, rfl⟩
theorem dX2_mostWith_0 : dc cX2_mostWith 0 (.aload_n 1) 1 1 := ⟨by decide +kernel, rfl⟩
theorem dX2_mostWith_1 : dc cX2_mostWith 1 (.getfield 41) 3 4 := ⟨by decide +kernel, rfl⟩
theorem dX2_mostWith_4 : dc cX2_mostWith 4 (.iload_n 3) 1 5 := ⟨by decide +kernel, rfl⟩
theorem dX2_mostWith_5 : dc cX2_mostWith 5 (.iaload) 1 6 := ⟨by decide +kernel, rfl⟩
theorem dX2_mostWith_6 : dc cX2_mostWith 6 (.aload_n 0) 1 7 := ⟨by decide +kernel, rfl⟩
theorem dX2_mostWith_7 : dc cX2_mostWith 7 (.iload_n 2) 1 8 := ⟨by decide +kernel, rfl⟩
theorem dX2_mostWith_8 : dc cX2_mostWith 8 (.iload 4) 2 10 := ⟨by decide +kernel, rfl⟩
theorem dX2_mostWith_10 : dc cX2_mostWith 10 (.iconst 1) 1 11 := ⟨by decide +kernel, rfl⟩
theorem dX2_mostWith_11 : dc cX2_mostWith 11 (.iload_n 3) 1 12 := ⟨by decide +kernel, rfl⟩
theorem dX2_mostWith_12 : dc cX2_mostWith 12 (.ishl) 1 13 := ⟨by decide +kernel, rfl⟩
theorem dX2_mostWith_13 : dc cX2_mostWith 13 (.iconst (-1)) 1 14 := ⟨by decide +kernel, rfl⟩
theorem dX2_mostWith_14 : dc cX2_mostWith 14 (.ixor) 1 15 := ⟨by decide +kernel, rfl⟩
theorem dX2_mostWith_15 : dc cX2_mostWith 15 (.iand) 1 16 := ⟨by decide +kernel, rfl⟩
theorem dX2_mostWith_16 : dc cX2_mostWith 16 (.invokevirtual 25) 3 19 := ⟨by decide +kernel, rfl⟩
theorem dX2_mostWith_19 : dc cX2_mostWith 19 (.iadd) 1 20 := ⟨by decide +kernel, rfl⟩
theorem dX2_mostWith_20 : dc cX2_mostWith 20 (.ireturn) 1 21 := ⟨by decide +kernel, rfl⟩
theorem dX2_mostTogether_0 : dc cX2_mostTogether 0 (.aload_n 0) 1 1 := ⟨by decide +kernel, rfl⟩
theorem dX2_mostTogether_1 : dc cX2_mostTogether 1 (.getfield 11) 3 4 := ⟨by decide +kernel, rfl⟩
theorem dX2_mostTogether_4 : dc cX2_mostTogether 4 (.bipush 63) 2 6 := ⟨by decide +kernel, rfl⟩
theorem dX2_mostTogether_6 : dc cX2_mostTogether 6 (.iaload) 1 7 := ⟨by decide +kernel, rfl⟩
theorem dX2_mostTogether_7 : dc cX2_mostTogether 7 (.ireturn) 1 8 := ⟨by decide +kernel, rfl⟩
theorem dX2_boxOf_0 : dc cX2_boxOf 0 (.bipush 63) 2 2 := ⟨by decide +kernel, rfl⟩
theorem dX2_boxOf_2 : dc cX2_boxOf 2 (.istore_n 3) 1 3 := ⟨by decide +kernel, rfl⟩
theorem dX2_boxOf_3 : dc cX2_boxOf 3 (.bipush (-6)) 2 5 := ⟨by decide +kernel, rfl⟩
theorem dX2_boxOf_5 : dc cX2_boxOf 5 (.istore 4) 2 7 := ⟨by decide +kernel, rfl⟩
theorem dX2_boxOf_7 : dc cX2_boxOf 7 (.iconst 0) 1 8 := ⟨by decide +kernel, rfl⟩
theorem dX2_boxOf_8 : dc cX2_boxOf 8 (.istore 5) 2 10 := ⟨by decide +kernel, rfl⟩
theorem dX2_boxOf_10 : dc cX2_boxOf 10 (.iload 5) 2 12 := ⟨by decide +kernel, rfl⟩
theorem dX2_boxOf_12 : dc cX2_boxOf 12 (.bipush 8) 2 14 := ⟨by decide +kernel, rfl⟩
theorem dX2_boxOf_14 : dc cX2_boxOf 14 (.if_icmp .ge 45) 3 17 := ⟨by decide +kernel, rfl⟩
theorem dX2_boxOf_17 : dc cX2_boxOf 17 (.iload 5) 2 19 := ⟨by decide +kernel, rfl⟩
theorem dX2_boxOf_19 : dc cX2_boxOf 19 (.iload_n 2) 1 20 := ⟨by decide +kernel, rfl⟩
theorem dX2_boxOf_20 : dc cX2_boxOf 20 (.if_icmp .gt 39) 3 23 := ⟨by decide +kernel, rfl⟩
theorem dX2_boxOf_23 : dc cX2_boxOf 23 (.aload_n 0) 1 24 := ⟨by decide +kernel, rfl⟩
theorem dX2_boxOf_24 : dc cX2_boxOf 24 (.aload_n 1) 1 25 := ⟨by decide +kernel, rfl⟩
theorem dX2_boxOf_25 : dc cX2_boxOf 25 (.iload 5) 2 27 := ⟨by decide +kernel, rfl⟩
theorem dX2_boxOf_27 : dc cX2_boxOf 27 (.iload_n 3) 1 28 := ⟨by decide +kernel, rfl⟩
theorem dX2_boxOf_28 : dc cX2_boxOf 28 (.invokevirtual 44) 3 31 := ⟨by decide +kernel, rfl⟩
theorem dX2_boxOf_31 : dc cX2_boxOf 31 (.istore 4) 2 33 := ⟨by decide +kernel, rfl⟩
theorem dX2_boxOf_33 : dc cX2_boxOf 33 (.iload 4) 2 35 := ⟨by decide +kernel, rfl⟩
theorem dX2_boxOf_35 : dc cX2_boxOf 35 (.bipush (-6)) 2 37 := ⟨by decide +kernel, rfl⟩
theorem dX2_boxOf_37 : dc cX2_boxOf 37 (.if_icmp .ne 7) 3 40 := ⟨by decide +kernel, rfl⟩
theorem dX2_boxOf_40 : dc cX2_boxOf 40 (.iload_n 3) 1 41 := ⟨by decide +kernel, rfl⟩
theorem dX2_boxOf_41 : dc cX2_boxOf 41 (.goto 11) 3 44 := ⟨by decide +kernel, rfl⟩
theorem dX2_boxOf_44 : dc cX2_boxOf 44 (.iload_n 3) 1 45 := ⟨by decide +kernel, rfl⟩
theorem dX2_boxOf_45 : dc cX2_boxOf 45 (.iconst 1) 1 46 := ⟨by decide +kernel, rfl⟩
theorem dX2_boxOf_46 : dc cX2_boxOf 46 (.iload 4) 2 48 := ⟨by decide +kernel, rfl⟩
theorem dX2_boxOf_48 : dc cX2_boxOf 48 (.ishl) 1 49 := ⟨by decide +kernel, rfl⟩
theorem dX2_boxOf_49 : dc cX2_boxOf 49 (.iconst (-1)) 1 50 := ⟨by decide +kernel, rfl⟩
theorem dX2_boxOf_50 : dc cX2_boxOf 50 (.ixor) 1 51 := ⟨by decide +kernel, rfl⟩
theorem dX2_boxOf_51 : dc cX2_boxOf 51 (.iand) 1 52 := ⟨by decide +kernel, rfl⟩
theorem dX2_boxOf_52 : dc cX2_boxOf 52 (.istore_n 3) 1 53 := ⟨by decide +kernel, rfl⟩
theorem dX2_boxOf_53 : dc cX2_boxOf 53 (.iinc 5 1) 3 56 := ⟨by decide +kernel, rfl⟩
theorem dX2_boxOf_56 : dc cX2_boxOf 56 (.goto (-46)) 3 59 := ⟨by decide +kernel, rfl⟩
theorem dX2_boxOf_59 : dc cX2_boxOf 59 (.iload 4) 2 61 := ⟨by decide +kernel, rfl⟩
theorem dX2_boxOf_61 : dc cX2_boxOf 61 (.ireturn) 1 62 := ⟨by decide +kernel, rfl⟩
theorem dX2_leastBestBox_0 : dc cX2_leastBestBox 0 (.aload_n 1) 1 1 := ⟨by decide +kernel, rfl⟩
theorem dX2_leastBestBox_1 : dc cX2_leastBestBox 1 (.iload_n 2) 1 2 := ⟨by decide +kernel, rfl⟩
theorem dX2_leastBestBox_2 : dc cX2_leastBestBox 2 (.invokevirtual 15) 3 5 := ⟨by decide +kernel, rfl⟩
theorem dX2_leastBestBox_5 : dc cX2_leastBestBox 5 (.iload_n 3) 1 6 := ⟨by decide +kernel, rfl⟩
theorem dX2_leastBestBox_6 : dc cX2_leastBestBox 6 (.iand) 1 7 := ⟨by decide +kernel, rfl⟩
theorem dX2_leastBestBox_7 : dc cX2_leastBestBox 7 (.istore 4) 2 9 := ⟨by decide +kernel, rfl⟩
theorem dX2_leastBestBox_9 : dc cX2_leastBestBox 9 (.iconst 0) 1 10 := ⟨by decide +kernel, rfl⟩
theorem dX2_leastBestBox_10 : dc cX2_leastBestBox 10 (.istore 5) 2 12 := ⟨by decide +kernel, rfl⟩
theorem dX2_leastBestBox_12 : dc cX2_leastBestBox 12 (.iload 5) 2 14 := ⟨by decide +kernel, rfl⟩
theorem dX2_leastBestBox_14 : dc cX2_leastBestBox 14 (.bipush 6) 2 16 := ⟨by decide +kernel, rfl⟩
theorem dX2_leastBestBox_16 : dc cX2_leastBestBox 16 (.if_icmp .ge 45) 3 19 := ⟨by decide +kernel, rfl⟩
theorem dX2_leastBestBox_19 : dc cX2_leastBestBox 19 (.iload 4) 2 21 := ⟨by decide +kernel, rfl⟩
theorem dX2_leastBestBox_21 : dc cX2_leastBestBox 21 (.iload 5) 2 23 := ⟨by decide +kernel, rfl⟩
theorem dX2_leastBestBox_23 : dc cX2_leastBestBox 23 (.invokestatic 29) 3 26 := ⟨by decide +kernel, rfl⟩
theorem dX2_leastBestBox_26 : dc cX2_leastBestBox 26 (.ifCond .eq 29) 3 29 := ⟨by decide +kernel, rfl⟩
theorem dX2_leastBestBox_29 : dc cX2_leastBestBox 29 (.aload_n 0) 1 30 := ⟨by decide +kernel, rfl⟩
theorem dX2_leastBestBox_30 : dc cX2_leastBestBox 30 (.aload_n 1) 1 31 := ⟨by decide +kernel, rfl⟩
theorem dX2_leastBestBox_31 : dc cX2_leastBestBox 31 (.iload_n 2) 1 32 := ⟨by decide +kernel, rfl⟩
theorem dX2_leastBestBox_32 : dc cX2_leastBestBox 32 (.iload 5) 2 34 := ⟨by decide +kernel, rfl⟩
theorem dX2_leastBestBox_34 : dc cX2_leastBestBox 34 (.iload_n 3) 1 35 := ⟨by decide +kernel, rfl⟩
theorem dX2_leastBestBox_35 : dc cX2_leastBestBox 35 (.invokevirtual 33) 3 38 := ⟨by decide +kernel, rfl⟩
theorem dX2_leastBestBox_38 : dc cX2_leastBestBox 38 (.aload_n 0) 1 39 := ⟨by decide +kernel, rfl⟩
theorem dX2_leastBestBox_39 : dc cX2_leastBestBox 39 (.getfield 11) 3 42 := ⟨by decide +kernel, rfl⟩
theorem dX2_leastBestBox_42 : dc cX2_leastBestBox 42 (.iload_n 2) 1 43 := ⟨by decide +kernel, rfl⟩
theorem dX2_leastBestBox_43 : dc cX2_leastBestBox 43 (.bipush 64) 2 45 := ⟨by decide +kernel, rfl⟩
theorem dX2_leastBestBox_45 : dc cX2_leastBestBox 45 (.imul) 1 46 := ⟨by decide +kernel, rfl⟩
theorem dX2_leastBestBox_46 : dc cX2_leastBestBox 46 (.iload_n 3) 1 47 := ⟨by decide +kernel, rfl⟩
theorem dX2_leastBestBox_47 : dc cX2_leastBestBox 47 (.iadd) 1 48 := ⟨by decide +kernel, rfl⟩
theorem dX2_leastBestBox_48 : dc cX2_leastBestBox 48 (.iaload) 1 49 := ⟨by decide +kernel, rfl⟩
theorem dX2_leastBestBox_49 : dc cX2_leastBestBox 49 (.if_icmp .ne 6) 3 52 := ⟨by decide +kernel, rfl⟩
theorem dX2_leastBestBox_52 : dc cX2_leastBestBox 52 (.iload 5) 2 54 := ⟨by decide +kernel, rfl⟩
theorem dX2_leastBestBox_54 : dc cX2_leastBestBox 54 (.ireturn) 1 55 := ⟨by decide +kernel, rfl⟩
theorem dX2_leastBestBox_55 : dc cX2_leastBestBox 55 (.iinc 5 1) 3 58 := ⟨by decide +kernel, rfl⟩
theorem dX2_leastBestBox_58 : dc cX2_leastBestBox 58 (.goto (-46)) 3 61 := ⟨by decide +kernel, rfl⟩
theorem dX2_leastBestBox_61 : dc cX2_leastBestBox 61 (.bipush (-6)) 2 63 := ⟨by decide +kernel, rfl⟩
theorem dX2_leastBestBox_63 : dc cX2_leastBestBox 63 (.ireturn) 1 64 := ⟨by decide +kernel, rfl⟩
theorem dX3_init_0 : dc cX3_init 0 (.aload_n 0) 1 1 := ⟨by decide +kernel, rfl⟩
theorem dX3_init_1 : dc cX3_init 1 (.invokespecial 3) 3 4 := ⟨by decide +kernel, rfl⟩
theorem dX3_init_4 : dc cX3_init 4 (.aload_n 0) 1 5 := ⟨by decide +kernel, rfl⟩
theorem dX3_init_5 : dc cX3_init 5 (.bipush 60) 2 7 := ⟨by decide +kernel, rfl⟩
theorem dX3_init_7 : dc cX3_init 7 (.newarray .int) 2 9 := ⟨by decide +kernel, rfl⟩
theorem dX3_init_9 : dc cX3_init 9 (.putfield 9) 3 12 := ⟨by decide +kernel, rfl⟩
theorem dX3_init_12 : dc cX3_init 12 (.aload_n 0) 1 13 := ⟨by decide +kernel, rfl⟩
theorem dX3_init_13 : dc cX3_init 13 (.iconst 0) 1 14 := ⟨by decide +kernel, rfl⟩
theorem dX3_init_14 : dc cX3_init 14 (.putfield 15) 3 17 := ⟨by decide +kernel, rfl⟩
theorem dX3_init_17 : dc cX3_init 17 (.return_) 1 18 := ⟨by decide +kernel, rfl⟩
theorem dX3_put_0 : dc cX3_put 0 (.aload_n 0) 1 1 := ⟨by decide +kernel, rfl⟩
theorem dX3_put_1 : dc cX3_put 1 (.getfield 15) 3 4 := ⟨by decide +kernel, rfl⟩
theorem dX3_put_4 : dc cX3_put 4 (.bipush 60) 2 6 := ⟨by decide +kernel, rfl⟩
theorem dX3_put_6 : dc cX3_put 6 (.if_icmp .lt 5) 3 9 := ⟨by decide +kernel, rfl⟩
theorem dX3_put_9 : dc cX3_put 9 (.iconst 0) 1 10 := ⟨by decide +kernel, rfl⟩
theorem dX3_put_10 : dc cX3_put 10 (.ireturn) 1 11 := ⟨by decide +kernel, rfl⟩
theorem dX3_put_11 : dc cX3_put 11 (.aload_n 0) 1 12 := ⟨by decide +kernel, rfl⟩
theorem dX3_put_12 : dc cX3_put 12 (.getfield 9) 3 15 := ⟨by decide +kernel, rfl⟩
theorem dX3_put_15 : dc cX3_put 15 (.aload_n 0) 1 16 := ⟨by decide +kernel, rfl⟩
theorem dX3_put_16 : dc cX3_put 16 (.getfield 15) 3 19 := ⟨by decide +kernel, rfl⟩
theorem dX3_put_19 : dc cX3_put 19 (.iload_n 1) 1 20 := ⟨by decide +kernel, rfl⟩
theorem dX3_put_20 : dc cX3_put 20 (.iastore) 1 21 := ⟨by decide +kernel, rfl⟩
theorem dX3_put_21 : dc cX3_put 21 (.aload_n 0) 1 22 := ⟨by decide +kernel, rfl⟩
theorem dX3_put_22 : dc cX3_put 22 (.dup) 1 23 := ⟨by decide +kernel, rfl⟩
theorem dX3_put_23 : dc cX3_put 23 (.getfield 15) 3 26 := ⟨by decide +kernel, rfl⟩
theorem dX3_put_26 : dc cX3_put 26 (.iconst 1) 1 27 := ⟨by decide +kernel, rfl⟩
theorem dX3_put_27 : dc cX3_put 27 (.iadd) 1 28 := ⟨by decide +kernel, rfl⟩
theorem dX3_put_28 : dc cX3_put 28 (.putfield 15) 3 31 := ⟨by decide +kernel, rfl⟩
theorem dX3_put_31 : dc cX3_put 31 (.iconst 1) 1 32 := ⟨by decide +kernel, rfl⟩
theorem dX3_put_32 : dc cX3_put 32 (.ireturn) 1 33 := ⟨by decide +kernel, rfl⟩
theorem dX3_signAt_0 : dc cX3_signAt 0 (.iload_n 1) 1 1 := ⟨by decide +kernel, rfl⟩
theorem dX3_signAt_1 : dc cX3_signAt 1 (.ifCond .lt 20) 3 4 := ⟨by decide +kernel, rfl⟩
theorem dX3_signAt_4 : dc cX3_signAt 4 (.iload_n 1) 1 5 := ⟨by decide +kernel, rfl⟩
theorem dX3_signAt_5 : dc cX3_signAt 5 (.aload_n 0) 1 6 := ⟨by decide +kernel, rfl⟩
theorem dX3_signAt_6 : dc cX3_signAt 6 (.getfield 15) 3 9 := ⟨by decide +kernel, rfl⟩
theorem dX3_signAt_9 : dc cX3_signAt 9 (.if_icmp .ge 12) 3 12 := ⟨by decide +kernel, rfl⟩
theorem dX3_signAt_12 : dc cX3_signAt 12 (.aload_n 0) 1 13 := ⟨by decide +kernel, rfl⟩
theorem dX3_signAt_13 : dc cX3_signAt 13 (.getfield 9) 3 16 := ⟨by decide +kernel, rfl⟩
theorem dX3_signAt_16 : dc cX3_signAt 16 (.iload_n 1) 1 17 := ⟨by decide +kernel, rfl⟩
theorem dX3_signAt_17 : dc cX3_signAt 17 (.iaload) 1 18 := ⟨by decide +kernel, rfl⟩
theorem dX3_signAt_18 : dc cX3_signAt 18 (.goto 4) 3 21 := ⟨by decide +kernel, rfl⟩
theorem dX3_signAt_21 : dc cX3_signAt 21 (.iconst 0) 1 22 := ⟨by decide +kernel, rfl⟩
theorem dX3_signAt_22 : dc cX3_signAt 22 (.ireturn) 1 23 := ⟨by decide +kernel, rfl⟩
theorem dX3_faultPlace_0 : dc cX3_faultPlace 0 (.iconst 0) 1 1 := ⟨by decide +kernel, rfl⟩
theorem dX3_faultPlace_1 : dc cX3_faultPlace 1 (.istore_n 1) 1 2 := ⟨by decide +kernel, rfl⟩
theorem dX3_faultPlace_2 : dc cX3_faultPlace 2 (.iconst 0) 1 3 := ⟨by decide +kernel, rfl⟩
theorem dX3_faultPlace_3 : dc cX3_faultPlace 3 (.istore_n 2) 1 4 := ⟨by decide +kernel, rfl⟩
theorem dX3_faultPlace_4 : dc cX3_faultPlace 4 (.iload_n 2) 1 5 := ⟨by decide +kernel, rfl⟩
theorem dX3_faultPlace_5 : dc cX3_faultPlace 5 (.aload_n 0) 1 6 := ⟨by decide +kernel, rfl⟩
theorem dX3_faultPlace_6 : dc cX3_faultPlace 6 (.getfield 15) 3 9 := ⟨by decide +kernel, rfl⟩
theorem dX3_faultPlace_9 : dc cX3_faultPlace 9 (.if_icmp .ge 27) 3 12 := ⟨by decide +kernel, rfl⟩
theorem dX3_faultPlace_12 : dc cX3_faultPlace 12 (.iload_n 1) 1 13 := ⟨by decide +kernel, rfl⟩
theorem dX3_faultPlace_13 : dc cX3_faultPlace 13 (.aload_n 0) 1 14 := ⟨by decide +kernel, rfl⟩
theorem dX3_faultPlace_14 : dc cX3_faultPlace 14 (.iload_n 2) 1 15 := ⟨by decide +kernel, rfl⟩
theorem dX3_faultPlace_15 : dc cX3_faultPlace 15 (.invokevirtual 19) 3 18 := ⟨by decide +kernel, rfl⟩
theorem dX3_faultPlace_18 : dc cX3_faultPlace 18 (.invokestatic 23) 3 21 := ⟨by decide +kernel, rfl⟩
theorem dX3_faultPlace_21 : dc cX3_faultPlace 21 (.istore_n 1) 1 22 := ⟨by decide +kernel, rfl⟩
theorem dX3_faultPlace_22 : dc cX3_faultPlace 22 (.iload_n 1) 1 23 := ⟨by decide +kernel, rfl⟩
theorem dX3_faultPlace_23 : dc cX3_faultPlace 23 (.bipush (-6)) 2 25 := ⟨by decide +kernel, rfl⟩
theorem dX3_faultPlace_25 : dc cX3_faultPlace 25 (.if_icmp .ne 5) 3 28 := ⟨by decide +kernel, rfl⟩
theorem dX3_faultPlace_28 : dc cX3_faultPlace 28 (.iload_n 2) 1 29 := ⟨by decide +kernel, rfl⟩
theorem dX3_faultPlace_29 : dc cX3_faultPlace 29 (.ireturn) 1 30 := ⟨by decide +kernel, rfl⟩
theorem dX3_faultPlace_30 : dc cX3_faultPlace 30 (.iinc 2 1) 3 33 := ⟨by decide +kernel, rfl⟩
theorem dX3_faultPlace_33 : dc cX3_faultPlace 33 (.goto (-29)) 3 36 := ⟨by decide +kernel, rfl⟩
theorem dX3_faultPlace_36 : dc cX3_faultPlace 36 (.iload_n 1) 1 37 := ⟨by decide +kernel, rfl⟩
theorem dX3_faultPlace_37 : dc cX3_faultPlace 37 (.ifCond .ne 8) 3 40 := ⟨by decide +kernel, rfl⟩
theorem dX3_faultPlace_40 : dc cX3_faultPlace 40 (.bipush (-6)) 2 42 := ⟨by decide +kernel, rfl⟩
theorem dX3_faultPlace_42 : dc cX3_faultPlace 42 (.goto 7) 3 45 := ⟨by decide +kernel, rfl⟩
theorem dX3_faultPlace_45 : dc cX3_faultPlace 45 (.aload_n 0) 1 46 := ⟨by decide +kernel, rfl⟩
theorem dX3_faultPlace_46 : dc cX3_faultPlace 46 (.getfield 15) 3 49 := ⟨by decide +kernel, rfl⟩
theorem dX3_faultPlace_49 : dc cX3_faultPlace 49 (.ireturn) 1 50 := ⟨by decide +kernel, rfl⟩
theorem dX3_stepOver_0 : dc cX3_stepOver 0 (.iload_n 1) 1 1 := ⟨by decide +kernel, rfl⟩
theorem dX3_stepOver_1 : dc cX3_stepOver 1 (.bipush 65) 2 3 := ⟨by decide +kernel, rfl⟩
theorem dX3_stepOver_3 : dc cX3_stepOver 3 (.bipush 72) 2 5 := ⟨by decide +kernel, rfl⟩
theorem dX3_stepOver_5 : dc cX3_stepOver 5 (.invokestatic 27) 3 8 := ⟨by decide +kernel, rfl⟩
theorem dX3_stepOver_8 : dc cX3_stepOver 8 (.istore_n 2) 1 9 := ⟨by decide +kernel, rfl⟩
theorem dX3_stepOver_9 : dc cX3_stepOver 9 (.iload_n 0) 1 10 := ⟨by decide +kernel, rfl⟩
theorem dX3_stepOver_10 : dc cX3_stepOver 10 (.tableswitch 99 0 2 #[26, 47, 81]) 26 36 := ⟨by decide +kernel, rfl⟩
theorem dX3_stepOver_36 : dc cX3_stepOver 36 (.iload_n 1) 1 37 := ⟨by decide +kernel, rfl⟩
theorem dX3_stepOver_37 : dc cX3_stepOver 37 (.bipush 46) 2 39 := ⟨by decide +kernel, rfl⟩
theorem dX3_stepOver_39 : dc cX3_stepOver 39 (.if_icmp .ne 7) 3 42 := ⟨by decide +kernel, rfl⟩
theorem dX3_stepOver_42 : dc cX3_stepOver 42 (.iconst 0) 1 43 := ⟨by decide +kernel, rfl⟩
theorem dX3_stepOver_43 : dc cX3_stepOver 43 (.goto 13) 3 46 := ⟨by decide +kernel, rfl⟩
theorem dX3_stepOver_46 : dc cX3_stepOver 46 (.iload_n 2) 1 47 := ⟨by decide +kernel, rfl⟩
theorem dX3_stepOver_47 : dc cX3_stepOver 47 (.ifCond .eq 7) 3 50 := ⟨by decide +kernel, rfl⟩
theorem dX3_stepOver_50 : dc cX3_stepOver 50 (.iconst 1) 1 51 := ⟨by decide +kernel, rfl⟩
theorem dX3_stepOver_51 : dc cX3_stepOver 51 (.goto 5) 3 54 := ⟨by decide +kernel, rfl⟩
theorem dX3_stepOver_54 : dc cX3_stepOver 54 (.bipush (-6)) 2 56 := ⟨by decide +kernel, rfl⟩
theorem dX3_stepOver_56 : dc cX3_stepOver 56 (.ireturn) 1 57 := ⟨by decide +kernel, rfl⟩
theorem dX3_stepOver_57 : dc cX3_stepOver 57 (.iload_n 1) 1 58 := ⟨by decide +kernel, rfl⟩
theorem dX3_stepOver_58 : dc cX3_stepOver 58 (.bipush 62) 2 60 := ⟨by decide +kernel, rfl⟩
theorem dX3_stepOver_60 : dc cX3_stepOver 60 (.if_icmp .ne 5) 3 63 := ⟨by decide +kernel, rfl⟩
theorem dX3_stepOver_63 : dc cX3_stepOver 63 (.iconst 3) 1 64 := ⟨by decide +kernel, rfl⟩
theorem dX3_stepOver_64 : dc cX3_stepOver 64 (.ireturn) 1 65 := ⟨by decide +kernel, rfl⟩
theorem dX3_stepOver_65 : dc cX3_stepOver 65 (.iload_n 1) 1 66 := ⟨by decide +kernel, rfl⟩
theorem dX3_stepOver_66 : dc cX3_stepOver 66 (.bipush 61) 2 68 := ⟨by decide +kernel, rfl⟩
theorem dX3_stepOver_68 : dc cX3_stepOver 68 (.if_icmp .ne 5) 3 71 := ⟨by decide +kernel, rfl⟩
theorem dX3_stepOver_71 : dc cX3_stepOver 71 (.iconst 2) 1 72 := ⟨by decide +kernel, rfl⟩
theorem dX3_stepOver_72 : dc cX3_stepOver 72 (.ireturn) 1 73 := ⟨by decide +kernel, rfl⟩
theorem dX3_stepOver_73 : dc cX3_stepOver 73 (.iload_n 1) 1 74 := ⟨by decide +kernel, rfl⟩
theorem dX3_stepOver_74 : dc cX3_stepOver 74 (.bipush 48) 2 76 := ⟨by decide +kernel, rfl⟩
theorem dX3_stepOver_76 : dc cX3_stepOver 76 (.bipush 53) 2 78 := ⟨by decide +kernel, rfl⟩
theorem dX3_stepOver_78 : dc cX3_stepOver 78 (.invokestatic 27) 3 81 := ⟨by decide +kernel, rfl⟩
theorem dX3_stepOver_81 : dc cX3_stepOver 81 (.ifCond .eq 7) 3 84 := ⟨by decide +kernel, rfl⟩
theorem dX3_stepOver_84 : dc cX3_stepOver 84 (.iconst 0) 1 85 := ⟨by decide +kernel, rfl⟩
theorem dX3_stepOver_85 : dc cX3_stepOver 85 (.goto 5) 3 88 := ⟨by decide +kernel, rfl⟩
theorem dX3_stepOver_88 : dc cX3_stepOver 88 (.bipush (-6)) 2 90 := ⟨by decide +kernel, rfl⟩
theorem dX3_stepOver_90 : dc cX3_stepOver 90 (.ireturn) 1 91 := ⟨by decide +kernel, rfl⟩
theorem dX3_stepOver_91 : dc cX3_stepOver 91 (.iload_n 1) 1 92 := ⟨by decide +kernel, rfl⟩
theorem dX3_stepOver_92 : dc cX3_stepOver 92 (.bipush 49) 2 94 := ⟨by decide +kernel, rfl⟩
theorem dX3_stepOver_94 : dc cX3_stepOver 94 (.bipush 57) 2 96 := ⟨by decide +kernel, rfl⟩
theorem dX3_stepOver_96 : dc cX3_stepOver 96 (.invokestatic 27) 3 99 := ⟨by decide +kernel, rfl⟩
theorem dX3_stepOver_99 : dc cX3_stepOver 99 (.ifCond .eq 7) 3 102 := ⟨by decide +kernel, rfl⟩
theorem dX3_stepOver_102 : dc cX3_stepOver 102 (.iconst 3) 1 103 := ⟨by decide +kernel, rfl⟩
theorem dX3_stepOver_103 : dc cX3_stepOver 103 (.goto 5) 3 106 := ⟨by decide +kernel, rfl⟩
theorem dX3_stepOver_106 : dc cX3_stepOver 106 (.bipush (-6)) 2 108 := ⟨by decide +kernel, rfl⟩
theorem dX3_stepOver_108 : dc cX3_stepOver 108 (.ireturn) 1 109 := ⟨by decide +kernel, rfl⟩
theorem dX3_stepOver_109 : dc cX3_stepOver 109 (.iload_n 2) 1 110 := ⟨by decide +kernel, rfl⟩
theorem dX3_stepOver_110 : dc cX3_stepOver 110 (.ifCond .eq 7) 3 113 := ⟨by decide +kernel, rfl⟩
theorem dX3_stepOver_113 : dc cX3_stepOver 113 (.iconst 0) 1 114 := ⟨by decide +kernel, rfl⟩
theorem dX3_stepOver_114 : dc cX3_stepOver 114 (.goto 5) 3 117 := ⟨by decide +kernel, rfl⟩
theorem dX3_stepOver_117 : dc cX3_stepOver 117 (.bipush (-6)) 2 119 := ⟨by decide +kernel, rfl⟩
theorem dX3_stepOver_119 : dc cX3_stepOver 119 (.ireturn) 1 120 := ⟨by decide +kernel, rfl⟩
theorem dX4_init_0 : dc cX4_init 0 (.aload_n 0) 1 1 := ⟨by decide +kernel, rfl⟩
theorem dX4_init_1 : dc cX4_init 1 (.invokespecial 3) 3 4 := ⟨by decide +kernel, rfl⟩
theorem dX4_init_4 : dc cX4_init 4 (.aload_n 0) 1 5 := ⟨by decide +kernel, rfl⟩
theorem dX4_init_5 : dc cX4_init 5 (.new 9) 3 8 := ⟨by decide +kernel, rfl⟩
theorem dX4_init_8 : dc cX4_init 8 (.dup) 1 9 := ⟨by decide +kernel, rfl⟩
theorem dX4_init_9 : dc cX4_init 9 (.invokespecial 11) 3 12 := ⟨by decide +kernel, rfl⟩
theorem dX4_init_12 : dc cX4_init 12 (.putfield 12) 3 15 := ⟨by decide +kernel, rfl⟩
theorem dX4_init_15 : dc cX4_init 15 (.aload_n 0) 1 16 := ⟨by decide +kernel, rfl⟩
theorem dX4_init_16 : dc cX4_init 16 (.new 18) 3 19 := ⟨by decide +kernel, rfl⟩
theorem dX4_init_19 : dc cX4_init 19 (.dup) 1 20 := ⟨by decide +kernel, rfl⟩
theorem dX4_init_20 : dc cX4_init 20 (.invokespecial 20) 3 23 := ⟨by decide +kernel, rfl⟩
theorem dX4_init_23 : dc cX4_init 23 (.putfield 21) 3 26 := ⟨by decide +kernel, rfl⟩
theorem dX4_init_26 : dc cX4_init 26 (.aload_n 0) 1 27 := ⟨by decide +kernel, rfl⟩
theorem dX4_init_27 : dc cX4_init 27 (.iconst 0) 1 28 := ⟨by decide +kernel, rfl⟩
theorem dX4_init_28 : dc cX4_init 28 (.putfield 25) 3 31 := ⟨by decide +kernel, rfl⟩
theorem dX4_init_31 : dc cX4_init 31 (.aload_n 0) 1 32 := ⟨by decide +kernel, rfl⟩
theorem dX4_init_32 : dc cX4_init 32 (.bipush (-6)) 2 34 := ⟨by decide +kernel, rfl⟩
theorem dX4_init_34 : dc cX4_init 34 (.putfield 29) 3 37 := ⟨by decide +kernel, rfl⟩
theorem dX4_init_37 : dc cX4_init 37 (.aload_n 0) 1 38 := ⟨by decide +kernel, rfl⟩
theorem dX4_init_38 : dc cX4_init 38 (.bipush (-6)) 2 40 := ⟨by decide +kernel, rfl⟩
theorem dX4_init_40 : dc cX4_init 40 (.putfield 32) 3 43 := ⟨by decide +kernel, rfl⟩
theorem dX4_init_43 : dc cX4_init 43 (.aload_n 0) 1 44 := ⟨by decide +kernel, rfl⟩
theorem dX4_init_44 : dc cX4_init 44 (.iconst 0) 1 45 := ⟨by decide +kernel, rfl⟩
theorem dX4_init_45 : dc cX4_init 45 (.putfield 35) 3 48 := ⟨by decide +kernel, rfl⟩
theorem dX4_init_48 : dc cX4_init 48 (.aload_n 0) 1 49 := ⟨by decide +kernel, rfl⟩
theorem dX4_init_49 : dc cX4_init 49 (.bipush (-6)) 2 51 := ⟨by decide +kernel, rfl⟩
theorem dX4_init_51 : dc cX4_init 51 (.putfield 38) 3 54 := ⟨by decide +kernel, rfl⟩
theorem dX4_init_54 : dc cX4_init 54 (.return_) 1 55 := ⟨by decide +kernel, rfl⟩
theorem dX4_followPad_0 : dc cX4_followPad 0 (.aload_n 0) 1 1 := ⟨by decide +kernel, rfl⟩
theorem dX4_followPad_1 : dc cX4_followPad 1 (.getfield 12) 3 4 := ⟨by decide +kernel, rfl⟩
theorem dX4_followPad_4 : dc cX4_followPad 4 (.aload_n 1) 1 5 := ⟨by decide +kernel, rfl⟩
theorem dX4_followPad_5 : dc cX4_followPad 5 (.invokevirtual 41) 3 8 := ⟨by decide +kernel, rfl⟩
theorem dX4_followPad_8 : dc cX4_followPad 8 (.aload_n 0) 1 9 := ⟨by decide +kernel, rfl⟩
theorem dX4_followPad_9 : dc cX4_followPad 9 (.iconst 0) 1 10 := ⟨by decide +kernel, rfl⟩
theorem dX4_followPad_10 : dc cX4_followPad 10 (.putfield 25) 3 13 := ⟨by decide +kernel, rfl⟩
theorem dX4_followPad_13 : dc cX4_followPad 13 (.aload_n 0) 1 14 := ⟨by decide +kernel, rfl⟩
theorem dX4_followPad_14 : dc cX4_followPad 14 (.bipush (-6)) 2 16 := ⟨by decide +kernel, rfl⟩
theorem dX4_followPad_16 : dc cX4_followPad 16 (.putfield 29) 3 19 := ⟨by decide +kernel, rfl⟩
theorem dX4_followPad_19 : dc cX4_followPad 19 (.aload_n 0) 1 20 := ⟨by decide +kernel, rfl⟩
theorem dX4_followPad_20 : dc cX4_followPad 20 (.bipush (-6)) 2 22 := ⟨by decide +kernel, rfl⟩
theorem dX4_followPad_22 : dc cX4_followPad 22 (.putfield 32) 3 25 := ⟨by decide +kernel, rfl⟩
theorem dX4_followPad_25 : dc cX4_followPad 25 (.aload_n 0) 1 26 := ⟨by decide +kernel, rfl⟩
theorem dX4_followPad_26 : dc cX4_followPad 26 (.iconst 0) 1 27 := ⟨by decide +kernel, rfl⟩
theorem dX4_followPad_27 : dc cX4_followPad 27 (.putfield 35) 3 30 := ⟨by decide +kernel, rfl⟩
theorem dX4_followPad_30 : dc cX4_followPad 30 (.aload_n 0) 1 31 := ⟨by decide +kernel, rfl⟩
theorem dX4_followPad_31 : dc cX4_followPad 31 (.bipush (-6)) 2 33 := ⟨by decide +kernel, rfl⟩
theorem dX4_followPad_33 : dc cX4_followPad 33 (.putfield 38) 3 36 := ⟨by decide +kernel, rfl⟩
theorem dX4_followPad_36 : dc cX4_followPad 36 (.iconst 0) 1 37 := ⟨by decide +kernel, rfl⟩
theorem dX4_followPad_37 : dc cX4_followPad 37 (.istore_n 3) 1 38 := ⟨by decide +kernel, rfl⟩
theorem dX4_followPad_38 : dc cX4_followPad 38 (.iconst 0) 1 39 := ⟨by decide +kernel, rfl⟩
theorem dX4_followPad_39 : dc cX4_followPad 39 (.istore 4) 2 41 := ⟨by decide +kernel, rfl⟩
theorem dX4_followPad_41 : dc cX4_followPad 41 (.iload 4) 2 43 := ⟨by decide +kernel, rfl⟩
theorem dX4_followPad_43 : dc cX4_followPad 43 (.bipush 60) 2 45 := ⟨by decide +kernel, rfl⟩
theorem dX4_followPad_45 : dc cX4_followPad 45 (.if_icmp .ge 87) 3 48 := ⟨by decide +kernel, rfl⟩
theorem dX4_followPad_48 : dc cX4_followPad 48 (.iload_n 3) 1 49 := ⟨by decide +kernel, rfl⟩
theorem dX4_followPad_49 : dc cX4_followPad 49 (.aload_n 2) 1 50 := ⟨by decide +kernel, rfl⟩
theorem dX4_followPad_50 : dc cX4_followPad 50 (.getfield 45) 3 53 := ⟨by decide +kernel, rfl⟩
theorem dX4_followPad_53 : dc cX4_followPad 53 (.if_icmp .ge 79) 3 56 := ⟨by decide +kernel, rfl⟩
theorem dX4_followPad_56 : dc cX4_followPad 56 (.iload_n 3) 1 57 := ⟨by decide +kernel, rfl⟩
theorem dX4_followPad_57 : dc cX4_followPad 57 (.aload_n 0) 1 58 := ⟨by decide +kernel, rfl⟩
theorem dX4_followPad_58 : dc cX4_followPad 58 (.getfield 21) 3 61 := ⟨by decide +kernel, rfl⟩
theorem dX4_followPad_61 : dc cX4_followPad 61 (.aload_n 2) 1 62 := ⟨by decide +kernel, rfl⟩
theorem dX4_followPad_62 : dc cX4_followPad 62 (.iload_n 3) 1 63 := ⟨by decide +kernel, rfl⟩
theorem dX4_followPad_63 : dc cX4_followPad 63 (.invokevirtual 50) 3 66 := ⟨by decide +kernel, rfl⟩
theorem dX4_followPad_66 : dc cX4_followPad 66 (.iadd) 1 67 := ⟨by decide +kernel, rfl⟩
theorem dX4_followPad_67 : dc cX4_followPad 67 (.istore_n 3) 1 68 := ⟨by decide +kernel, rfl⟩
theorem dX4_followPad_68 : dc cX4_followPad 68 (.aload_n 0) 1 69 := ⟨by decide +kernel, rfl⟩
theorem dX4_followPad_69 : dc cX4_followPad 69 (.getfield 12) 3 72 := ⟨by decide +kernel, rfl⟩
theorem dX4_followPad_72 : dc cX4_followPad 72 (.aload_n 0) 1 73 := ⟨by decide +kernel, rfl⟩
theorem dX4_followPad_73 : dc cX4_followPad 73 (.getfield 21) 3 76 := ⟨by decide +kernel, rfl⟩
theorem dX4_followPad_76 : dc cX4_followPad 76 (.invokevirtual 54) 3 79 := ⟨by decide +kernel, rfl⟩
theorem dX4_followPad_79 : dc cX4_followPad 79 (.istore 5) 2 81 := ⟨by decide +kernel, rfl⟩
theorem dX4_followPad_81 : dc cX4_followPad 81 (.iload 5) 2 83 := ⟨by decide +kernel, rfl⟩
theorem dX4_followPad_83 : dc cX4_followPad 83 (.ifCond .eq 18) 3 86 := ⟨by decide +kernel, rfl⟩
theorem dX4_followPad_86 : dc cX4_followPad 86 (.aload_n 0) 1 87 := ⟨by decide +kernel, rfl⟩
theorem dX4_followPad_87 : dc cX4_followPad 87 (.aload_n 0) 1 88 := ⟨by decide +kernel, rfl⟩
theorem dX4_followPad_88 : dc cX4_followPad 88 (.getfield 25) 3 91 := ⟨by decide +kernel, rfl⟩
theorem dX4_followPad_91 : dc cX4_followPad 91 (.putfield 29) 3 94 := ⟨by decide +kernel, rfl⟩
theorem dX4_followPad_94 : dc cX4_followPad 94 (.aload_n 0) 1 95 := ⟨by decide +kernel, rfl⟩
theorem dX4_followPad_95 : dc cX4_followPad 95 (.iload 5) 2 97 := ⟨by decide +kernel, rfl⟩
theorem dX4_followPad_97 : dc cX4_followPad 97 (.putfield 32) 3 100 := ⟨by decide +kernel, rfl⟩
theorem dX4_followPad_100 : dc cX4_followPad 100 (.return_) 1 101 := ⟨by decide +kernel, rfl⟩
theorem dX4_followPad_101 : dc cX4_followPad 101 (.aload_n 0) 1 102 := ⟨by decide +kernel, rfl⟩
theorem dX4_followPad_102 : dc cX4_followPad 102 (.invokevirtual 58) 3 105 := ⟨by decide +kernel, rfl⟩
theorem dX4_followPad_105 : dc cX4_followPad 105 (.aload_n 0) 1 106 := ⟨by decide +kernel, rfl⟩
theorem dX4_followPad_106 : dc cX4_followPad 106 (.getfield 12) 3 109 := ⟨by decide +kernel, rfl⟩
theorem dX4_followPad_109 : dc cX4_followPad 109 (.aload_n 0) 1 110 := ⟨by decide +kernel, rfl⟩
theorem dX4_followPad_110 : dc cX4_followPad 110 (.getfield 21) 3 113 := ⟨by decide +kernel, rfl⟩
theorem dX4_followPad_113 : dc cX4_followPad 113 (.invokevirtual 61) 3 116 := ⟨by decide +kernel, rfl⟩
theorem dX4_followPad_116 : dc cX4_followPad 116 (.aload_n 0) 1 117 := ⟨by decide +kernel, rfl⟩
theorem dX4_followPad_117 : dc cX4_followPad 117 (.dup) 1 118 := ⟨by decide +kernel, rfl⟩
theorem dX4_followPad_118 : dc cX4_followPad 118 (.getfield 25) 3 121 := ⟨by decide +kernel, rfl⟩
theorem dX4_followPad_121 : dc cX4_followPad 121 (.iconst 1) 1 122 := ⟨by decide +kernel, rfl⟩
theorem dX4_followPad_122 : dc cX4_followPad 122 (.iadd) 1 123 := ⟨by decide +kernel, rfl⟩
theorem dX4_followPad_123 : dc cX4_followPad 123 (.putfield 25) 3 126 := ⟨by decide +kernel, rfl⟩
theorem dX4_followPad_126 : dc cX4_followPad 126 (.iinc 4 1) 3 129 := ⟨by decide +kernel, rfl⟩
theorem dX4_followPad_129 : dc cX4_followPad 129 (.goto (-88)) 3 132 := ⟨by decide +kernel, rfl⟩
theorem dX4_followPad_132 : dc cX4_followPad 132 (.return_) 1 133 := ⟨by decide +kernel, rfl⟩
theorem dX4_countTry_0 : dc cX4_countTry 0 (.aload_n 0) 1 1 := ⟨by decide +kernel, rfl⟩
theorem dX4_countTry_1 : dc cX4_countTry 1 (.getfield 21) 3 4 := ⟨by decide +kernel, rfl⟩
theorem dX4_countTry_4 : dc cX4_countTry 4 (.getfield 65) 3 7 := ⟨by decide +kernel, rfl⟩
theorem dX4_countTry_7 : dc cX4_countTry 7 (.iconst 3) 1 8 := ⟨by decide +kernel, rfl⟩
theorem dX4_countTry_8 : dc cX4_countTry 8 (.if_icmp .eq 4) 3 11 := ⟨by decide +kernel, rfl⟩
theorem dX4_countTry_11 : dc cX4_countTry 11 (.return_) 1 12 := ⟨by decide +kernel, rfl⟩
theorem dX4_countTry_12 : dc cX4_countTry 12 (.aload_n 0) 1 13 := ⟨by decide +kernel, rfl⟩
theorem dX4_countTry_13 : dc cX4_countTry 13 (.getfield 12) 3 16 := ⟨by decide +kernel, rfl⟩
theorem dX4_countTry_16 : dc cX4_countTry 16 (.aload_n 0) 1 17 := ⟨by decide +kernel, rfl⟩
theorem dX4_countTry_17 : dc cX4_countTry 17 (.getfield 21) 3 20 := ⟨by decide +kernel, rfl⟩
theorem dX4_countTry_20 : dc cX4_countTry 20 (.getfield 68) 3 23 := ⟨by decide +kernel, rfl⟩
theorem dX4_countTry_23 : dc cX4_countTry 23 (.aload_n 0) 1 24 := ⟨by decide +kernel, rfl⟩
theorem dX4_countTry_24 : dc cX4_countTry 24 (.getfield 21) 3 27 := ⟨by decide +kernel, rfl⟩
theorem dX4_countTry_27 : dc cX4_countTry 27 (.getfield 71) 3 30 := ⟨by decide +kernel, rfl⟩
theorem dX4_countTry_30 : dc cX4_countTry 30 (.invokevirtual 74) 3 33 := ⟨by decide +kernel, rfl⟩
theorem dX4_countTry_33 : dc cX4_countTry 33 (.ifCond .eq 16) 3 36 := ⟨by decide +kernel, rfl⟩
theorem dX4_countTry_36 : dc cX4_countTry 36 (.aload_n 0) 1 37 := ⟨by decide +kernel, rfl⟩
theorem dX4_countTry_37 : dc cX4_countTry 37 (.dup) 1 38 := ⟨by decide +kernel, rfl⟩
theorem dX4_countTry_38 : dc cX4_countTry 38 (.getfield 35) 3 41 := ⟨by decide +kernel, rfl⟩
theorem dX4_countTry_41 : dc cX4_countTry 41 (.iconst 1) 1 42 := ⟨by decide +kernel, rfl⟩
theorem dX4_countTry_42 : dc cX4_countTry 42 (.iadd) 1 43 := ⟨by decide +kernel, rfl⟩
theorem dX4_countTry_43 : dc cX4_countTry 43 (.putfield 35) 3 46 := ⟨by decide +kernel, rfl⟩
theorem dX4_countTry_46 : dc cX4_countTry 46 (.goto 20) 3 49 := ⟨by decide +kernel, rfl⟩
theorem dX4_countTry_49 : dc cX4_countTry 49 (.aload_n 0) 1 50 := ⟨by decide +kernel, rfl⟩
theorem dX4_countTry_50 : dc cX4_countTry 50 (.getfield 38) 3 53 := ⟨by decide +kernel, rfl⟩
theorem dX4_countTry_53 : dc cX4_countTry 53 (.bipush (-6)) 2 55 := ⟨by decide +kernel, rfl⟩
theorem dX4_countTry_55 : dc cX4_countTry 55 (.if_icmp .ne 11) 3 58 := ⟨by decide +kernel, rfl⟩
theorem dX4_countTry_58 : dc cX4_countTry 58 (.aload_n 0) 1 59 := ⟨by decide +kernel, rfl⟩
theorem dX4_countTry_59 : dc cX4_countTry 59 (.aload_n 0) 1 60 := ⟨by decide +kernel, rfl⟩
theorem dX4_countTry_60 : dc cX4_countTry 60 (.getfield 25) 3 63 := ⟨by decide +kernel, rfl⟩
theorem dX4_countTry_63 : dc cX4_countTry 63 (.putfield 38) 3 66 := ⟨by decide +kernel, rfl⟩
theorem dX4_countTry_66 : dc cX4_countTry 66 (.return_) 1 67 := ⟨by decide +kernel, rfl⟩
theorem dX4_followDraws_0 : dc cX4_followDraws 0 (.aload_n 0) 1 1 := ⟨by decide +kernel, rfl⟩
theorem dX4_followDraws_1 : dc cX4_followDraws 1 (.getfield 12) 3 4 := ⟨by decide +kernel, rfl⟩
theorem dX4_followDraws_4 : dc cX4_followDraws 4 (.aload_n 1) 1 5 := ⟨by decide +kernel, rfl⟩
theorem dX4_followDraws_5 : dc cX4_followDraws 5 (.invokevirtual 41) 3 8 := ⟨by decide +kernel, rfl⟩
theorem dX4_followDraws_8 : dc cX4_followDraws 8 (.iload_n 2) 1 9 := ⟨by decide +kernel, rfl⟩
theorem dX4_followDraws_9 : dc cX4_followDraws 9 (.istore 4) 2 11 := ⟨by decide +kernel, rfl⟩
theorem dX4_followDraws_11 : dc cX4_followDraws 11 (.iconst 0) 1 12 := ⟨by decide +kernel, rfl⟩
theorem dX4_followDraws_12 : dc cX4_followDraws 12 (.istore 5) 2 14 := ⟨by decide +kernel, rfl⟩
theorem dX4_followDraws_14 : dc cX4_followDraws 14 (.iload 5) 2 16 := ⟨by decide +kernel, rfl⟩
theorem dX4_followDraws_16 : dc cX4_followDraws 16 (.iload_n 3) 1 17 := ⟨by decide +kernel, rfl⟩
theorem dX4_followDraws_17 : dc cX4_followDraws 17 (.if_icmp .ge 56) 3 20 := ⟨by decide +kernel, rfl⟩
theorem dX4_followDraws_20 : dc cX4_followDraws 20 (.bipush 75) 2 22 := ⟨by decide +kernel, rfl⟩
theorem dX4_followDraws_22 : dc cX4_followDraws 22 (.iload 4) 2 24 := ⟨by decide +kernel, rfl⟩
theorem dX4_followDraws_24 : dc cX4_followDraws 24 (.imul) 1 25 := ⟨by decide +kernel, rfl⟩
theorem dX4_followDraws_25 : dc cX4_followDraws 25 (.bipush 74) 2 27 := ⟨by decide +kernel, rfl⟩
theorem dX4_followDraws_27 : dc cX4_followDraws 27 (.iadd) 1 28 := ⟨by decide +kernel, rfl⟩
theorem dX4_followDraws_28 : dc cX4_followDraws 28 (.ldc 78) 2 30 := ⟨by decide +kernel, rfl⟩
theorem dX4_followDraws_30 : dc cX4_followDraws 30 (.irem) 1 31 := ⟨by decide +kernel, rfl⟩
theorem dX4_followDraws_31 : dc cX4_followDraws 31 (.istore 4) 2 33 := ⟨by decide +kernel, rfl⟩
theorem dX4_followDraws_33 : dc cX4_followDraws 33 (.aload_n 0) 1 34 := ⟨by decide +kernel, rfl⟩
theorem dX4_followDraws_34 : dc cX4_followDraws 34 (.getfield 21) 3 37 := ⟨by decide +kernel, rfl⟩
theorem dX4_followDraws_37 : dc cX4_followDraws 37 (.iload 4) 2 39 := ⟨by decide +kernel, rfl⟩
theorem dX4_followDraws_39 : dc cX4_followDraws 39 (.invokevirtual 79) 3 42 := ⟨by decide +kernel, rfl⟩
theorem dX4_followDraws_42 : dc cX4_followDraws 42 (.aload_n 0) 1 43 := ⟨by decide +kernel, rfl⟩
theorem dX4_followDraws_43 : dc cX4_followDraws 43 (.getfield 12) 3 46 := ⟨by decide +kernel, rfl⟩
theorem dX4_followDraws_46 : dc cX4_followDraws 46 (.aload_n 0) 1 47 := ⟨by decide +kernel, rfl⟩
theorem dX4_followDraws_47 : dc cX4_followDraws 47 (.getfield 21) 3 50 := ⟨by decide +kernel, rfl⟩
theorem dX4_followDraws_50 : dc cX4_followDraws 50 (.invokevirtual 54) 3 53 := ⟨by decide +kernel, rfl⟩
theorem dX4_followDraws_53 : dc cX4_followDraws 53 (.ifCond .ne 14) 3 56 := ⟨by decide +kernel, rfl⟩
theorem dX4_followDraws_56 : dc cX4_followDraws 56 (.aload_n 0) 1 57 := ⟨by decide +kernel, rfl⟩
theorem dX4_followDraws_57 : dc cX4_followDraws 57 (.getfield 12) 3 60 := ⟨by decide +kernel, rfl⟩
theorem dX4_followDraws_60 : dc cX4_followDraws 60 (.aload_n 0) 1 61 := ⟨by decide +kernel, rfl⟩
theorem dX4_followDraws_61 : dc cX4_followDraws 61 (.getfield 21) 3 64 := ⟨by decide +kernel, rfl⟩
theorem dX4_followDraws_64 : dc cX4_followDraws 64 (.invokevirtual 61) 3 67 := ⟨by decide +kernel, rfl⟩
theorem dX4_followDraws_67 : dc cX4_followDraws 67 (.iinc 5 1) 3 70 := ⟨by decide +kernel, rfl⟩
theorem dX4_followDraws_70 : dc cX4_followDraws 70 (.goto (-56)) 3 73 := ⟨by decide +kernel, rfl⟩
theorem dX4_followDraws_73 : dc cX4_followDraws 73 (.return_) 1 74 := ⟨by decide +kernel, rfl⟩
theorem dX5_init_0 : dc cX5_init 0 (.aload_n 0) 1 1 := ⟨by decide +kernel, rfl⟩
theorem dX5_init_1 : dc cX5_init 1 (.invokespecial 3) 3 4 := ⟨by decide +kernel, rfl⟩
theorem dX5_init_4 : dc cX5_init 4 (.aload_n 0) 1 5 := ⟨by decide +kernel, rfl⟩
theorem dX5_init_5 : dc cX5_init 5 (.iconst 0) 1 6 := ⟨by decide +kernel, rfl⟩
theorem dX5_init_6 : dc cX5_init 6 (.putfield 9) 3 9 := ⟨by decide +kernel, rfl⟩
theorem dX5_init_9 : dc cX5_init 9 (.aload_n 0) 1 10 := ⟨by decide +kernel, rfl⟩
theorem dX5_init_10 : dc cX5_init 10 (.iconst 0) 1 11 := ⟨by decide +kernel, rfl⟩
theorem dX5_init_11 : dc cX5_init 11 (.putfield 15) 3 14 := ⟨by decide +kernel, rfl⟩
theorem dX5_init_14 : dc cX5_init 14 (.aload_n 0) 1 15 := ⟨by decide +kernel, rfl⟩
theorem dX5_init_15 : dc cX5_init 15 (.iconst 0) 1 16 := ⟨by decide +kernel, rfl⟩
theorem dX5_init_16 : dc cX5_init 16 (.putfield 18) 3 19 := ⟨by decide +kernel, rfl⟩
theorem dX5_init_19 : dc cX5_init 19 (.aload_n 0) 1 20 := ⟨by decide +kernel, rfl⟩
theorem dX5_init_20 : dc cX5_init 20 (.iconst 0) 1 21 := ⟨by decide +kernel, rfl⟩
theorem dX5_init_21 : dc cX5_init 21 (.putfield 21) 3 24 := ⟨by decide +kernel, rfl⟩
theorem dX5_init_24 : dc cX5_init 24 (.aload_n 0) 1 25 := ⟨by decide +kernel, rfl⟩
theorem dX5_init_25 : dc cX5_init 25 (.bipush 8) 2 27 := ⟨by decide +kernel, rfl⟩
theorem dX5_init_27 : dc cX5_init 27 (.newarray .int) 2 29 := ⟨by decide +kernel, rfl⟩
theorem dX5_init_29 : dc cX5_init 29 (.putfield 24) 3 32 := ⟨by decide +kernel, rfl⟩
theorem dX5_init_32 : dc cX5_init 32 (.aload_n 0) 1 33 := ⟨by decide +kernel, rfl⟩
theorem dX5_init_33 : dc cX5_init 33 (.bipush 8) 2 35 := ⟨by decide +kernel, rfl⟩
theorem dX5_init_35 : dc cX5_init 35 (.newarray .int) 2 37 := ⟨by decide +kernel, rfl⟩
theorem dX5_init_37 : dc cX5_init 37 (.putfield 28) 3 40 := ⟨by decide +kernel, rfl⟩
theorem dX5_init_40 : dc cX5_init 40 (.aload_n 0) 1 41 := ⟨by decide +kernel, rfl⟩
theorem dX5_init_41 : dc cX5_init 41 (.bipush 8) 2 43 := ⟨by decide +kernel, rfl⟩
theorem dX5_init_43 : dc cX5_init 43 (.newarray .int) 2 45 := ⟨by decide +kernel, rfl⟩
theorem dX5_init_45 : dc cX5_init 45 (.putfield 31) 3 48 := ⟨by decide +kernel, rfl⟩
theorem dX5_init_48 : dc cX5_init 48 (.aload_n 0) 1 49 := ⟨by decide +kernel, rfl⟩
theorem dX5_init_49 : dc cX5_init 49 (.bipush 64) 2 51 := ⟨by decide +kernel, rfl⟩
theorem dX5_init_51 : dc cX5_init 51 (.newarray .int) 2 53 := ⟨by decide +kernel, rfl⟩
theorem dX5_init_53 : dc cX5_init 53 (.putfield 34) 3 56 := ⟨by decide +kernel, rfl⟩
theorem dX5_init_56 : dc cX5_init 56 (.aload_n 0) 1 57 := ⟨by decide +kernel, rfl⟩
theorem dX5_init_57 : dc cX5_init 57 (.bipush 6) 2 59 := ⟨by decide +kernel, rfl⟩
theorem dX5_init_59 : dc cX5_init 59 (.newarray .int) 2 61 := ⟨by decide +kernel, rfl⟩
theorem dX5_init_61 : dc cX5_init 61 (.putfield 37) 3 64 := ⟨by decide +kernel, rfl⟩
theorem dX5_init_64 : dc cX5_init 64 (.aload_n 0) 1 65 := ⟨by decide +kernel, rfl⟩
theorem dX5_init_65 : dc cX5_init 65 (.bipush 6) 2 67 := ⟨by decide +kernel, rfl⟩
theorem dX5_init_67 : dc cX5_init 67 (.newarray .int) 2 69 := ⟨by decide +kernel, rfl⟩
theorem dX5_init_69 : dc cX5_init 69 (.putfield 40) 3 72 := ⟨by decide +kernel, rfl⟩
theorem dX5_init_72 : dc cX5_init 72 (.aload_n 0) 1 73 := ⟨by decide +kernel, rfl⟩
theorem dX5_init_73 : dc cX5_init 73 (.bipush 6) 2 75 := ⟨by decide +kernel, rfl⟩
theorem dX5_init_75 : dc cX5_init 75 (.newarray .int) 2 77 := ⟨by decide +kernel, rfl⟩
theorem dX5_init_77 : dc cX5_init 77 (.putfield 43) 3 80 := ⟨by decide +kernel, rfl⟩
theorem dX5_init_80 : dc cX5_init 80 (.aload_n 0) 1 81 := ⟨by decide +kernel, rfl⟩
theorem dX5_init_81 : dc cX5_init 81 (.bipush 8) 2 83 := ⟨by decide +kernel, rfl⟩
theorem dX5_init_83 : dc cX5_init 83 (.newarray .int) 2 85 := ⟨by decide +kernel, rfl⟩
theorem dX5_init_85 : dc cX5_init 85 (.putfield 46) 3 88 := ⟨by decide +kernel, rfl⟩
theorem dX5_init_88 : dc cX5_init 88 (.iconst 0) 1 89 := ⟨by decide +kernel, rfl⟩
theorem dX5_init_89 : dc cX5_init 89 (.istore_n 1) 1 90 := ⟨by decide +kernel, rfl⟩
theorem dX5_init_90 : dc cX5_init 90 (.iload_n 1) 1 91 := ⟨by decide +kernel, rfl⟩
theorem dX5_init_91 : dc cX5_init 91 (.bipush 8) 2 93 := ⟨by decide +kernel, rfl⟩
theorem dX5_init_93 : dc cX5_init 93 (.if_icmp .ge 17) 3 96 := ⟨by decide +kernel, rfl⟩
theorem dX5_init_96 : dc cX5_init 96 (.aload_n 0) 1 97 := ⟨by decide +kernel, rfl⟩
theorem dX5_init_97 : dc cX5_init 97 (.getfield 31) 3 100 := ⟨by decide +kernel, rfl⟩
theorem dX5_init_100 : dc cX5_init 100 (.iload_n 1) 1 101 := ⟨by decide +kernel, rfl⟩
theorem dX5_init_101 : dc cX5_init 101 (.bipush (-6)) 2 103 := ⟨by decide +kernel, rfl⟩
theorem dX5_init_103 : dc cX5_init 103 (.iastore) 1 104 := ⟨by decide +kernel, rfl⟩
theorem dX5_init_104 : dc cX5_init 104 (.iinc 1 1) 3 107 := ⟨by decide +kernel, rfl⟩
theorem dX5_init_107 : dc cX5_init 107 (.goto (-17)) 3 110 := ⟨by decide +kernel, rfl⟩
theorem dX5_init_110 : dc cX5_init 110 (.iconst 0) 1 111 := ⟨by decide +kernel, rfl⟩
theorem dX5_init_111 : dc cX5_init 111 (.istore_n 1) 1 112 := ⟨by decide +kernel, rfl⟩
theorem dX5_init_112 : dc cX5_init 112 (.iload_n 1) 1 113 := ⟨by decide +kernel, rfl⟩
theorem dX5_init_113 : dc cX5_init 113 (.bipush 6) 2 115 := ⟨by decide +kernel, rfl⟩
theorem dX5_init_115 : dc cX5_init 115 (.if_icmp .ge 16) 3 118 := ⟨by decide +kernel, rfl⟩
theorem dX5_init_118 : dc cX5_init 118 (.aload_n 0) 1 119 := ⟨by decide +kernel, rfl⟩
theorem dX5_init_119 : dc cX5_init 119 (.getfield 40) 3 122 := ⟨by decide +kernel, rfl⟩
theorem dX5_init_122 : dc cX5_init 122 (.iload_n 1) 1 123 := ⟨by decide +kernel, rfl⟩
theorem dX5_init_123 : dc cX5_init 123 (.iconst 1) 1 124 := ⟨by decide +kernel, rfl⟩
theorem dX5_init_124 : dc cX5_init 124 (.iastore) 1 125 := ⟨by decide +kernel, rfl⟩
theorem dX5_init_125 : dc cX5_init 125 (.iinc 1 1) 3 128 := ⟨by decide +kernel, rfl⟩
theorem dX5_init_128 : dc cX5_init 128 (.goto (-16)) 3 131 := ⟨by decide +kernel, rfl⟩
theorem dX5_init_131 : dc cX5_init 131 (.return_) 1 132 := ⟨by decide +kernel, rfl⟩
theorem dX5_debtPlace_0 : dc cX5_debtPlace 0 (.iload_n 0) 1 1 := ⟨by decide +kernel, rfl⟩
theorem dX5_debtPlace_1 : dc cX5_debtPlace 1 (.bipush 8) 2 3 := ⟨by decide +kernel, rfl⟩
theorem dX5_debtPlace_3 : dc cX5_debtPlace 3 (.imul) 1 4 := ⟨by decide +kernel, rfl⟩
theorem dX5_debtPlace_4 : dc cX5_debtPlace 4 (.iload_n 1) 1 5 := ⟨by decide +kernel, rfl⟩
theorem dX5_debtPlace_5 : dc cX5_debtPlace 5 (.iadd) 1 6 := ⟨by decide +kernel, rfl⟩
theorem dX5_debtPlace_6 : dc cX5_debtPlace 6 (.ireturn) 1 7 := ⟨by decide +kernel, rfl⟩
theorem dX5_copyFrom_0 : dc cX5_copyFrom 0 (.aload_n 0) 1 1 := ⟨by decide +kernel, rfl⟩
theorem dX5_copyFrom_1 : dc cX5_copyFrom 1 (.aload_n 1) 1 2 := ⟨by decide +kernel, rfl⟩
theorem dX5_copyFrom_2 : dc cX5_copyFrom 2 (.getfield 9) 3 5 := ⟨by decide +kernel, rfl⟩
theorem dX5_copyFrom_5 : dc cX5_copyFrom 5 (.putfield 9) 3 8 := ⟨by decide +kernel, rfl⟩
theorem dX5_copyFrom_8 : dc cX5_copyFrom 8 (.aload_n 0) 1 9 := ⟨by decide +kernel, rfl⟩
theorem dX5_copyFrom_9 : dc cX5_copyFrom 9 (.aload_n 1) 1 10 := ⟨by decide +kernel, rfl⟩
theorem dX5_copyFrom_10 : dc cX5_copyFrom 10 (.getfield 15) 3 13 := ⟨by decide +kernel, rfl⟩
theorem dX5_copyFrom_13 : dc cX5_copyFrom 13 (.putfield 15) 3 16 := ⟨by decide +kernel, rfl⟩
theorem dX5_copyFrom_16 : dc cX5_copyFrom 16 (.aload_n 0) 1 17 := ⟨by decide +kernel, rfl⟩
theorem dX5_copyFrom_17 : dc cX5_copyFrom 17 (.aload_n 1) 1 18 := ⟨by decide +kernel, rfl⟩
theorem dX5_copyFrom_18 : dc cX5_copyFrom 18 (.getfield 18) 3 21 := ⟨by decide +kernel, rfl⟩
theorem dX5_copyFrom_21 : dc cX5_copyFrom 21 (.putfield 18) 3 24 := ⟨by decide +kernel, rfl⟩
theorem dX5_copyFrom_24 : dc cX5_copyFrom 24 (.aload_n 0) 1 25 := ⟨by decide +kernel, rfl⟩
theorem dX5_copyFrom_25 : dc cX5_copyFrom 25 (.aload_n 1) 1 26 := ⟨by decide +kernel, rfl⟩
theorem dX5_copyFrom_26 : dc cX5_copyFrom 26 (.getfield 21) 3 29 := ⟨by decide +kernel, rfl⟩
theorem dX5_copyFrom_29 : dc cX5_copyFrom 29 (.putfield 21) 3 32 := ⟨by decide +kernel, rfl⟩
theorem dX5_copyFrom_32 : dc cX5_copyFrom 32 (.aload_n 1) 1 33 := ⟨by decide +kernel, rfl⟩
theorem dX5_copyFrom_33 : dc cX5_copyFrom 33 (.getfield 24) 3 36 := ⟨by decide +kernel, rfl⟩
theorem dX5_copyFrom_36 : dc cX5_copyFrom 36 (.iconst 0) 1 37 := ⟨by decide +kernel, rfl⟩
theorem dX5_copyFrom_37 : dc cX5_copyFrom 37 (.aload_n 0) 1 38 := ⟨by decide +kernel, rfl⟩
theorem dX5_copyFrom_38 : dc cX5_copyFrom 38 (.getfield 24) 3 41 := ⟨by decide +kernel, rfl⟩
theorem dX5_copyFrom_41 : dc cX5_copyFrom 41 (.iconst 0) 1 42 := ⟨by decide +kernel, rfl⟩
theorem dX5_copyFrom_42 : dc cX5_copyFrom 42 (.bipush 8) 2 44 := ⟨by decide +kernel, rfl⟩
theorem dX5_copyFrom_44 : dc cX5_copyFrom 44 (.invokestatic 49) 3 47 := ⟨by decide +kernel, rfl⟩
theorem dX5_copyFrom_47 : dc cX5_copyFrom 47 (.aload_n 1) 1 48 := ⟨by decide +kernel, rfl⟩
theorem dX5_copyFrom_48 : dc cX5_copyFrom 48 (.getfield 28) 3 51 := ⟨by decide +kernel, rfl⟩
theorem dX5_copyFrom_51 : dc cX5_copyFrom 51 (.iconst 0) 1 52 := ⟨by decide +kernel, rfl⟩
theorem dX5_copyFrom_52 : dc cX5_copyFrom 52 (.aload_n 0) 1 53 := ⟨by decide +kernel, rfl⟩
theorem dX5_copyFrom_53 : dc cX5_copyFrom 53 (.getfield 28) 3 56 := ⟨by decide +kernel, rfl⟩
theorem dX5_copyFrom_56 : dc cX5_copyFrom 56 (.iconst 0) 1 57 := ⟨by decide +kernel, rfl⟩
theorem dX5_copyFrom_57 : dc cX5_copyFrom 57 (.bipush 8) 2 59 := ⟨by decide +kernel, rfl⟩
theorem dX5_copyFrom_59 : dc cX5_copyFrom 59 (.invokestatic 49) 3 62 := ⟨by decide +kernel, rfl⟩
theorem dX5_copyFrom_62 : dc cX5_copyFrom 62 (.aload_n 1) 1 63 := ⟨by decide +kernel, rfl⟩
theorem dX5_copyFrom_63 : dc cX5_copyFrom 63 (.getfield 31) 3 66 := ⟨by decide +kernel, rfl⟩
theorem dX5_copyFrom_66 : dc cX5_copyFrom 66 (.iconst 0) 1 67 := ⟨by decide +kernel, rfl⟩
theorem dX5_copyFrom_67 : dc cX5_copyFrom 67 (.aload_n 0) 1 68 := ⟨by decide +kernel, rfl⟩
theorem dX5_copyFrom_68 : dc cX5_copyFrom 68 (.getfield 31) 3 71 := ⟨by decide +kernel, rfl⟩
theorem dX5_copyFrom_71 : dc cX5_copyFrom 71 (.iconst 0) 1 72 := ⟨by decide +kernel, rfl⟩
theorem dX5_copyFrom_72 : dc cX5_copyFrom 72 (.bipush 8) 2 74 := ⟨by decide +kernel, rfl⟩
theorem dX5_copyFrom_74 : dc cX5_copyFrom 74 (.invokestatic 49) 3 77 := ⟨by decide +kernel, rfl⟩
theorem dX5_copyFrom_77 : dc cX5_copyFrom 77 (.aload_n 1) 1 78 := ⟨by decide +kernel, rfl⟩
theorem dX5_copyFrom_78 : dc cX5_copyFrom 78 (.getfield 34) 3 81 := ⟨by decide +kernel, rfl⟩
theorem dX5_copyFrom_81 : dc cX5_copyFrom 81 (.iconst 0) 1 82 := ⟨by decide +kernel, rfl⟩
theorem dX5_copyFrom_82 : dc cX5_copyFrom 82 (.aload_n 0) 1 83 := ⟨by decide +kernel, rfl⟩
theorem dX5_copyFrom_83 : dc cX5_copyFrom 83 (.getfield 34) 3 86 := ⟨by decide +kernel, rfl⟩
theorem dX5_copyFrom_86 : dc cX5_copyFrom 86 (.iconst 0) 1 87 := ⟨by decide +kernel, rfl⟩
theorem dX5_copyFrom_87 : dc cX5_copyFrom 87 (.bipush 64) 2 89 := ⟨by decide +kernel, rfl⟩
theorem dX5_copyFrom_89 : dc cX5_copyFrom 89 (.invokestatic 49) 3 92 := ⟨by decide +kernel, rfl⟩
theorem dX5_copyFrom_92 : dc cX5_copyFrom 92 (.aload_n 1) 1 93 := ⟨by decide +kernel, rfl⟩
theorem dX5_copyFrom_93 : dc cX5_copyFrom 93 (.getfield 37) 3 96 := ⟨by decide +kernel, rfl⟩
theorem dX5_copyFrom_96 : dc cX5_copyFrom 96 (.iconst 0) 1 97 := ⟨by decide +kernel, rfl⟩
theorem dX5_copyFrom_97 : dc cX5_copyFrom 97 (.aload_n 0) 1 98 := ⟨by decide +kernel, rfl⟩
theorem dX5_copyFrom_98 : dc cX5_copyFrom 98 (.getfield 37) 3 101 := ⟨by decide +kernel, rfl⟩
theorem dX5_copyFrom_101 : dc cX5_copyFrom 101 (.iconst 0) 1 102 := ⟨by decide +kernel, rfl⟩
theorem dX5_copyFrom_102 : dc cX5_copyFrom 102 (.bipush 6) 2 104 := ⟨by decide +kernel, rfl⟩
theorem dX5_copyFrom_104 : dc cX5_copyFrom 104 (.invokestatic 49) 3 107 := ⟨by decide +kernel, rfl⟩
theorem dX5_copyFrom_107 : dc cX5_copyFrom 107 (.aload_n 1) 1 108 := ⟨by decide +kernel, rfl⟩
theorem dX5_copyFrom_108 : dc cX5_copyFrom 108 (.getfield 40) 3 111 := ⟨by decide +kernel, rfl⟩
theorem dX5_copyFrom_111 : dc cX5_copyFrom 111 (.iconst 0) 1 112 := ⟨by decide +kernel, rfl⟩
theorem dX5_copyFrom_112 : dc cX5_copyFrom 112 (.aload_n 0) 1 113 := ⟨by decide +kernel, rfl⟩
theorem dX5_copyFrom_113 : dc cX5_copyFrom 113 (.getfield 40) 3 116 := ⟨by decide +kernel, rfl⟩
theorem dX5_copyFrom_116 : dc cX5_copyFrom 116 (.iconst 0) 1 117 := ⟨by decide +kernel, rfl⟩
theorem dX5_copyFrom_117 : dc cX5_copyFrom 117 (.bipush 6) 2 119 := ⟨by decide +kernel, rfl⟩
theorem dX5_copyFrom_119 : dc cX5_copyFrom 119 (.invokestatic 49) 3 122 := ⟨by decide +kernel, rfl⟩
theorem dX5_copyFrom_122 : dc cX5_copyFrom 122 (.aload_n 1) 1 123 := ⟨by decide +kernel, rfl⟩
theorem dX5_copyFrom_123 : dc cX5_copyFrom 123 (.getfield 43) 3 126 := ⟨by decide +kernel, rfl⟩
theorem dX5_copyFrom_126 : dc cX5_copyFrom 126 (.iconst 0) 1 127 := ⟨by decide +kernel, rfl⟩
theorem dX5_copyFrom_127 : dc cX5_copyFrom 127 (.aload_n 0) 1 128 := ⟨by decide +kernel, rfl⟩
theorem dX5_copyFrom_128 : dc cX5_copyFrom 128 (.getfield 43) 3 131 := ⟨by decide +kernel, rfl⟩
theorem dX5_copyFrom_131 : dc cX5_copyFrom 131 (.iconst 0) 1 132 := ⟨by decide +kernel, rfl⟩
theorem dX5_copyFrom_132 : dc cX5_copyFrom 132 (.bipush 6) 2 134 := ⟨by decide +kernel, rfl⟩
theorem dX5_copyFrom_134 : dc cX5_copyFrom 134 (.invokestatic 49) 3 137 := ⟨by decide +kernel, rfl⟩
theorem dX5_copyFrom_137 : dc cX5_copyFrom 137 (.aload_n 1) 1 138 := ⟨by decide +kernel, rfl⟩
theorem dX5_copyFrom_138 : dc cX5_copyFrom 138 (.getfield 46) 3 141 := ⟨by decide +kernel, rfl⟩
theorem dX5_copyFrom_141 : dc cX5_copyFrom 141 (.iconst 0) 1 142 := ⟨by decide +kernel, rfl⟩
theorem dX5_copyFrom_142 : dc cX5_copyFrom 142 (.aload_n 0) 1 143 := ⟨by decide +kernel, rfl⟩
theorem dX5_copyFrom_143 : dc cX5_copyFrom 143 (.getfield 46) 3 146 := ⟨by decide +kernel, rfl⟩
theorem dX5_copyFrom_146 : dc cX5_copyFrom 146 (.iconst 0) 1 147 := ⟨by decide +kernel, rfl⟩
theorem dX5_copyFrom_147 : dc cX5_copyFrom 147 (.bipush 8) 2 149 := ⟨by decide +kernel, rfl⟩
theorem dX5_copyFrom_149 : dc cX5_copyFrom 149 (.invokestatic 49) 3 152 := ⟨by decide +kernel, rfl⟩
theorem dX5_copyFrom_152 : dc cX5_copyFrom 152 (.return_) 1 153 := ⟨by decide +kernel, rfl⟩
theorem dX5_isLiving_0 : dc cX5_isLiving 0 (.iload_n 1) 1 1 := ⟨by decide +kernel, rfl⟩
theorem dX5_isLiving_1 : dc cX5_isLiving 1 (.invokestatic 55) 3 4 := ⟨by decide +kernel, rfl⟩
theorem dX5_isLiving_4 : dc cX5_isLiving 4 (.ifCond .eq 18) 3 7 := ⟨by decide +kernel, rfl⟩
theorem dX5_isLiving_7 : dc cX5_isLiving 7 (.aload_n 0) 1 8 := ⟨by decide +kernel, rfl⟩
theorem dX5_isLiving_8 : dc cX5_isLiving 8 (.getfield 9) 3 11 := ⟨by decide +kernel, rfl⟩
theorem dX5_isLiving_11 : dc cX5_isLiving 11 (.iload_n 1) 1 12 := ⟨by decide +kernel, rfl⟩
theorem dX5_isLiving_12 : dc cX5_isLiving 12 (.invokestatic 59) 3 15 := ⟨by decide +kernel, rfl⟩
theorem dX5_isLiving_15 : dc cX5_isLiving 15 (.ifCond .eq 7) 3 18 := ⟨by decide +kernel, rfl⟩
theorem dX5_isLiving_18 : dc cX5_isLiving 18 (.iconst 1) 1 19 := ⟨by decide +kernel, rfl⟩
theorem dX5_isLiving_19 : dc cX5_isLiving 19 (.goto 4) 3 22 := ⟨by decide +kernel, rfl⟩
theorem dX5_isLiving_22 : dc cX5_isLiving 22 (.iconst 0) 1 23 := ⟨by decide +kernel, rfl⟩
theorem dX5_isLiving_23 : dc cX5_isLiving 23 (.ireturn) 1 24 := ⟨by decide +kernel, rfl⟩
theorem dX5_bear_0 : dc cX5_bear 0 (.aload_n 0) 1 1 := ⟨by decide +kernel, rfl⟩
theorem dX5_bear_1 : dc cX5_bear 1 (.dup) 1 2 := ⟨by decide +kernel, rfl⟩
theorem dX5_bear_2 : dc cX5_bear 2 (.getfield 9) 3 5 := ⟨by decide +kernel, rfl⟩
theorem dX5_bear_5 : dc cX5_bear 5 (.iconst 1) 1 6 := ⟨by decide +kernel, rfl⟩
theorem dX5_bear_6 : dc cX5_bear 6 (.iload_n 1) 1 7 := ⟨by decide +kernel, rfl⟩
theorem dX5_bear_7 : dc cX5_bear 7 (.ishl) 1 8 := ⟨by decide +kernel, rfl⟩
theorem dX5_bear_8 : dc cX5_bear 8 (.ior) 1 9 := ⟨by decide +kernel, rfl⟩
theorem dX5_bear_9 : dc cX5_bear 9 (.putfield 9) 3 12 := ⟨by decide +kernel, rfl⟩
theorem dX5_bear_12 : dc cX5_bear 12 (.aload_n 0) 1 13 := ⟨by decide +kernel, rfl⟩
theorem dX5_bear_13 : dc cX5_bear 13 (.getfield 24) 3 16 := ⟨by decide +kernel, rfl⟩
theorem dX5_bear_16 : dc cX5_bear 16 (.iload_n 1) 1 17 := ⟨by decide +kernel, rfl⟩
theorem dX5_bear_17 : dc cX5_bear 17 (.iload_n 2) 1 18 := ⟨by decide +kernel, rfl⟩
theorem dX5_bear_18 : dc cX5_bear 18 (.iastore) 1 19 := ⟨by decide +kernel, rfl⟩
theorem dX5_bear_19 : dc cX5_bear 19 (.aload_n 0) 1 20 := ⟨by decide +kernel, rfl⟩
theorem dX5_bear_20 : dc cX5_bear 20 (.getfield 28) 3 23 := ⟨by decide +kernel, rfl⟩
theorem dX5_bear_23 : dc cX5_bear 23 (.iload_n 1) 1 24 := ⟨by decide +kernel, rfl⟩
theorem dX5_bear_24 : dc cX5_bear 24 (.iload_n 3) 1 25 := ⟨by decide +kernel, rfl⟩
theorem dX5_bear_25 : dc cX5_bear 25 (.iastore) 1 26 := ⟨by decide +kernel, rfl⟩
theorem dX5_bear_26 : dc cX5_bear 26 (.aload_n 0) 1 27 := ⟨by decide +kernel, rfl⟩
theorem dX5_bear_27 : dc cX5_bear 27 (.getfield 31) 3 30 := ⟨by decide +kernel, rfl⟩
theorem dX5_bear_30 : dc cX5_bear 30 (.iload_n 1) 1 31 := ⟨by decide +kernel, rfl⟩
theorem dX5_bear_31 : dc cX5_bear 31 (.bipush (-6)) 2 33 := ⟨by decide +kernel, rfl⟩
theorem dX5_bear_33 : dc cX5_bear 33 (.iastore) 1 34 := ⟨by decide +kernel, rfl⟩
theorem dX5_bear_34 : dc cX5_bear 34 (.iconst 0) 1 35 := ⟨by decide +kernel, rfl⟩
theorem dX5_bear_35 : dc cX5_bear 35 (.istore 4) 2 37 := ⟨by decide +kernel, rfl⟩
theorem dX5_bear_37 : dc cX5_bear 37 (.iload 4) 2 39 := ⟨by decide +kernel, rfl⟩
theorem dX5_bear_39 : dc cX5_bear 39 (.bipush 8) 2 41 := ⟨by decide +kernel, rfl⟩
theorem dX5_bear_41 : dc cX5_bear 41 (.if_icmp .ge 33) 3 44 := ⟨by decide +kernel, rfl⟩
theorem dX5_bear_44 : dc cX5_bear 44 (.aload_n 0) 1 45 := ⟨by decide +kernel, rfl⟩
theorem dX5_bear_45 : dc cX5_bear 45 (.getfield 34) 3 48 := ⟨by decide +kernel, rfl⟩
theorem dX5_bear_48 : dc cX5_bear 48 (.iload_n 1) 1 49 := ⟨by decide +kernel, rfl⟩
theorem dX5_bear_49 : dc cX5_bear 49 (.iload 4) 2 51 := ⟨by decide +kernel, rfl⟩
theorem dX5_bear_51 : dc cX5_bear 51 (.invokestatic 63) 3 54 := ⟨by decide +kernel, rfl⟩
theorem dX5_bear_54 : dc cX5_bear 54 (.iconst 0) 1 55 := ⟨by decide +kernel, rfl⟩
theorem dX5_bear_55 : dc cX5_bear 55 (.iastore) 1 56 := ⟨by decide +kernel, rfl⟩
theorem dX5_bear_56 : dc cX5_bear 56 (.aload_n 0) 1 57 := ⟨by decide +kernel, rfl⟩
theorem dX5_bear_57 : dc cX5_bear 57 (.getfield 34) 3 60 := ⟨by decide +kernel, rfl⟩
theorem dX5_bear_60 : dc cX5_bear 60 (.iload 4) 2 62 := ⟨by decide +kernel, rfl⟩
theorem dX5_bear_62 : dc cX5_bear 62 (.iload_n 1) 1 63 := ⟨by decide +kernel, rfl⟩
theorem dX5_bear_63 : dc cX5_bear 63 (.invokestatic 63) 3 66 := ⟨by decide +kernel, rfl⟩
theorem dX5_bear_66 : dc cX5_bear 66 (.iconst 0) 1 67 := ⟨by decide +kernel, rfl⟩
theorem dX5_bear_67 : dc cX5_bear 67 (.iastore) 1 68 := ⟨by decide +kernel, rfl⟩
theorem dX5_bear_68 : dc cX5_bear 68 (.iinc 4 1) 3 71 := ⟨by decide +kernel, rfl⟩
theorem dX5_bear_71 : dc cX5_bear 71 (.goto (-34)) 3 74 := ⟨by decide +kernel, rfl⟩
theorem dX5_bear_74 : dc cX5_bear 74 (.return_) 1 75 := ⟨by decide +kernel, rfl⟩
theorem dX5_felt_0 : dc cX5_felt 0 (.aload_n 0) 1 1 := ⟨by decide +kernel, rfl⟩
theorem dX5_felt_1 : dc cX5_felt 1 (.getfield 37) 3 4 := ⟨by decide +kernel, rfl⟩
theorem dX5_felt_4 : dc cX5_felt 4 (.iload_n 1) 1 5 := ⟨by decide +kernel, rfl⟩
theorem dX5_felt_5 : dc cX5_felt 5 (.iaload) 1 6 := ⟨by decide +kernel, rfl⟩
theorem dX5_felt_6 : dc cX5_felt 6 (.aload_n 0) 1 7 := ⟨by decide +kernel, rfl⟩
theorem dX5_felt_7 : dc cX5_felt 7 (.getfield 24) 3 10 := ⟨by decide +kernel, rfl⟩
theorem dX5_felt_10 : dc cX5_felt 10 (.iload_n 2) 1 11 := ⟨by decide +kernel, rfl⟩
theorem dX5_felt_11 : dc cX5_felt 11 (.iaload) 1 12 := ⟨by decide +kernel, rfl⟩
theorem dX5_felt_12 : dc cX5_felt 12 (.iand) 1 13 := ⟨by decide +kernel, rfl⟩
theorem dX5_felt_13 : dc cX5_felt 13 (.invokestatic 67) 3 16 := ⟨by decide +kernel, rfl⟩
theorem dX5_felt_16 : dc cX5_felt 16 (.ireturn) 1 17 := ⟨by decide +kernel, rfl⟩
theorem dX5_letsIn_0 : dc cX5_letsIn 0 (.iload_n 1) 1 1 := ⟨by decide +kernel, rfl⟩
theorem dX5_letsIn_1 : dc cX5_letsIn 1 (.invokestatic 73) 3 4 := ⟨by decide +kernel, rfl⟩
theorem dX5_letsIn_4 : dc cX5_letsIn 4 (.ifCond .eq 30) 3 7 := ⟨by decide +kernel, rfl⟩
theorem dX5_letsIn_7 : dc cX5_letsIn 7 (.aload_n 0) 1 8 := ⟨by decide +kernel, rfl⟩
theorem dX5_letsIn_8 : dc cX5_letsIn 8 (.iload_n 2) 1 9 := ⟨by decide +kernel, rfl⟩
theorem dX5_letsIn_9 : dc cX5_letsIn 9 (.invokevirtual 76) 3 12 := ⟨by decide +kernel, rfl⟩
theorem dX5_letsIn_12 : dc cX5_letsIn 12 (.ifCond .eq 22) 3 15 := ⟨by decide +kernel, rfl⟩
theorem dX5_letsIn_15 : dc cX5_letsIn 15 (.aload_n 0) 1 16 := ⟨by decide +kernel, rfl⟩
theorem dX5_letsIn_16 : dc cX5_letsIn 16 (.iload_n 1) 1 17 := ⟨by decide +kernel, rfl⟩
theorem dX5_letsIn_17 : dc cX5_letsIn 17 (.iload_n 2) 1 18 := ⟨by decide +kernel, rfl⟩
theorem dX5_letsIn_18 : dc cX5_letsIn 18 (.invokevirtual 79) 3 21 := ⟨by decide +kernel, rfl⟩
theorem dX5_letsIn_21 : dc cX5_letsIn 21 (.aload_n 0) 1 22 := ⟨by decide +kernel, rfl⟩
theorem dX5_letsIn_22 : dc cX5_letsIn 22 (.getfield 40) 3 25 := ⟨by decide +kernel, rfl⟩
theorem dX5_letsIn_25 : dc cX5_letsIn 25 (.iload_n 1) 1 26 := ⟨by decide +kernel, rfl⟩
theorem dX5_letsIn_26 : dc cX5_letsIn 26 (.iaload) 1 27 := ⟨by decide +kernel, rfl⟩
theorem dX5_letsIn_27 : dc cX5_letsIn 27 (.if_icmp .lt 7) 3 30 := ⟨by decide +kernel, rfl⟩
theorem dX5_letsIn_30 : dc cX5_letsIn 30 (.iconst 1) 1 31 := ⟨by decide +kernel, rfl⟩
theorem dX5_letsIn_31 : dc cX5_letsIn 31 (.goto 4) 3 34 := ⟨by decide +kernel, rfl⟩
theorem dX5_letsIn_34 : dc cX5_letsIn 34 (.iconst 0) 1 35 := ⟨by decide +kernel, rfl⟩
theorem dX5_letsIn_35 : dc cX5_letsIn 35 (.ireturn) 1 36 := ⟨by decide +kernel, rfl⟩
theorem dX5_soulsLetIn_0 : dc cX5_soulsLetIn 0 (.iconst 0) 1 1 := ⟨by decide +kernel, rfl⟩
theorem dX5_soulsLetIn_1 : dc cX5_soulsLetIn 1 (.istore_n 2) 1 2 := ⟨by decide +kernel, rfl⟩
theorem dX5_soulsLetIn_2 : dc cX5_soulsLetIn 2 (.iconst 0) 1 3 := ⟨by decide +kernel, rfl⟩
theorem dX5_soulsLetIn_3 : dc cX5_soulsLetIn 3 (.istore_n 3) 1 4 := ⟨by decide +kernel, rfl⟩
theorem dX5_soulsLetIn_4 : dc cX5_soulsLetIn 4 (.iload_n 3) 1 5 := ⟨by decide +kernel, rfl⟩
theorem dX5_soulsLetIn_5 : dc cX5_soulsLetIn 5 (.bipush 8) 2 7 := ⟨by decide +kernel, rfl⟩
theorem dX5_soulsLetIn_7 : dc cX5_soulsLetIn 7 (.if_icmp .ge 24) 3 10 := ⟨by decide +kernel, rfl⟩
theorem dX5_soulsLetIn_10 : dc cX5_soulsLetIn 10 (.aload_n 0) 1 11 := ⟨by decide +kernel, rfl⟩
theorem dX5_soulsLetIn_11 : dc cX5_soulsLetIn 11 (.iload_n 1) 1 12 := ⟨by decide +kernel, rfl⟩
theorem dX5_soulsLetIn_12 : dc cX5_soulsLetIn 12 (.iload_n 3) 1 13 := ⟨by decide +kernel, rfl⟩
theorem dX5_soulsLetIn_13 : dc cX5_soulsLetIn 13 (.invokevirtual 82) 3 16 := ⟨by decide +kernel, rfl⟩
theorem dX5_soulsLetIn_16 : dc cX5_soulsLetIn 16 (.ifCond .eq 9) 3 19 := ⟨by decide +kernel, rfl⟩
theorem dX5_soulsLetIn_19 : dc cX5_soulsLetIn 19 (.iload_n 2) 1 20 := ⟨by decide +kernel, rfl⟩
theorem dX5_soulsLetIn_20 : dc cX5_soulsLetIn 20 (.iconst 1) 1 21 := ⟨by decide +kernel, rfl⟩
theorem dX5_soulsLetIn_21 : dc cX5_soulsLetIn 21 (.iload_n 3) 1 22 := ⟨by decide +kernel, rfl⟩
theorem dX5_soulsLetIn_22 : dc cX5_soulsLetIn 22 (.ishl) 1 23 := ⟨by decide +kernel, rfl⟩
theorem dX5_soulsLetIn_23 : dc cX5_soulsLetIn 23 (.ior) 1 24 := ⟨by decide +kernel, rfl⟩
theorem dX5_soulsLetIn_24 : dc cX5_soulsLetIn 24 (.istore_n 2) 1 25 := ⟨by decide +kernel, rfl⟩
theorem dX5_soulsLetIn_25 : dc cX5_soulsLetIn 25 (.iinc 3 1) 3 28 := ⟨by decide +kernel, rfl⟩
theorem dX5_soulsLetIn_28 : dc cX5_soulsLetIn 28 (.goto (-24)) 3 31 := ⟨by decide +kernel, rfl⟩
theorem dX5_soulsLetIn_31 : dc cX5_soulsLetIn 31 (.iload_n 2) 1 32 := ⟨by decide +kernel, rfl⟩
theorem dX5_soulsLetIn_32 : dc cX5_soulsLetIn 32 (.ireturn) 1 33 := ⟨by decide +kernel, rfl⟩
theorem dX5_boxesFor_0 : dc cX5_boxesFor 0 (.iconst 0) 1 1 := ⟨by decide +kernel, rfl⟩
theorem dX5_boxesFor_1 : dc cX5_boxesFor 1 (.istore_n 2) 1 2 := ⟨by decide +kernel, rfl⟩
theorem dX5_boxesFor_2 : dc cX5_boxesFor 2 (.iconst 0) 1 3 := ⟨by decide +kernel, rfl⟩
theorem dX5_boxesFor_3 : dc cX5_boxesFor 3 (.istore_n 3) 1 4 := ⟨by decide +kernel, rfl⟩
theorem dX5_boxesFor_4 : dc cX5_boxesFor 4 (.iload_n 3) 1 5 := ⟨by decide +kernel, rfl⟩
theorem dX5_boxesFor_5 : dc cX5_boxesFor 5 (.bipush 6) 2 7 := ⟨by decide +kernel, rfl⟩
theorem dX5_boxesFor_7 : dc cX5_boxesFor 7 (.if_icmp .ge 24) 3 10 := ⟨by decide +kernel, rfl⟩
theorem dX5_boxesFor_10 : dc cX5_boxesFor 10 (.aload_n 0) 1 11 := ⟨by decide +kernel, rfl⟩
theorem dX5_boxesFor_11 : dc cX5_boxesFor 11 (.iload_n 3) 1 12 := ⟨by decide +kernel, rfl⟩
theorem dX5_boxesFor_12 : dc cX5_boxesFor 12 (.iload_n 1) 1 13 := ⟨by decide +kernel, rfl⟩
theorem dX5_boxesFor_13 : dc cX5_boxesFor 13 (.invokevirtual 82) 3 16 := ⟨by decide +kernel, rfl⟩
theorem dX5_boxesFor_16 : dc cX5_boxesFor 16 (.ifCond .eq 9) 3 19 := ⟨by decide +kernel, rfl⟩
theorem dX5_boxesFor_19 : dc cX5_boxesFor 19 (.iload_n 2) 1 20 := ⟨by decide +kernel, rfl⟩
theorem dX5_boxesFor_20 : dc cX5_boxesFor 20 (.iconst 1) 1 21 := ⟨by decide +kernel, rfl⟩
theorem dX5_boxesFor_21 : dc cX5_boxesFor 21 (.iload_n 3) 1 22 := ⟨by decide +kernel, rfl⟩
theorem dX5_boxesFor_22 : dc cX5_boxesFor 22 (.ishl) 1 23 := ⟨by decide +kernel, rfl⟩
theorem dX5_boxesFor_23 : dc cX5_boxesFor 23 (.ior) 1 24 := ⟨by decide +kernel, rfl⟩
theorem dX5_boxesFor_24 : dc cX5_boxesFor 24 (.istore_n 2) 1 25 := ⟨by decide +kernel, rfl⟩
theorem dX5_boxesFor_25 : dc cX5_boxesFor 25 (.iinc 3 1) 3 28 := ⟨by decide +kernel, rfl⟩
theorem dX5_boxesFor_28 : dc cX5_boxesFor 28 (.goto (-24)) 3 31 := ⟨by decide +kernel, rfl⟩
theorem dX5_boxesFor_31 : dc cX5_boxesFor 31 (.iload_n 2) 1 32 := ⟨by decide +kernel, rfl⟩
theorem dX5_boxesFor_32 : dc cX5_boxesFor 32 (.ireturn) 1 33 := ⟨by decide +kernel, rfl⟩
theorem dX5_hindrance_0 : dc cX5_hindrance 0 (.aload_n 1) 1 1 := ⟨by decide +kernel, rfl⟩
theorem dX5_hindrance_1 : dc cX5_hindrance 1 (.getfield 85) 3 4 := ⟨by decide +kernel, rfl⟩
theorem dX5_hindrance_4 : dc cX5_hindrance 4 (.ifCond .ne 18) 3 7 := ⟨by decide +kernel, rfl⟩
theorem dX5_hindrance_7 : dc cX5_hindrance 7 (.aload_n 0) 1 8 := ⟨by decide +kernel, rfl⟩
theorem dX5_hindrance_8 : dc cX5_hindrance 8 (.getfield 15) 3 11 := ⟨by decide +kernel, rfl⟩
theorem dX5_hindrance_11 : dc cX5_hindrance 11 (.bipush 99) 2 13 := ⟨by decide +kernel, rfl⟩
theorem dX5_hindrance_13 : dc cX5_hindrance 13 (.if_icmp .lt 7) 3 16 := ⟨by decide +kernel, rfl⟩
theorem dX5_hindrance_16 : dc cX5_hindrance 16 (.iconst 5) 1 17 := ⟨by decide +kernel, rfl⟩
theorem dX5_hindrance_17 : dc cX5_hindrance 17 (.goto 4) 3 20 := ⟨by decide +kernel, rfl⟩
theorem dX5_hindrance_20 : dc cX5_hindrance 20 (.iconst 0) 1 21 := ⟨by decide +kernel, rfl⟩
theorem dX5_hindrance_21 : dc cX5_hindrance 21 (.ireturn) 1 22 := ⟨by decide +kernel, rfl⟩
theorem dX5_hindrance_22 : dc cX5_hindrance 22 (.aload_n 0) 1 23 := ⟨by decide +kernel, rfl⟩
theorem dX5_hindrance_23 : dc cX5_hindrance 23 (.aload_n 1) 1 24 := ⟨by decide +kernel, rfl⟩
theorem dX5_hindrance_24 : dc cX5_hindrance 24 (.getfield 90) 3 27 := ⟨by decide +kernel, rfl⟩
theorem dX5_hindrance_27 : dc cX5_hindrance 27 (.invokevirtual 76) 3 30 := ⟨by decide +kernel, rfl⟩
theorem dX5_hindrance_30 : dc cX5_hindrance 30 (.ifCond .ne 5) 3 33 := ⟨by decide +kernel, rfl⟩
theorem dX5_hindrance_33 : dc cX5_hindrance 33 (.iconst 1) 1 34 := ⟨by decide +kernel, rfl⟩
theorem dX5_hindrance_34 : dc cX5_hindrance 34 (.ireturn) 1 35 := ⟨by decide +kernel, rfl⟩
theorem dX5_hindrance_35 : dc cX5_hindrance 35 (.aload_n 1) 1 36 := ⟨by decide +kernel, rfl⟩
theorem dX5_hindrance_36 : dc cX5_hindrance 36 (.getfield 85) 3 39 := ⟨by decide +kernel, rfl⟩
theorem dX5_hindrance_39 : dc cX5_hindrance 39 (.iconst 3) 1 40 := ⟨by decide +kernel, rfl⟩
theorem dX5_hindrance_40 : dc cX5_hindrance 40 (.if_icmp .ne 5) 3 43 := ⟨by decide +kernel, rfl⟩
theorem dX5_hindrance_43 : dc cX5_hindrance 43 (.iconst 0) 1 44 := ⟨by decide +kernel, rfl⟩
theorem dX5_hindrance_44 : dc cX5_hindrance 44 (.ireturn) 1 45 := ⟨by decide +kernel, rfl⟩
theorem dX5_hindrance_45 : dc cX5_hindrance 45 (.aload_n 1) 1 46 := ⟨by decide +kernel, rfl⟩
theorem dX5_hindrance_46 : dc cX5_hindrance 46 (.getfield 90) 3 49 := ⟨by decide +kernel, rfl⟩
theorem dX5_hindrance_49 : dc cX5_hindrance 49 (.aload_n 1) 1 50 := ⟨by decide +kernel, rfl⟩
theorem dX5_hindrance_50 : dc cX5_hindrance 50 (.getfield 93) 3 53 := ⟨by decide +kernel, rfl⟩
theorem dX5_hindrance_53 : dc cX5_hindrance 53 (.if_icmp .ne 5) 3 56 := ⟨by decide +kernel, rfl⟩
theorem dX5_hindrance_56 : dc cX5_hindrance 56 (.iconst 2) 1 57 := ⟨by decide +kernel, rfl⟩
theorem dX5_hindrance_57 : dc cX5_hindrance 57 (.ireturn) 1 58 := ⟨by decide +kernel, rfl⟩
theorem dX5_hindrance_58 : dc cX5_hindrance 58 (.aload_n 1) 1 59 := ⟨by decide +kernel, rfl⟩
theorem dX5_hindrance_59 : dc cX5_hindrance 59 (.getfield 85) 3 62 := ⟨by decide +kernel, rfl⟩
theorem dX5_hindrance_62 : dc cX5_hindrance 62 (.iconst 1) 1 63 := ⟨by decide +kernel, rfl⟩
theorem dX5_hindrance_63 : dc cX5_hindrance 63 (.if_icmp .ne 30) 3 66 := ⟨by decide +kernel, rfl⟩
theorem dX5_hindrance_66 : dc cX5_hindrance 66 (.aload_n 1) 1 67 := ⟨by decide +kernel, rfl⟩
theorem dX5_hindrance_67 : dc cX5_hindrance 67 (.getfield 93) 3 70 := ⟨by decide +kernel, rfl⟩
theorem dX5_hindrance_70 : dc cX5_hindrance 70 (.invokestatic 55) 3 73 := ⟨by decide +kernel, rfl⟩
theorem dX5_hindrance_73 : dc cX5_hindrance 73 (.ifCond .eq 14) 3 76 := ⟨by decide +kernel, rfl⟩
theorem dX5_hindrance_76 : dc cX5_hindrance 76 (.aload_n 0) 1 77 := ⟨by decide +kernel, rfl⟩
theorem dX5_hindrance_77 : dc cX5_hindrance 77 (.aload_n 1) 1 78 := ⟨by decide +kernel, rfl⟩
theorem dX5_hindrance_78 : dc cX5_hindrance 78 (.getfield 93) 3 81 := ⟨by decide +kernel, rfl⟩
theorem dX5_hindrance_81 : dc cX5_hindrance 81 (.invokevirtual 76) 3 84 := ⟨by decide +kernel, rfl⟩
theorem dX5_hindrance_84 : dc cX5_hindrance 84 (.ifCond .eq 7) 3 87 := ⟨by decide +kernel, rfl⟩
theorem dX5_hindrance_87 : dc cX5_hindrance 87 (.iconst 3) 1 88 := ⟨by decide +kernel, rfl⟩
theorem dX5_hindrance_88 : dc cX5_hindrance 88 (.goto 4) 3 91 := ⟨by decide +kernel, rfl⟩
theorem dX5_hindrance_91 : dc cX5_hindrance 91 (.iconst 0) 1 92 := ⟨by decide +kernel, rfl⟩
theorem dX5_hindrance_92 : dc cX5_hindrance 92 (.ireturn) 1 93 := ⟨by decide +kernel, rfl⟩
theorem dX5_hindrance_93 : dc cX5_hindrance 93 (.aload_n 0) 1 94 := ⟨by decide +kernel, rfl⟩
theorem dX5_hindrance_94 : dc cX5_hindrance 94 (.aload_n 1) 1 95 := ⟨by decide +kernel, rfl⟩
theorem dX5_hindrance_95 : dc cX5_hindrance 95 (.getfield 93) 3 98 := ⟨by decide +kernel, rfl⟩
theorem dX5_hindrance_98 : dc cX5_hindrance 98 (.invokevirtual 76) 3 101 := ⟨by decide +kernel, rfl⟩
theorem dX5_hindrance_101 : dc cX5_hindrance 101 (.ifCond .ne 5) 3 104 := ⟨by decide +kernel, rfl⟩
theorem dX5_hindrance_104 : dc cX5_hindrance 104 (.iconst 3) 1 105 := ⟨by decide +kernel, rfl⟩
theorem dX5_hindrance_105 : dc cX5_hindrance 105 (.ireturn) 1 106 := ⟨by decide +kernel, rfl⟩
theorem dX5_hindrance_106 : dc cX5_hindrance 106 (.aload_n 0) 1 107 := ⟨by decide +kernel, rfl⟩
theorem dX5_hindrance_107 : dc cX5_hindrance 107 (.aload_n 1) 1 108 := ⟨by decide +kernel, rfl⟩
theorem dX5_hindrance_108 : dc cX5_hindrance 108 (.getfield 90) 3 111 := ⟨by decide +kernel, rfl⟩
theorem dX5_hindrance_111 : dc cX5_hindrance 111 (.aload_n 1) 1 112 := ⟨by decide +kernel, rfl⟩
theorem dX5_hindrance_112 : dc cX5_hindrance 112 (.getfield 93) 3 115 := ⟨by decide +kernel, rfl⟩
theorem dX5_hindrance_115 : dc cX5_hindrance 115 (.aload_n 1) 1 116 := ⟨by decide +kernel, rfl⟩
theorem dX5_hindrance_116 : dc cX5_hindrance 116 (.getfield 96) 3 119 := ⟨by decide +kernel, rfl⟩
theorem dX5_hindrance_119 : dc cX5_hindrance 119 (.invokevirtual 98) 3 122 := ⟨by decide +kernel, rfl⟩
theorem dX5_hindrance_122 : dc cX5_hindrance 122 (.ifCond .eq 7) 3 125 := ⟨by decide +kernel, rfl⟩
theorem dX5_hindrance_125 : dc cX5_hindrance 125 (.iconst 0) 1 126 := ⟨by decide +kernel, rfl⟩
theorem dX5_hindrance_126 : dc cX5_hindrance 126 (.goto 4) 3 129 := ⟨by decide +kernel, rfl⟩
theorem dX5_hindrance_129 : dc cX5_hindrance 129 (.iconst 4) 1 130 := ⟨by decide +kernel, rfl⟩
theorem dX5_hindrance_130 : dc cX5_hindrance 130 (.ireturn) 1 131 := ⟨by decide +kernel, rfl⟩
theorem dX5_canLend_0 : dc cX5_canLend 0 (.aload_n 0) 1 1 := ⟨by decide +kernel, rfl⟩
theorem dX5_canLend_1 : dc cX5_canLend 1 (.getfield 28) 3 4 := ⟨by decide +kernel, rfl⟩
theorem dX5_canLend_4 : dc cX5_canLend 4 (.iload_n 1) 1 5 := ⟨by decide +kernel, rfl⟩
theorem dX5_canLend_5 : dc cX5_canLend 5 (.iaload) 1 6 := ⟨by decide +kernel, rfl⟩
theorem dX5_canLend_6 : dc cX5_canLend 6 (.iload_n 3) 1 7 := ⟨by decide +kernel, rfl⟩
theorem dX5_canLend_7 : dc cX5_canLend 7 (.if_icmp .lt 25) 3 10 := ⟨by decide +kernel, rfl⟩
theorem dX5_canLend_10 : dc cX5_canLend 10 (.aload_n 0) 1 11 := ⟨by decide +kernel, rfl⟩
theorem dX5_canLend_11 : dc cX5_canLend 11 (.getfield 34) 3 14 := ⟨by decide +kernel, rfl⟩
theorem dX5_canLend_14 : dc cX5_canLend 14 (.iload_n 2) 1 15 := ⟨by decide +kernel, rfl⟩
theorem dX5_canLend_15 : dc cX5_canLend 15 (.iload_n 1) 1 16 := ⟨by decide +kernel, rfl⟩
theorem dX5_canLend_16 : dc cX5_canLend 16 (.invokestatic 63) 3 19 := ⟨by decide +kernel, rfl⟩
theorem dX5_canLend_19 : dc cX5_canLend 19 (.iaload) 1 20 := ⟨by decide +kernel, rfl⟩
theorem dX5_canLend_20 : dc cX5_canLend 20 (.iload_n 3) 1 21 := ⟨by decide +kernel, rfl⟩
theorem dX5_canLend_21 : dc cX5_canLend 21 (.iadd) 1 22 := ⟨by decide +kernel, rfl⟩
theorem dX5_canLend_22 : dc cX5_canLend 22 (.sipush 999) 3 25 := ⟨by decide +kernel, rfl⟩
theorem dX5_canLend_25 : dc cX5_canLend 25 (.if_icmp .gt 7) 3 28 := ⟨by decide +kernel, rfl⟩
theorem dX5_canLend_28 : dc cX5_canLend 28 (.iconst 1) 1 29 := ⟨by decide +kernel, rfl⟩
theorem dX5_canLend_29 : dc cX5_canLend 29 (.goto 4) 3 32 := ⟨by decide +kernel, rfl⟩
theorem dX5_canLend_32 : dc cX5_canLend 32 (.iconst 0) 1 33 := ⟨by decide +kernel, rfl⟩
theorem dX5_canLend_33 : dc cX5_canLend 33 (.ireturn) 1 34 := ⟨by decide +kernel, rfl⟩
theorem dX5_perform_0 : dc cX5_perform 0 (.aload_n 1) 1 1 := ⟨by decide +kernel, rfl⟩
theorem dX5_perform_1 : dc cX5_perform 1 (.getfield 85) 3 4 := ⟨by decide +kernel, rfl⟩
theorem dX5_perform_4 : dc cX5_perform 4 (.tableswitch 75 0 2 #[28, 41, 56]) 28 32 := ⟨by decide +kernel, rfl⟩
theorem dX5_perform_32 : dc cX5_perform 32 (.aload_n 0) 1 33 := ⟨by decide +kernel, rfl⟩
theorem dX5_perform_33 : dc cX5_perform 33 (.dup) 1 34 := ⟨by decide +kernel, rfl⟩
theorem dX5_perform_34 : dc cX5_perform 34 (.getfield 15) 3 37 := ⟨by decide +kernel, rfl⟩
theorem dX5_perform_37 : dc cX5_perform 37 (.iconst 1) 1 38 := ⟨by decide +kernel, rfl⟩
theorem dX5_perform_38 : dc cX5_perform 38 (.iadd) 1 39 := ⟨by decide +kernel, rfl⟩
theorem dX5_perform_39 : dc cX5_perform 39 (.putfield 15) 3 42 := ⟨by decide +kernel, rfl⟩
theorem dX5_perform_42 : dc cX5_perform 42 (.goto 49) 3 45 := ⟨by decide +kernel, rfl⟩
theorem dX5_perform_45 : dc cX5_perform 45 (.aload_n 0) 1 46 := ⟨by decide +kernel, rfl⟩
theorem dX5_perform_46 : dc cX5_perform 46 (.aload_n 1) 1 47 := ⟨by decide +kernel, rfl⟩
theorem dX5_perform_47 : dc cX5_perform 47 (.getfield 90) 3 50 := ⟨by decide +kernel, rfl⟩
theorem dX5_perform_50 : dc cX5_perform 50 (.aload_n 1) 1 51 := ⟨by decide +kernel, rfl⟩
theorem dX5_perform_51 : dc cX5_perform 51 (.getfield 93) 3 54 := ⟨by decide +kernel, rfl⟩
theorem dX5_perform_54 : dc cX5_perform 54 (.invokevirtual 102) 3 57 := ⟨by decide +kernel, rfl⟩
theorem dX5_perform_57 : dc cX5_perform 57 (.goto 34) 3 60 := ⟨by decide +kernel, rfl⟩
theorem dX5_perform_60 : dc cX5_perform 60 (.aload_n 0) 1 61 := ⟨by decide +kernel, rfl⟩
theorem dX5_perform_61 : dc cX5_perform 61 (.aload_n 1) 1 62 := ⟨by decide +kernel, rfl⟩
theorem dX5_perform_62 : dc cX5_perform 62 (.getfield 90) 3 65 := ⟨by decide +kernel, rfl⟩
theorem dX5_perform_65 : dc cX5_perform 65 (.aload_n 1) 1 66 := ⟨by decide +kernel, rfl⟩
theorem dX5_perform_66 : dc cX5_perform 66 (.getfield 93) 3 69 := ⟨by decide +kernel, rfl⟩
theorem dX5_perform_69 : dc cX5_perform 69 (.aload_n 1) 1 70 := ⟨by decide +kernel, rfl⟩
theorem dX5_perform_70 : dc cX5_perform 70 (.getfield 96) 3 73 := ⟨by decide +kernel, rfl⟩
theorem dX5_perform_73 : dc cX5_perform 73 (.invokevirtual 106) 3 76 := ⟨by decide +kernel, rfl⟩
theorem dX5_perform_76 : dc cX5_perform 76 (.goto 15) 3 79 := ⟨by decide +kernel, rfl⟩
theorem dX5_perform_79 : dc cX5_perform 79 (.aload_n 0) 1 80 := ⟨by decide +kernel, rfl⟩
theorem dX5_perform_80 : dc cX5_perform 80 (.aload_n 1) 1 81 := ⟨by decide +kernel, rfl⟩
theorem dX5_perform_81 : dc cX5_perform 81 (.getfield 90) 3 84 := ⟨by decide +kernel, rfl⟩
theorem dX5_perform_84 : dc cX5_perform 84 (.aload_n 1) 1 85 := ⟨by decide +kernel, rfl⟩
theorem dX5_perform_85 : dc cX5_perform 85 (.getfield 93) 3 88 := ⟨by decide +kernel, rfl⟩
theorem dX5_perform_88 : dc cX5_perform 88 (.invokevirtual 110) 3 91 := ⟨by decide +kernel, rfl⟩
theorem dX5_perform_91 : dc cX5_perform 91 (.return_) 1 92 := ⟨by decide +kernel, rfl⟩
theorem dX5_tryBox_0 : dc cX5_tryBox 0 (.aload_n 0) 1 1 := ⟨by decide +kernel, rfl⟩
theorem dX5_tryBox_1 : dc cX5_tryBox 1 (.iload_n 2) 1 2 := ⟨by decide +kernel, rfl⟩
theorem dX5_tryBox_2 : dc cX5_tryBox 2 (.iload_n 1) 1 3 := ⟨by decide +kernel, rfl⟩
theorem dX5_tryBox_3 : dc cX5_tryBox 3 (.invokevirtual 82) 3 6 := ⟨by decide +kernel, rfl⟩
theorem dX5_tryBox_6 : dc cX5_tryBox 6 (.ifCond .eq 21) 3 9 := ⟨by decide +kernel, rfl⟩
theorem dX5_tryBox_9 : dc cX5_tryBox 9 (.aload_n 0) 1 10 := ⟨by decide +kernel, rfl⟩
theorem dX5_tryBox_10 : dc cX5_tryBox 10 (.iload_n 1) 1 11 := ⟨by decide +kernel, rfl⟩
theorem dX5_tryBox_11 : dc cX5_tryBox 11 (.aload_n 0) 1 12 := ⟨by decide +kernel, rfl⟩
theorem dX5_tryBox_12 : dc cX5_tryBox 12 (.getfield 43) 3 15 := ⟨by decide +kernel, rfl⟩
theorem dX5_tryBox_15 : dc cX5_tryBox 15 (.iload_n 2) 1 16 := ⟨by decide +kernel, rfl⟩
theorem dX5_tryBox_16 : dc cX5_tryBox 16 (.iaload) 1 17 := ⟨by decide +kernel, rfl⟩
theorem dX5_tryBox_17 : dc cX5_tryBox 17 (.invokevirtual 113) 3 20 := ⟨by decide +kernel, rfl⟩
theorem dX5_tryBox_20 : dc cX5_tryBox 20 (.aload_n 0) 1 21 := ⟨by decide +kernel, rfl⟩
theorem dX5_tryBox_21 : dc cX5_tryBox 21 (.getfield 43) 3 24 := ⟨by decide +kernel, rfl⟩
theorem dX5_tryBox_24 : dc cX5_tryBox 24 (.iload_n 2) 1 25 := ⟨by decide +kernel, rfl⟩
theorem dX5_tryBox_25 : dc cX5_tryBox 25 (.iconst 0) 1 26 := ⟨by decide +kernel, rfl⟩
theorem dX5_tryBox_26 : dc cX5_tryBox 26 (.iastore) 1 27 := ⟨by decide +kernel, rfl⟩
theorem dX5_tryBox_27 : dc cX5_tryBox 27 (.return_) 1 28 := ⟨by decide +kernel, rfl⟩
theorem dX5_comeBack_0 : dc cX5_comeBack 0 (.aload_n 0) 1 1 := ⟨by decide +kernel, rfl⟩
theorem dX5_comeBack_1 : dc cX5_comeBack 1 (.dup) 1 2 := ⟨by decide +kernel, rfl⟩
theorem dX5_comeBack_2 : dc cX5_comeBack 2 (.getfield 9) 3 5 := ⟨by decide +kernel, rfl⟩
theorem dX5_comeBack_5 : dc cX5_comeBack 5 (.iconst 1) 1 6 := ⟨by decide +kernel, rfl⟩
theorem dX5_comeBack_6 : dc cX5_comeBack 6 (.iload_n 1) 1 7 := ⟨by decide +kernel, rfl⟩
theorem dX5_comeBack_7 : dc cX5_comeBack 7 (.ishl) 1 8 := ⟨by decide +kernel, rfl⟩
theorem dX5_comeBack_8 : dc cX5_comeBack 8 (.ixor) 1 9 := ⟨by decide +kernel, rfl⟩
theorem dX5_comeBack_9 : dc cX5_comeBack 9 (.putfield 9) 3 12 := ⟨by decide +kernel, rfl⟩
theorem dX5_comeBack_12 : dc cX5_comeBack 12 (.aload_n 0) 1 13 := ⟨by decide +kernel, rfl⟩
theorem dX5_comeBack_13 : dc cX5_comeBack 13 (.dup) 1 14 := ⟨by decide +kernel, rfl⟩
theorem dX5_comeBack_14 : dc cX5_comeBack 14 (.getfield 9) 3 17 := ⟨by decide +kernel, rfl⟩
theorem dX5_comeBack_17 : dc cX5_comeBack 17 (.iconst 1) 1 18 := ⟨by decide +kernel, rfl⟩
theorem dX5_comeBack_18 : dc cX5_comeBack 18 (.iload_n 2) 1 19 := ⟨by decide +kernel, rfl⟩
theorem dX5_comeBack_19 : dc cX5_comeBack 19 (.ishl) 1 20 := ⟨by decide +kernel, rfl⟩
theorem dX5_comeBack_20 : dc cX5_comeBack 20 (.ior) 1 21 := ⟨by decide +kernel, rfl⟩
theorem dX5_comeBack_21 : dc cX5_comeBack 21 (.putfield 9) 3 24 := ⟨by decide +kernel, rfl⟩
theorem dX5_comeBack_24 : dc cX5_comeBack 24 (.aload_n 0) 1 25 := ⟨by decide +kernel, rfl⟩
theorem dX5_comeBack_25 : dc cX5_comeBack 25 (.getfield 24) 3 28 := ⟨by decide +kernel, rfl⟩
theorem dX5_comeBack_28 : dc cX5_comeBack 28 (.iload_n 2) 1 29 := ⟨by decide +kernel, rfl⟩
theorem dX5_comeBack_29 : dc cX5_comeBack 29 (.aload_n 0) 1 30 := ⟨by decide +kernel, rfl⟩
theorem dX5_comeBack_30 : dc cX5_comeBack 30 (.getfield 24) 3 33 := ⟨by decide +kernel, rfl⟩
theorem dX5_comeBack_33 : dc cX5_comeBack 33 (.iload_n 1) 1 34 := ⟨by decide +kernel, rfl⟩
theorem dX5_comeBack_34 : dc cX5_comeBack 34 (.iaload) 1 35 := ⟨by decide +kernel, rfl⟩
theorem dX5_comeBack_35 : dc cX5_comeBack 35 (.aload_n 0) 1 36 := ⟨by decide +kernel, rfl⟩
theorem dX5_comeBack_36 : dc cX5_comeBack 36 (.getfield 24) 3 39 := ⟨by decide +kernel, rfl⟩
theorem dX5_comeBack_39 : dc cX5_comeBack 39 (.iload_n 1) 1 40 := ⟨by decide +kernel, rfl⟩
theorem dX5_comeBack_40 : dc cX5_comeBack 40 (.iaload) 1 41 := ⟨by decide +kernel, rfl⟩
theorem dX5_comeBack_41 : dc cX5_comeBack 41 (.iconst 1) 1 42 := ⟨by decide +kernel, rfl⟩
theorem dX5_comeBack_42 : dc cX5_comeBack 42 (.isub) 1 43 := ⟨by decide +kernel, rfl⟩
theorem dX5_comeBack_43 : dc cX5_comeBack 43 (.iand) 1 44 := ⟨by decide +kernel, rfl⟩
theorem dX5_comeBack_44 : dc cX5_comeBack 44 (.iastore) 1 45 := ⟨by decide +kernel, rfl⟩
theorem dX5_comeBack_45 : dc cX5_comeBack 45 (.aload_n 0) 1 46 := ⟨by decide +kernel, rfl⟩
theorem dX5_comeBack_46 : dc cX5_comeBack 46 (.getfield 28) 3 49 := ⟨by decide +kernel, rfl⟩
theorem dX5_comeBack_49 : dc cX5_comeBack 49 (.iload_n 2) 1 50 := ⟨by decide +kernel, rfl⟩
theorem dX5_comeBack_50 : dc cX5_comeBack 50 (.aload_n 0) 1 51 := ⟨by decide +kernel, rfl⟩
theorem dX5_comeBack_51 : dc cX5_comeBack 51 (.getfield 28) 3 54 := ⟨by decide +kernel, rfl⟩
theorem dX5_comeBack_54 : dc cX5_comeBack 54 (.iload_n 1) 1 55 := ⟨by decide +kernel, rfl⟩
theorem dX5_comeBack_55 : dc cX5_comeBack 55 (.iaload) 1 56 := ⟨by decide +kernel, rfl⟩
theorem dX5_comeBack_56 : dc cX5_comeBack 56 (.iconst 2) 1 57 := ⟨by decide +kernel, rfl⟩
theorem dX5_comeBack_57 : dc cX5_comeBack 57 (.idiv) 1 58 := ⟨by decide +kernel, rfl⟩
theorem dX5_comeBack_58 : dc cX5_comeBack 58 (.iastore) 1 59 := ⟨by decide +kernel, rfl⟩
theorem dX5_comeBack_59 : dc cX5_comeBack 59 (.aload_n 0) 1 60 := ⟨by decide +kernel, rfl⟩
theorem dX5_comeBack_60 : dc cX5_comeBack 60 (.getfield 31) 3 63 := ⟨by decide +kernel, rfl⟩
theorem dX5_comeBack_63 : dc cX5_comeBack 63 (.iload_n 2) 1 64 := ⟨by decide +kernel, rfl⟩
theorem dX5_comeBack_64 : dc cX5_comeBack 64 (.iload_n 1) 1 65 := ⟨by decide +kernel, rfl⟩
theorem dX5_comeBack_65 : dc cX5_comeBack 65 (.iastore) 1 66 := ⟨by decide +kernel, rfl⟩
theorem dX5_comeBack_66 : dc cX5_comeBack 66 (.aload_n 0) 1 67 := ⟨by decide +kernel, rfl⟩
theorem dX5_comeBack_67 : dc cX5_comeBack 67 (.getfield 24) 3 70 := ⟨by decide +kernel, rfl⟩
theorem dX5_comeBack_70 : dc cX5_comeBack 70 (.iload_n 1) 1 71 := ⟨by decide +kernel, rfl⟩
theorem dX5_comeBack_71 : dc cX5_comeBack 71 (.iconst 0) 1 72 := ⟨by decide +kernel, rfl⟩
theorem dX5_comeBack_72 : dc cX5_comeBack 72 (.iastore) 1 73 := ⟨by decide +kernel, rfl⟩
theorem dX5_comeBack_73 : dc cX5_comeBack 73 (.aload_n 0) 1 74 := ⟨by decide +kernel, rfl⟩
theorem dX5_comeBack_74 : dc cX5_comeBack 74 (.getfield 28) 3 77 := ⟨by decide +kernel, rfl⟩
theorem dX5_comeBack_77 : dc cX5_comeBack 77 (.iload_n 1) 1 78 := ⟨by decide +kernel, rfl⟩
theorem dX5_comeBack_78 : dc cX5_comeBack 78 (.iconst 0) 1 79 := ⟨by decide +kernel, rfl⟩
theorem dX5_comeBack_79 : dc cX5_comeBack 79 (.iastore) 1 80 := ⟨by decide +kernel, rfl⟩
theorem dX5_comeBack_80 : dc cX5_comeBack 80 (.iconst 0) 1 81 := ⟨by decide +kernel, rfl⟩
theorem dX5_comeBack_81 : dc cX5_comeBack 81 (.istore_n 3) 1 82 := ⟨by decide +kernel, rfl⟩
theorem dX5_comeBack_82 : dc cX5_comeBack 82 (.iload_n 3) 1 83 := ⟨by decide +kernel, rfl⟩
theorem dX5_comeBack_83 : dc cX5_comeBack 83 (.bipush 8) 2 85 := ⟨by decide +kernel, rfl⟩
theorem dX5_comeBack_85 : dc cX5_comeBack 85 (.if_icmp .ge 37) 3 88 := ⟨by decide +kernel, rfl⟩
theorem dX5_comeBack_88 : dc cX5_comeBack 88 (.aload_n 0) 1 89 := ⟨by decide +kernel, rfl⟩
theorem dX5_comeBack_89 : dc cX5_comeBack 89 (.iload_n 1) 1 90 := ⟨by decide +kernel, rfl⟩
theorem dX5_comeBack_90 : dc cX5_comeBack 90 (.iload_n 3) 1 91 := ⟨by decide +kernel, rfl⟩
theorem dX5_comeBack_91 : dc cX5_comeBack 91 (.invokestatic 63) 3 94 := ⟨by decide +kernel, rfl⟩
theorem dX5_comeBack_94 : dc cX5_comeBack 94 (.iload_n 2) 1 95 := ⟨by decide +kernel, rfl⟩
theorem dX5_comeBack_95 : dc cX5_comeBack 95 (.iload_n 3) 1 96 := ⟨by decide +kernel, rfl⟩
theorem dX5_comeBack_96 : dc cX5_comeBack 96 (.invokestatic 63) 3 99 := ⟨by decide +kernel, rfl⟩
theorem dX5_comeBack_99 : dc cX5_comeBack 99 (.invokevirtual 116) 3 102 := ⟨by decide +kernel, rfl⟩
theorem dX5_comeBack_102 : dc cX5_comeBack 102 (.aload_n 0) 1 103 := ⟨by decide +kernel, rfl⟩
theorem dX5_comeBack_103 : dc cX5_comeBack 103 (.iload_n 3) 1 104 := ⟨by decide +kernel, rfl⟩
theorem dX5_comeBack_104 : dc cX5_comeBack 104 (.iload_n 1) 1 105 := ⟨by decide +kernel, rfl⟩
theorem dX5_comeBack_105 : dc cX5_comeBack 105 (.invokestatic 63) 3 108 := ⟨by decide +kernel, rfl⟩
theorem dX5_comeBack_108 : dc cX5_comeBack 108 (.iload_n 3) 1 109 := ⟨by decide +kernel, rfl⟩
theorem dX5_comeBack_109 : dc cX5_comeBack 109 (.iload_n 2) 1 110 := ⟨by decide +kernel, rfl⟩
theorem dX5_comeBack_110 : dc cX5_comeBack 110 (.invokestatic 63) 3 113 := ⟨by decide +kernel, rfl⟩
theorem dX5_comeBack_113 : dc cX5_comeBack 113 (.invokevirtual 116) 3 116 := ⟨by decide +kernel, rfl⟩
theorem dX5_comeBack_116 : dc cX5_comeBack 116 (.iinc 3 1) 3 119 := ⟨by decide +kernel, rfl⟩
theorem dX5_comeBack_119 : dc cX5_comeBack 119 (.goto (-37)) 3 122 := ⟨by decide +kernel, rfl⟩
theorem dX5_comeBack_122 : dc cX5_comeBack 122 (.return_) 1 123 := ⟨by decide +kernel, rfl⟩
theorem dX5_moveDebt_0 : dc cX5_moveDebt 0 (.aload_n 0) 1 1 := ⟨by decide +kernel, rfl⟩
theorem dX5_moveDebt_1 : dc cX5_moveDebt 1 (.getfield 34) 3 4 := ⟨by decide +kernel, rfl⟩
theorem dX5_moveDebt_4 : dc cX5_moveDebt 4 (.iload_n 2) 1 5 := ⟨by decide +kernel, rfl⟩
theorem dX5_moveDebt_5 : dc cX5_moveDebt 5 (.aload_n 0) 1 6 := ⟨by decide +kernel, rfl⟩
theorem dX5_moveDebt_6 : dc cX5_moveDebt 6 (.getfield 34) 3 9 := ⟨by decide +kernel, rfl⟩
theorem dX5_moveDebt_9 : dc cX5_moveDebt 9 (.iload_n 1) 1 10 := ⟨by decide +kernel, rfl⟩
theorem dX5_moveDebt_10 : dc cX5_moveDebt 10 (.iaload) 1 11 := ⟨by decide +kernel, rfl⟩
theorem dX5_moveDebt_11 : dc cX5_moveDebt 11 (.iastore) 1 12 := ⟨by decide +kernel, rfl⟩
theorem dX5_moveDebt_12 : dc cX5_moveDebt 12 (.aload_n 0) 1 13 := ⟨by decide +kernel, rfl⟩
theorem dX5_moveDebt_13 : dc cX5_moveDebt 13 (.getfield 34) 3 16 := ⟨by decide +kernel, rfl⟩
theorem dX5_moveDebt_16 : dc cX5_moveDebt 16 (.iload_n 1) 1 17 := ⟨by decide +kernel, rfl⟩
theorem dX5_moveDebt_17 : dc cX5_moveDebt 17 (.iconst 0) 1 18 := ⟨by decide +kernel, rfl⟩
theorem dX5_moveDebt_18 : dc cX5_moveDebt 18 (.iastore) 1 19 := ⟨by decide +kernel, rfl⟩
theorem dX5_moveDebt_19 : dc cX5_moveDebt 19 (.return_) 1 20 := ⟨by decide +kernel, rfl⟩
theorem dX5_lend_0 : dc cX5_lend 0 (.aload_n 0) 1 1 := ⟨by decide +kernel, rfl⟩
theorem dX5_lend_1 : dc cX5_lend 1 (.getfield 28) 3 4 := ⟨by decide +kernel, rfl⟩
theorem dX5_lend_4 : dc cX5_lend 4 (.iload_n 1) 1 5 := ⟨by decide +kernel, rfl⟩
theorem dX5_lend_5 : dc cX5_lend 5 (.dup2) 1 6 := ⟨by decide +kernel, rfl⟩
theorem dX5_lend_6 : dc cX5_lend 6 (.iaload) 1 7 := ⟨by decide +kernel, rfl⟩
theorem dX5_lend_7 : dc cX5_lend 7 (.iload_n 3) 1 8 := ⟨by decide +kernel, rfl⟩
theorem dX5_lend_8 : dc cX5_lend 8 (.isub) 1 9 := ⟨by decide +kernel, rfl⟩
theorem dX5_lend_9 : dc cX5_lend 9 (.iastore) 1 10 := ⟨by decide +kernel, rfl⟩
theorem dX5_lend_10 : dc cX5_lend 10 (.aload_n 0) 1 11 := ⟨by decide +kernel, rfl⟩
theorem dX5_lend_11 : dc cX5_lend 11 (.iload_n 2) 1 12 := ⟨by decide +kernel, rfl⟩
theorem dX5_lend_12 : dc cX5_lend 12 (.iload_n 3) 1 13 := ⟨by decide +kernel, rfl⟩
theorem dX5_lend_13 : dc cX5_lend 13 (.invokevirtual 113) 3 16 := ⟨by decide +kernel, rfl⟩
theorem dX5_lend_16 : dc cX5_lend 16 (.aload_n 0) 1 17 := ⟨by decide +kernel, rfl⟩
theorem dX5_lend_17 : dc cX5_lend 17 (.getfield 34) 3 20 := ⟨by decide +kernel, rfl⟩
theorem dX5_lend_20 : dc cX5_lend 20 (.iload_n 2) 1 21 := ⟨by decide +kernel, rfl⟩
theorem dX5_lend_21 : dc cX5_lend 21 (.iload_n 1) 1 22 := ⟨by decide +kernel, rfl⟩
theorem dX5_lend_22 : dc cX5_lend 22 (.invokestatic 63) 3 25 := ⟨by decide +kernel, rfl⟩
theorem dX5_lend_25 : dc cX5_lend 25 (.dup2) 1 26 := ⟨by decide +kernel, rfl⟩
theorem dX5_lend_26 : dc cX5_lend 26 (.iaload) 1 27 := ⟨by decide +kernel, rfl⟩
theorem dX5_lend_27 : dc cX5_lend 27 (.iload_n 3) 1 28 := ⟨by decide +kernel, rfl⟩
theorem dX5_lend_28 : dc cX5_lend 28 (.iadd) 1 29 := ⟨by decide +kernel, rfl⟩
theorem dX5_lend_29 : dc cX5_lend 29 (.iastore) 1 30 := ⟨by decide +kernel, rfl⟩
theorem dX5_lend_30 : dc cX5_lend 30 (.return_) 1 31 := ⟨by decide +kernel, rfl⟩
theorem dX5_fillPurse_0 : dc cX5_fillPurse 0 (.aload_n 0) 1 1 := ⟨by decide +kernel, rfl⟩
theorem dX5_fillPurse_1 : dc cX5_fillPurse 1 (.getfield 28) 3 4 := ⟨by decide +kernel, rfl⟩
theorem dX5_fillPurse_4 : dc cX5_fillPurse 4 (.iload_n 1) 1 5 := ⟨by decide +kernel, rfl⟩
theorem dX5_fillPurse_5 : dc cX5_fillPurse 5 (.sipush 999) 3 8 := ⟨by decide +kernel, rfl⟩
theorem dX5_fillPurse_8 : dc cX5_fillPurse 8 (.aload_n 0) 1 9 := ⟨by decide +kernel, rfl⟩
theorem dX5_fillPurse_9 : dc cX5_fillPurse 9 (.getfield 28) 3 12 := ⟨by decide +kernel, rfl⟩
theorem dX5_fillPurse_12 : dc cX5_fillPurse 12 (.iload_n 1) 1 13 := ⟨by decide +kernel, rfl⟩
theorem dX5_fillPurse_13 : dc cX5_fillPurse 13 (.iaload) 1 14 := ⟨by decide +kernel, rfl⟩
theorem dX5_fillPurse_14 : dc cX5_fillPurse 14 (.iload_n 2) 1 15 := ⟨by decide +kernel, rfl⟩
theorem dX5_fillPurse_15 : dc cX5_fillPurse 15 (.iadd) 1 16 := ⟨by decide +kernel, rfl⟩
theorem dX5_fillPurse_16 : dc cX5_fillPurse 16 (.invokestatic 119) 3 19 := ⟨by decide +kernel, rfl⟩
theorem dX5_fillPurse_19 : dc cX5_fillPurse 19 (.iastore) 1 20 := ⟨by decide +kernel, rfl⟩
theorem dX5_fillPurse_20 : dc cX5_fillPurse 20 (.return_) 1 21 := ⟨by decide +kernel, rfl⟩
theorem dX5_creditorsBehind_0 : dc cX5_creditorsBehind 0 (.aload_n 0) 1 1 := ⟨by decide +kernel, rfl⟩
theorem dX5_creditorsBehind_1 : dc cX5_creditorsBehind 1 (.iload_n 1) 1 2 := ⟨by decide +kernel, rfl⟩
theorem dX5_creditorsBehind_2 : dc cX5_creditorsBehind 2 (.invokevirtual 124) 3 5 := ⟨by decide +kernel, rfl⟩
theorem dX5_creditorsBehind_5 : dc cX5_creditorsBehind 5 (.istore_n 2) 1 6 := ⟨by decide +kernel, rfl⟩
theorem dX5_creditorsBehind_6 : dc cX5_creditorsBehind 6 (.iconst 0) 1 7 := ⟨by decide +kernel, rfl⟩
theorem dX5_creditorsBehind_7 : dc cX5_creditorsBehind 7 (.istore_n 3) 1 8 := ⟨by decide +kernel, rfl⟩
theorem dX5_creditorsBehind_8 : dc cX5_creditorsBehind 8 (.iload_n 3) 1 9 := ⟨by decide +kernel, rfl⟩
theorem dX5_creditorsBehind_9 : dc cX5_creditorsBehind 9 (.bipush 8) 2 11 := ⟨by decide +kernel, rfl⟩
theorem dX5_creditorsBehind_11 : dc cX5_creditorsBehind 11 (.if_icmp .ge 43) 3 14 := ⟨by decide +kernel, rfl⟩
theorem dX5_creditorsBehind_14 : dc cX5_creditorsBehind 14 (.iconst 0) 1 15 := ⟨by decide +kernel, rfl⟩
theorem dX5_creditorsBehind_15 : dc cX5_creditorsBehind 15 (.istore 4) 2 17 := ⟨by decide +kernel, rfl⟩
theorem dX5_creditorsBehind_17 : dc cX5_creditorsBehind 17 (.iload 4) 2 19 := ⟨by decide +kernel, rfl⟩
theorem dX5_creditorsBehind_19 : dc cX5_creditorsBehind 19 (.bipush 8) 2 21 := ⟨by decide +kernel, rfl⟩
theorem dX5_creditorsBehind_21 : dc cX5_creditorsBehind 21 (.if_icmp .ge 27) 3 24 := ⟨by decide +kernel, rfl⟩
theorem dX5_creditorsBehind_24 : dc cX5_creditorsBehind 24 (.iload_n 2) 1 25 := ⟨by decide +kernel, rfl⟩
theorem dX5_creditorsBehind_25 : dc cX5_creditorsBehind 25 (.iload 4) 2 27 := ⟨by decide +kernel, rfl⟩
theorem dX5_creditorsBehind_27 : dc cX5_creditorsBehind 27 (.invokestatic 59) 3 30 := ⟨by decide +kernel, rfl⟩
theorem dX5_creditorsBehind_30 : dc cX5_creditorsBehind 30 (.ifCond .eq 12) 3 33 := ⟨by decide +kernel, rfl⟩
theorem dX5_creditorsBehind_33 : dc cX5_creditorsBehind 33 (.iload_n 2) 1 34 := ⟨by decide +kernel, rfl⟩
theorem dX5_creditorsBehind_34 : dc cX5_creditorsBehind 34 (.aload_n 0) 1 35 := ⟨by decide +kernel, rfl⟩
theorem dX5_creditorsBehind_35 : dc cX5_creditorsBehind 35 (.iload 4) 2 37 := ⟨by decide +kernel, rfl⟩
theorem dX5_creditorsBehind_37 : dc cX5_creditorsBehind 37 (.invokevirtual 124) 3 40 := ⟨by decide +kernel, rfl⟩
theorem dX5_creditorsBehind_40 : dc cX5_creditorsBehind 40 (.ior) 1 41 := ⟨by decide +kernel, rfl⟩
theorem dX5_creditorsBehind_41 : dc cX5_creditorsBehind 41 (.istore_n 2) 1 42 := ⟨by decide +kernel, rfl⟩
theorem dX5_creditorsBehind_42 : dc cX5_creditorsBehind 42 (.iinc 4 1) 3 45 := ⟨by decide +kernel, rfl⟩
theorem dX5_creditorsBehind_45 : dc cX5_creditorsBehind 45 (.goto (-28)) 3 48 := ⟨by decide +kernel, rfl⟩
theorem dX5_creditorsBehind_48 : dc cX5_creditorsBehind 48 (.iinc 3 1) 3 51 := ⟨by decide +kernel, rfl⟩
theorem dX5_creditorsBehind_51 : dc cX5_creditorsBehind 51 (.goto (-43)) 3 54 := ⟨by decide +kernel, rfl⟩
theorem dX5_creditorsBehind_54 : dc cX5_creditorsBehind 54 (.iload_n 2) 1 55 := ⟨by decide +kernel, rfl⟩
theorem dX5_creditorsBehind_55 : dc cX5_creditorsBehind 55 (.ireturn) 1 56 := ⟨by decide +kernel, rfl⟩
theorem dX5_creditorsOf_0 : dc cX5_creditorsOf 0 (.iconst 0) 1 1 := ⟨by decide +kernel, rfl⟩
theorem dX5_creditorsOf_1 : dc cX5_creditorsOf 1 (.istore_n 2) 1 2 := ⟨by decide +kernel, rfl⟩
theorem dX5_creditorsOf_2 : dc cX5_creditorsOf 2 (.iconst 0) 1 3 := ⟨by decide +kernel, rfl⟩
theorem dX5_creditorsOf_3 : dc cX5_creditorsOf 3 (.istore_n 3) 1 4 := ⟨by decide +kernel, rfl⟩
theorem dX5_creditorsOf_4 : dc cX5_creditorsOf 4 (.iload_n 3) 1 5 := ⟨by decide +kernel, rfl⟩
theorem dX5_creditorsOf_5 : dc cX5_creditorsOf 5 (.bipush 8) 2 7 := ⟨by decide +kernel, rfl⟩
theorem dX5_creditorsOf_7 : dc cX5_creditorsOf 7 (.if_icmp .ge 28) 3 10 := ⟨by decide +kernel, rfl⟩
theorem dX5_creditorsOf_10 : dc cX5_creditorsOf 10 (.aload_n 0) 1 11 := ⟨by decide +kernel, rfl⟩
theorem dX5_creditorsOf_11 : dc cX5_creditorsOf 11 (.getfield 34) 3 14 := ⟨by decide +kernel, rfl⟩
theorem dX5_creditorsOf_14 : dc cX5_creditorsOf 14 (.iload_n 1) 1 15 := ⟨by decide +kernel, rfl⟩
theorem dX5_creditorsOf_15 : dc cX5_creditorsOf 15 (.iload_n 3) 1 16 := ⟨by decide +kernel, rfl⟩
theorem dX5_creditorsOf_16 : dc cX5_creditorsOf 16 (.invokestatic 63) 3 19 := ⟨by decide +kernel, rfl⟩
theorem dX5_creditorsOf_19 : dc cX5_creditorsOf 19 (.iaload) 1 20 := ⟨by decide +kernel, rfl⟩
theorem dX5_creditorsOf_20 : dc cX5_creditorsOf 20 (.ifCond .le 9) 3 23 := ⟨by decide +kernel, rfl⟩
theorem dX5_creditorsOf_23 : dc cX5_creditorsOf 23 (.iload_n 2) 1 24 := ⟨by decide +kernel, rfl⟩
theorem dX5_creditorsOf_24 : dc cX5_creditorsOf 24 (.iconst 1) 1 25 := ⟨by decide +kernel, rfl⟩
theorem dX5_creditorsOf_25 : dc cX5_creditorsOf 25 (.iload_n 3) 1 26 := ⟨by decide +kernel, rfl⟩
theorem dX5_creditorsOf_26 : dc cX5_creditorsOf 26 (.ishl) 1 27 := ⟨by decide +kernel, rfl⟩
theorem dX5_creditorsOf_27 : dc cX5_creditorsOf 27 (.ior) 1 28 := ⟨by decide +kernel, rfl⟩
theorem dX5_creditorsOf_28 : dc cX5_creditorsOf 28 (.istore_n 2) 1 29 := ⟨by decide +kernel, rfl⟩
theorem dX5_creditorsOf_29 : dc cX5_creditorsOf 29 (.iinc 3 1) 3 32 := ⟨by decide +kernel, rfl⟩
theorem dX5_creditorsOf_32 : dc cX5_creditorsOf 32 (.goto (-28)) 3 35 := ⟨by decide +kernel, rfl⟩
theorem dX5_creditorsOf_35 : dc cX5_creditorsOf 35 (.iload_n 2) 1 36 := ⟨by decide +kernel, rfl⟩
theorem dX5_creditorsOf_36 : dc cX5_creditorsOf 36 (.ireturn) 1 37 := ⟨by decide +kernel, rfl⟩
theorem dX5_shortestNote_0 : dc cX5_shortestNote 0 (.bipush (-6)) 2 2 := ⟨by decide +kernel, rfl⟩
theorem dX5_shortestNote_2 : dc cX5_shortestNote 2 (.istore_n 2) 1 3 := ⟨by decide +kernel, rfl⟩
theorem dX5_shortestNote_3 : dc cX5_shortestNote 3 (.iconst 0) 1 4 := ⟨by decide +kernel, rfl⟩
theorem dX5_shortestNote_4 : dc cX5_shortestNote 4 (.istore_n 3) 1 5 := ⟨by decide +kernel, rfl⟩
theorem dX5_shortestNote_5 : dc cX5_shortestNote 5 (.iload_n 3) 1 6 := ⟨by decide +kernel, rfl⟩
theorem dX5_shortestNote_6 : dc cX5_shortestNote 6 (.sipush 255) 3 9 := ⟨by decide +kernel, rfl⟩
theorem dX5_shortestNote_9 : dc cX5_shortestNote 9 (.if_icmp .gt 61) 3 12 := ⟨by decide +kernel, rfl⟩
theorem dX5_shortestNote_12 : dc cX5_shortestNote 12 (.iload_n 2) 1 13 := ⟨by decide +kernel, rfl⟩
theorem dX5_shortestNote_13 : dc cX5_shortestNote 13 (.bipush (-6)) 2 15 := ⟨by decide +kernel, rfl⟩
theorem dX5_shortestNote_15 : dc cX5_shortestNote 15 (.if_icmp .eq 14) 3 18 := ⟨by decide +kernel, rfl⟩
theorem dX5_shortestNote_18 : dc cX5_shortestNote 18 (.iload_n 3) 1 19 := ⟨by decide +kernel, rfl⟩
theorem dX5_shortestNote_19 : dc cX5_shortestNote 19 (.invokestatic 67) 3 22 := ⟨by decide +kernel, rfl⟩
theorem dX5_shortestNote_22 : dc cX5_shortestNote 22 (.iload_n 2) 1 23 := ⟨by decide +kernel, rfl⟩
theorem dX5_shortestNote_23 : dc cX5_shortestNote 23 (.invokestatic 67) 3 26 := ⟨by decide +kernel, rfl⟩
theorem dX5_shortestNote_26 : dc cX5_shortestNote 26 (.if_icmp .ge 7) 3 29 := ⟨by decide +kernel, rfl⟩
theorem dX5_shortestNote_29 : dc cX5_shortestNote 29 (.iconst 1) 1 30 := ⟨by decide +kernel, rfl⟩
theorem dX5_shortestNote_30 : dc cX5_shortestNote 30 (.goto 4) 3 33 := ⟨by decide +kernel, rfl⟩
theorem dX5_shortestNote_33 : dc cX5_shortestNote 33 (.iconst 0) 1 34 := ⟨by decide +kernel, rfl⟩
theorem dX5_shortestNote_34 : dc cX5_shortestNote 34 (.istore 4) 2 36 := ⟨by decide +kernel, rfl⟩
theorem dX5_shortestNote_36 : dc cX5_shortestNote 36 (.iload_n 3) 1 37 := ⟨by decide +kernel, rfl⟩
theorem dX5_shortestNote_37 : dc cX5_shortestNote 37 (.aload_n 0) 1 38 := ⟨by decide +kernel, rfl⟩
theorem dX5_shortestNote_38 : dc cX5_shortestNote 38 (.getfield 24) 3 41 := ⟨by decide +kernel, rfl⟩
theorem dX5_shortestNote_41 : dc cX5_shortestNote 41 (.iload_n 1) 1 42 := ⟨by decide +kernel, rfl⟩
theorem dX5_shortestNote_42 : dc cX5_shortestNote 42 (.iaload) 1 43 := ⟨by decide +kernel, rfl⟩
theorem dX5_shortestNote_43 : dc cX5_shortestNote 43 (.iand) 1 44 := ⟨by decide +kernel, rfl⟩
theorem dX5_shortestNote_44 : dc cX5_shortestNote 44 (.iload_n 3) 1 45 := ⟨by decide +kernel, rfl⟩
theorem dX5_shortestNote_45 : dc cX5_shortestNote 45 (.if_icmp .ne 19) 3 48 := ⟨by decide +kernel, rfl⟩
theorem dX5_shortestNote_48 : dc cX5_shortestNote 48 (.iload 4) 2 50 := ⟨by decide +kernel, rfl⟩
theorem dX5_shortestNote_50 : dc cX5_shortestNote 50 (.ifCond .eq 14) 3 53 := ⟨by decide +kernel, rfl⟩
theorem dX5_shortestNote_53 : dc cX5_shortestNote 53 (.aload_n 0) 1 54 := ⟨by decide +kernel, rfl⟩
theorem dX5_shortestNote_54 : dc cX5_shortestNote 54 (.iload_n 1) 1 55 := ⟨by decide +kernel, rfl⟩
theorem dX5_shortestNote_55 : dc cX5_shortestNote 55 (.iload_n 3) 1 56 := ⟨by decide +kernel, rfl⟩
theorem dX5_shortestNote_56 : dc cX5_shortestNote 56 (.invokevirtual 127) 3 59 := ⟨by decide +kernel, rfl⟩
theorem dX5_shortestNote_59 : dc cX5_shortestNote 59 (.ifCond .ne 5) 3 62 := ⟨by decide +kernel, rfl⟩
theorem dX5_shortestNote_62 : dc cX5_shortestNote 62 (.iload_n 3) 1 63 := ⟨by decide +kernel, rfl⟩
theorem dX5_shortestNote_63 : dc cX5_shortestNote 63 (.istore_n 2) 1 64 := ⟨by decide +kernel, rfl⟩
theorem dX5_shortestNote_64 : dc cX5_shortestNote 64 (.iinc 3 1) 3 67 := ⟨by decide +kernel, rfl⟩
theorem dX5_shortestNote_67 : dc cX5_shortestNote 67 (.goto (-62)) 3 70 := ⟨by decide +kernel, rfl⟩
theorem dX5_shortestNote_70 : dc cX5_shortestNote 70 (.iload_n 2) 1 71 := ⟨by decide +kernel, rfl⟩
theorem dX5_shortestNote_71 : dc cX5_shortestNote 71 (.ireturn) 1 72 := ⟨by decide +kernel, rfl⟩
theorem dX5_anotherHas_0 : dc cX5_anotherHas 0 (.iconst 0) 1 1 := ⟨by decide +kernel, rfl⟩
theorem dX5_anotherHas_1 : dc cX5_anotherHas 1 (.istore_n 3) 1 2 := ⟨by decide +kernel, rfl⟩
theorem dX5_anotherHas_2 : dc cX5_anotherHas 2 (.iload_n 3) 1 3 := ⟨by decide +kernel, rfl⟩
theorem dX5_anotherHas_3 : dc cX5_anotherHas 3 (.bipush 8) 2 5 := ⟨by decide +kernel, rfl⟩
theorem dX5_anotherHas_5 : dc cX5_anotherHas 5 (.if_icmp .ge 36) 3 8 := ⟨by decide +kernel, rfl⟩
theorem dX5_anotherHas_8 : dc cX5_anotherHas 8 (.iload_n 3) 1 9 := ⟨by decide +kernel, rfl⟩
theorem dX5_anotherHas_9 : dc cX5_anotherHas 9 (.iload_n 1) 1 10 := ⟨by decide +kernel, rfl⟩
theorem dX5_anotherHas_10 : dc cX5_anotherHas 10 (.if_icmp .eq 25) 3 13 := ⟨by decide +kernel, rfl⟩
theorem dX5_anotherHas_13 : dc cX5_anotherHas 13 (.aload_n 0) 1 14 := ⟨by decide +kernel, rfl⟩
theorem dX5_anotherHas_14 : dc cX5_anotherHas 14 (.iload_n 3) 1 15 := ⟨by decide +kernel, rfl⟩
theorem dX5_anotherHas_15 : dc cX5_anotherHas 15 (.invokevirtual 76) 3 18 := ⟨by decide +kernel, rfl⟩
theorem dX5_anotherHas_18 : dc cX5_anotherHas 18 (.ifCond .eq 17) 3 21 := ⟨by decide +kernel, rfl⟩
theorem dX5_anotherHas_21 : dc cX5_anotherHas 21 (.aload_n 0) 1 22 := ⟨by decide +kernel, rfl⟩
theorem dX5_anotherHas_22 : dc cX5_anotherHas 22 (.getfield 24) 3 25 := ⟨by decide +kernel, rfl⟩
theorem dX5_anotherHas_25 : dc cX5_anotherHas 25 (.iload_n 3) 1 26 := ⟨by decide +kernel, rfl⟩
theorem dX5_anotherHas_26 : dc cX5_anotherHas 26 (.iaload) 1 27 := ⟨by decide +kernel, rfl⟩
theorem dX5_anotherHas_27 : dc cX5_anotherHas 27 (.iload_n 2) 1 28 := ⟨by decide +kernel, rfl⟩
theorem dX5_anotherHas_28 : dc cX5_anotherHas 28 (.iand) 1 29 := ⟨by decide +kernel, rfl⟩
theorem dX5_anotherHas_29 : dc cX5_anotherHas 29 (.iload_n 2) 1 30 := ⟨by decide +kernel, rfl⟩
theorem dX5_anotherHas_30 : dc cX5_anotherHas 30 (.if_icmp .ne 5) 3 33 := ⟨by decide +kernel, rfl⟩
theorem dX5_anotherHas_33 : dc cX5_anotherHas 33 (.iconst 1) 1 34 := ⟨by decide +kernel, rfl⟩
theorem dX5_anotherHas_34 : dc cX5_anotherHas 34 (.ireturn) 1 35 := ⟨by decide +kernel, rfl⟩
theorem dX5_anotherHas_35 : dc cX5_anotherHas 35 (.iinc 3 1) 3 38 := ⟨by decide +kernel, rfl⟩
theorem dX5_anotherHas_38 : dc cX5_anotherHas 38 (.goto (-36)) 3 41 := ⟨by decide +kernel, rfl⟩
theorem dX5_anotherHas_41 : dc cX5_anotherHas 41 (.iconst 0) 1 42 := ⟨by decide +kernel, rfl⟩
theorem dX5_anotherHas_42 : dc cX5_anotherHas 42 (.ireturn) 1 43 := ⟨by decide +kernel, rfl⟩
theorem dX5_shareOf_0 : dc cX5_shareOf 0 (.aload_n 0) 1 1 := ⟨by decide +kernel, rfl⟩
theorem dX5_shareOf_1 : dc cX5_shareOf 1 (.iload_n 1) 1 2 := ⟨by decide +kernel, rfl⟩
theorem dX5_shareOf_2 : dc cX5_shareOf 2 (.iload_n 2) 1 3 := ⟨by decide +kernel, rfl⟩
theorem dX5_shareOf_3 : dc cX5_shareOf 3 (.invokevirtual 79) 3 6 := ⟨by decide +kernel, rfl⟩
theorem dX5_shareOf_6 : dc cX5_shareOf 6 (.istore_n 3) 1 7 := ⟨by decide +kernel, rfl⟩
theorem dX5_shareOf_7 : dc cX5_shareOf 7 (.iconst 0) 1 8 := ⟨by decide +kernel, rfl⟩
theorem dX5_shareOf_8 : dc cX5_shareOf 8 (.istore 4) 2 10 := ⟨by decide +kernel, rfl⟩
theorem dX5_shareOf_10 : dc cX5_shareOf 10 (.iconst 0) 1 11 := ⟨by decide +kernel, rfl⟩
theorem dX5_shareOf_11 : dc cX5_shareOf 11 (.istore 5) 2 13 := ⟨by decide +kernel, rfl⟩
theorem dX5_shareOf_13 : dc cX5_shareOf 13 (.iload 5) 2 15 := ⟨by decide +kernel, rfl⟩
theorem dX5_shareOf_15 : dc cX5_shareOf 15 (.bipush 8) 2 17 := ⟨by decide +kernel, rfl⟩
theorem dX5_shareOf_17 : dc cX5_shareOf 17 (.if_icmp .ge 34) 3 20 := ⟨by decide +kernel, rfl⟩
theorem dX5_shareOf_20 : dc cX5_shareOf 20 (.iload 4) 2 22 := ⟨by decide +kernel, rfl⟩
theorem dX5_shareOf_22 : dc cX5_shareOf 22 (.aload_n 0) 1 23 := ⟨by decide +kernel, rfl⟩
theorem dX5_shareOf_23 : dc cX5_shareOf 23 (.iload 5) 2 25 := ⟨by decide +kernel, rfl⟩
theorem dX5_shareOf_25 : dc cX5_shareOf 25 (.invokevirtual 76) 3 28 := ⟨by decide +kernel, rfl⟩
theorem dX5_shareOf_28 : dc cX5_shareOf 28 (.ifCond .eq 13) 3 31 := ⟨by decide +kernel, rfl⟩
theorem dX5_shareOf_31 : dc cX5_shareOf 31 (.aload_n 0) 1 32 := ⟨by decide +kernel, rfl⟩
theorem dX5_shareOf_32 : dc cX5_shareOf 32 (.iload_n 1) 1 33 := ⟨by decide +kernel, rfl⟩
theorem dX5_shareOf_33 : dc cX5_shareOf 33 (.iload 5) 2 35 := ⟨by decide +kernel, rfl⟩
theorem dX5_shareOf_35 : dc cX5_shareOf 35 (.invokevirtual 79) 3 38 := ⟨by decide +kernel, rfl⟩
theorem dX5_shareOf_38 : dc cX5_shareOf 38 (.goto 4) 3 41 := ⟨by decide +kernel, rfl⟩
theorem dX5_shareOf_41 : dc cX5_shareOf 41 (.iconst 0) 1 42 := ⟨by decide +kernel, rfl⟩
theorem dX5_shareOf_42 : dc cX5_shareOf 42 (.iadd) 1 43 := ⟨by decide +kernel, rfl⟩
theorem dX5_shareOf_43 : dc cX5_shareOf 43 (.istore 4) 2 45 := ⟨by decide +kernel, rfl⟩
theorem dX5_shareOf_45 : dc cX5_shareOf 45 (.iinc 5 1) 3 48 := ⟨by decide +kernel, rfl⟩
theorem dX5_shareOf_48 : dc cX5_shareOf 48 (.goto (-35)) 3 51 := ⟨by decide +kernel, rfl⟩
theorem dX5_shareOf_51 : dc cX5_shareOf 51 (.iload_n 3) 1 52 := ⟨by decide +kernel, rfl⟩
theorem dX5_shareOf_52 : dc cX5_shareOf 52 (.ifCond .eq 8) 3 55 := ⟨by decide +kernel, rfl⟩
theorem dX5_shareOf_55 : dc cX5_shareOf 55 (.iload 4) 2 57 := ⟨by decide +kernel, rfl⟩
theorem dX5_shareOf_57 : dc cX5_shareOf 57 (.ifCond .ne 5) 3 60 := ⟨by decide +kernel, rfl⟩
theorem dX5_shareOf_60 : dc cX5_shareOf 60 (.iconst 0) 1 61 := ⟨by decide +kernel, rfl⟩
theorem dX5_shareOf_61 : dc cX5_shareOf 61 (.ireturn) 1 62 := ⟨by decide +kernel, rfl⟩
theorem dX5_shareOf_62 : dc cX5_shareOf 62 (.aload_n 0) 1 63 := ⟨by decide +kernel, rfl⟩
theorem dX5_shareOf_63 : dc cX5_shareOf 63 (.getfield 43) 3 66 := ⟨by decide +kernel, rfl⟩
theorem dX5_shareOf_66 : dc cX5_shareOf 66 (.iload_n 1) 1 67 := ⟨by decide +kernel, rfl⟩
theorem dX5_shareOf_67 : dc cX5_shareOf 67 (.iaload) 1 68 := ⟨by decide +kernel, rfl⟩
theorem dX5_shareOf_68 : dc cX5_shareOf 68 (.istore 5) 2 70 := ⟨by decide +kernel, rfl⟩
theorem dX5_shareOf_70 : dc cX5_shareOf 70 (.iconst 0) 1 71 := ⟨by decide +kernel, rfl⟩
theorem dX5_shareOf_71 : dc cX5_shareOf 71 (.istore 6) 2 73 := ⟨by decide +kernel, rfl⟩
theorem dX5_shareOf_73 : dc cX5_shareOf 73 (.iconst 0) 1 74 := ⟨by decide +kernel, rfl⟩
theorem dX5_shareOf_74 : dc cX5_shareOf 74 (.istore 7) 2 76 := ⟨by decide +kernel, rfl⟩
theorem dX5_shareOf_76 : dc cX5_shareOf 76 (.iload 7) 2 78 := ⟨by decide +kernel, rfl⟩
theorem dX5_shareOf_78 : dc cX5_shareOf 78 (.bipush 8) 2 80 := ⟨by decide +kernel, rfl⟩
theorem dX5_shareOf_80 : dc cX5_shareOf 80 (.if_icmp .ge 69) 3 83 := ⟨by decide +kernel, rfl⟩
theorem dX5_shareOf_83 : dc cX5_shareOf 83 (.aload_n 0) 1 84 := ⟨by decide +kernel, rfl⟩
theorem dX5_shareOf_84 : dc cX5_shareOf 84 (.iload 7) 2 86 := ⟨by decide +kernel, rfl⟩
theorem dX5_shareOf_86 : dc cX5_shareOf 86 (.invokevirtual 76) 3 89 := ⟨by decide +kernel, rfl⟩
theorem dX5_shareOf_89 : dc cX5_shareOf 89 (.ifCond .eq 13) 3 92 := ⟨by decide +kernel, rfl⟩
theorem dX5_shareOf_92 : dc cX5_shareOf 92 (.aload_n 0) 1 93 := ⟨by decide +kernel, rfl⟩
theorem dX5_shareOf_93 : dc cX5_shareOf 93 (.iload_n 1) 1 94 := ⟨by decide +kernel, rfl⟩
theorem dX5_shareOf_94 : dc cX5_shareOf 94 (.iload 7) 2 96 := ⟨by decide +kernel, rfl⟩
theorem dX5_shareOf_96 : dc cX5_shareOf 96 (.invokevirtual 79) 3 99 := ⟨by decide +kernel, rfl⟩
theorem dX5_shareOf_99 : dc cX5_shareOf 99 (.goto 4) 3 102 := ⟨by decide +kernel, rfl⟩
theorem dX5_shareOf_102 : dc cX5_shareOf 102 (.iconst 0) 1 103 := ⟨by decide +kernel, rfl⟩
theorem dX5_shareOf_103 : dc cX5_shareOf 103 (.istore 8) 2 105 := ⟨by decide +kernel, rfl⟩
theorem dX5_shareOf_105 : dc cX5_shareOf 105 (.iload 5) 2 107 := ⟨by decide +kernel, rfl⟩
theorem dX5_shareOf_107 : dc cX5_shareOf 107 (.aload_n 0) 1 108 := ⟨by decide +kernel, rfl⟩
theorem dX5_shareOf_108 : dc cX5_shareOf 108 (.getfield 43) 3 111 := ⟨by decide +kernel, rfl⟩
theorem dX5_shareOf_111 : dc cX5_shareOf 111 (.iload_n 1) 1 112 := ⟨by decide +kernel, rfl⟩
theorem dX5_shareOf_112 : dc cX5_shareOf 112 (.iaload) 1 113 := ⟨by decide +kernel, rfl⟩
theorem dX5_shareOf_113 : dc cX5_shareOf 113 (.iload 8) 2 115 := ⟨by decide +kernel, rfl⟩
theorem dX5_shareOf_115 : dc cX5_shareOf 115 (.imul) 1 116 := ⟨by decide +kernel, rfl⟩
theorem dX5_shareOf_116 : dc cX5_shareOf 116 (.iload 4) 2 118 := ⟨by decide +kernel, rfl⟩
theorem dX5_shareOf_118 : dc cX5_shareOf 118 (.idiv) 1 119 := ⟨by decide +kernel, rfl⟩
theorem dX5_shareOf_119 : dc cX5_shareOf 119 (.isub) 1 120 := ⟨by decide +kernel, rfl⟩
theorem dX5_shareOf_120 : dc cX5_shareOf 120 (.istore 5) 2 122 := ⟨by decide +kernel, rfl⟩
theorem dX5_shareOf_122 : dc cX5_shareOf 122 (.iload 8) 2 124 := ⟨by decide +kernel, rfl⟩
theorem dX5_shareOf_124 : dc cX5_shareOf 124 (.iload_n 3) 1 125 := ⟨by decide +kernel, rfl⟩
theorem dX5_shareOf_125 : dc cX5_shareOf 125 (.if_icmp .gt 15) 3 128 := ⟨by decide +kernel, rfl⟩
theorem dX5_shareOf_128 : dc cX5_shareOf 128 (.iload 8) 2 130 := ⟨by decide +kernel, rfl⟩
theorem dX5_shareOf_130 : dc cX5_shareOf 130 (.iload_n 3) 1 131 := ⟨by decide +kernel, rfl⟩
theorem dX5_shareOf_131 : dc cX5_shareOf 131 (.if_icmp .ne 12) 3 134 := ⟨by decide +kernel, rfl⟩
theorem dX5_shareOf_134 : dc cX5_shareOf 134 (.iload 7) 2 136 := ⟨by decide +kernel, rfl⟩
theorem dX5_shareOf_136 : dc cX5_shareOf 136 (.iload_n 2) 1 137 := ⟨by decide +kernel, rfl⟩
theorem dX5_shareOf_137 : dc cX5_shareOf 137 (.if_icmp .ge 6) 3 140 := ⟨by decide +kernel, rfl⟩
theorem dX5_shareOf_140 : dc cX5_shareOf 140 (.iinc 6 1) 3 143 := ⟨by decide +kernel, rfl⟩
theorem dX5_shareOf_143 : dc cX5_shareOf 143 (.iinc 7 1) 3 146 := ⟨by decide +kernel, rfl⟩
theorem dX5_shareOf_146 : dc cX5_shareOf 146 (.goto (-70)) 3 149 := ⟨by decide +kernel, rfl⟩
theorem dX5_shareOf_149 : dc cX5_shareOf 149 (.aload_n 0) 1 150 := ⟨by decide +kernel, rfl⟩
theorem dX5_shareOf_150 : dc cX5_shareOf 150 (.getfield 43) 3 153 := ⟨by decide +kernel, rfl⟩
theorem dX5_shareOf_153 : dc cX5_shareOf 153 (.iload_n 1) 1 154 := ⟨by decide +kernel, rfl⟩
theorem dX5_shareOf_154 : dc cX5_shareOf 154 (.iaload) 1 155 := ⟨by decide +kernel, rfl⟩
theorem dX5_shareOf_155 : dc cX5_shareOf 155 (.iload_n 3) 1 156 := ⟨by decide +kernel, rfl⟩
theorem dX5_shareOf_156 : dc cX5_shareOf 156 (.imul) 1 157 := ⟨by decide +kernel, rfl⟩
theorem dX5_shareOf_157 : dc cX5_shareOf 157 (.iload 4) 2 159 := ⟨by decide +kernel, rfl⟩
theorem dX5_shareOf_159 : dc cX5_shareOf 159 (.idiv) 1 160 := ⟨by decide +kernel, rfl⟩
theorem dX5_shareOf_160 : dc cX5_shareOf 160 (.iload 6) 2 162 := ⟨by decide +kernel, rfl⟩
theorem dX5_shareOf_162 : dc cX5_shareOf 162 (.iload 5) 2 164 := ⟨by decide +kernel, rfl⟩
theorem dX5_shareOf_164 : dc cX5_shareOf 164 (.if_icmp .ge 7) 3 167 := ⟨by decide +kernel, rfl⟩
theorem dX5_shareOf_167 : dc cX5_shareOf 167 (.iconst 1) 1 168 := ⟨by decide +kernel, rfl⟩
theorem dX5_shareOf_168 : dc cX5_shareOf 168 (.goto 4) 3 171 := ⟨by decide +kernel, rfl⟩
theorem dX5_shareOf_171 : dc cX5_shareOf 171 (.iconst 0) 1 172 := ⟨by decide +kernel, rfl⟩
theorem dX5_shareOf_172 : dc cX5_shareOf 172 (.iadd) 1 173 := ⟨by decide +kernel, rfl⟩
theorem dX5_shareOf_173 : dc cX5_shareOf 173 (.ireturn) 1 174 := ⟨by decide +kernel, rfl⟩
theorem dX5_pursesTogether_0 : dc cX5_pursesTogether 0 (.iconst 0) 1 1 := ⟨by decide +kernel, rfl⟩
theorem dX5_pursesTogether_1 : dc cX5_pursesTogether 1 (.istore_n 1) 1 2 := ⟨by decide +kernel, rfl⟩
theorem dX5_pursesTogether_2 : dc cX5_pursesTogether 2 (.iconst 0) 1 3 := ⟨by decide +kernel, rfl⟩
theorem dX5_pursesTogether_3 : dc cX5_pursesTogether 3 (.istore_n 2) 1 4 := ⟨by decide +kernel, rfl⟩
theorem dX5_pursesTogether_4 : dc cX5_pursesTogether 4 (.iload_n 2) 1 5 := ⟨by decide +kernel, rfl⟩
theorem dX5_pursesTogether_5 : dc cX5_pursesTogether 5 (.bipush 8) 2 7 := ⟨by decide +kernel, rfl⟩
theorem dX5_pursesTogether_7 : dc cX5_pursesTogether 7 (.if_icmp .ge 30) 3 10 := ⟨by decide +kernel, rfl⟩
theorem dX5_pursesTogether_10 : dc cX5_pursesTogether 10 (.iload_n 1) 1 11 := ⟨by decide +kernel, rfl⟩
theorem dX5_pursesTogether_11 : dc cX5_pursesTogether 11 (.aload_n 0) 1 12 := ⟨by decide +kernel, rfl⟩
theorem dX5_pursesTogether_12 : dc cX5_pursesTogether 12 (.iload_n 2) 1 13 := ⟨by decide +kernel, rfl⟩
theorem dX5_pursesTogether_13 : dc cX5_pursesTogether 13 (.invokevirtual 76) 3 16 := ⟨by decide +kernel, rfl⟩
theorem dX5_pursesTogether_16 : dc cX5_pursesTogether 16 (.ifCond .eq 12) 3 19 := ⟨by decide +kernel, rfl⟩
theorem dX5_pursesTogether_19 : dc cX5_pursesTogether 19 (.aload_n 0) 1 20 := ⟨by decide +kernel, rfl⟩
theorem dX5_pursesTogether_20 : dc cX5_pursesTogether 20 (.getfield 28) 3 23 := ⟨by decide +kernel, rfl⟩
theorem dX5_pursesTogether_23 : dc cX5_pursesTogether 23 (.iload_n 2) 1 24 := ⟨by decide +kernel, rfl⟩
theorem dX5_pursesTogether_24 : dc cX5_pursesTogether 24 (.iaload) 1 25 := ⟨by decide +kernel, rfl⟩
theorem dX5_pursesTogether_25 : dc cX5_pursesTogether 25 (.goto 4) 3 28 := ⟨by decide +kernel, rfl⟩
theorem dX5_pursesTogether_28 : dc cX5_pursesTogether 28 (.iconst 0) 1 29 := ⟨by decide +kernel, rfl⟩
theorem dX5_pursesTogether_29 : dc cX5_pursesTogether 29 (.iadd) 1 30 := ⟨by decide +kernel, rfl⟩
theorem dX5_pursesTogether_30 : dc cX5_pursesTogether 30 (.istore_n 1) 1 31 := ⟨by decide +kernel, rfl⟩
theorem dX5_pursesTogether_31 : dc cX5_pursesTogether 31 (.iinc 2 1) 3 34 := ⟨by decide +kernel, rfl⟩
theorem dX5_pursesTogether_34 : dc cX5_pursesTogether 34 (.goto (-30)) 3 37 := ⟨by decide +kernel, rfl⟩
theorem dX5_pursesTogether_37 : dc cX5_pursesTogether 37 (.iload_n 1) 1 38 := ⟨by decide +kernel, rfl⟩
theorem dX5_pursesTogether_38 : dc cX5_pursesTogether 38 (.ireturn) 1 39 := ⟨by decide +kernel, rfl⟩
theorem dX5_coinsLeft_0 : dc cX5_coinsLeft 0 (.iconst 0) 1 1 := ⟨by decide +kernel, rfl⟩
theorem dX5_coinsLeft_1 : dc cX5_coinsLeft 1 (.istore_n 1) 1 2 := ⟨by decide +kernel, rfl⟩
theorem dX5_coinsLeft_2 : dc cX5_coinsLeft 2 (.iconst 0) 1 3 := ⟨by decide +kernel, rfl⟩
theorem dX5_coinsLeft_3 : dc cX5_coinsLeft 3 (.istore_n 2) 1 4 := ⟨by decide +kernel, rfl⟩
theorem dX5_coinsLeft_4 : dc cX5_coinsLeft 4 (.iload_n 2) 1 5 := ⟨by decide +kernel, rfl⟩
theorem dX5_coinsLeft_5 : dc cX5_coinsLeft 5 (.bipush 6) 2 7 := ⟨by decide +kernel, rfl⟩
theorem dX5_coinsLeft_7 : dc cX5_coinsLeft 7 (.if_icmp .ge 18) 3 10 := ⟨by decide +kernel, rfl⟩
theorem dX5_coinsLeft_10 : dc cX5_coinsLeft 10 (.iload_n 1) 1 11 := ⟨by decide +kernel, rfl⟩
theorem dX5_coinsLeft_11 : dc cX5_coinsLeft 11 (.aload_n 0) 1 12 := ⟨by decide +kernel, rfl⟩
theorem dX5_coinsLeft_12 : dc cX5_coinsLeft 12 (.getfield 43) 3 15 := ⟨by decide +kernel, rfl⟩
theorem dX5_coinsLeft_15 : dc cX5_coinsLeft 15 (.iload_n 2) 1 16 := ⟨by decide +kernel, rfl⟩
theorem dX5_coinsLeft_16 : dc cX5_coinsLeft 16 (.iaload) 1 17 := ⟨by decide +kernel, rfl⟩
theorem dX5_coinsLeft_17 : dc cX5_coinsLeft 17 (.iadd) 1 18 := ⟨by decide +kernel, rfl⟩
theorem dX5_coinsLeft_18 : dc cX5_coinsLeft 18 (.istore_n 1) 1 19 := ⟨by decide +kernel, rfl⟩
theorem dX5_coinsLeft_19 : dc cX5_coinsLeft 19 (.iinc 2 1) 3 22 := ⟨by decide +kernel, rfl⟩
theorem dX5_coinsLeft_22 : dc cX5_coinsLeft 22 (.goto (-18)) 3 25 := ⟨by decide +kernel, rfl⟩
theorem dX5_coinsLeft_25 : dc cX5_coinsLeft 25 (.iload_n 1) 1 26 := ⟨by decide +kernel, rfl⟩
theorem dX5_coinsLeft_26 : dc cX5_coinsLeft 26 (.ireturn) 1 27 := ⟨by decide +kernel, rfl⟩
theorem dX5_addSight_0 : dc cX5_addSight 0 (.aload_n 0) 1 1 := ⟨by decide +kernel, rfl⟩
theorem dX5_addSight_1 : dc cX5_addSight 1 (.getfield 18) 3 4 := ⟨by decide +kernel, rfl⟩
theorem dX5_addSight_4 : dc cX5_addSight 4 (.bipush 8) 2 6 := ⟨by decide +kernel, rfl⟩
theorem dX5_addSight_6 : dc cX5_addSight 6 (.if_icmp .lt 5) 3 9 := ⟨by decide +kernel, rfl⟩
theorem dX5_addSight_9 : dc cX5_addSight 9 (.iconst 0) 1 10 := ⟨by decide +kernel, rfl⟩
theorem dX5_addSight_10 : dc cX5_addSight 10 (.ireturn) 1 11 := ⟨by decide +kernel, rfl⟩
theorem dX5_addSight_11 : dc cX5_addSight 11 (.aload_n 0) 1 12 := ⟨by decide +kernel, rfl⟩
theorem dX5_addSight_12 : dc cX5_addSight 12 (.getfield 46) 3 15 := ⟨by decide +kernel, rfl⟩
theorem dX5_addSight_15 : dc cX5_addSight 15 (.aload_n 0) 1 16 := ⟨by decide +kernel, rfl⟩
theorem dX5_addSight_16 : dc cX5_addSight 16 (.getfield 18) 3 19 := ⟨by decide +kernel, rfl⟩
theorem dX5_addSight_19 : dc cX5_addSight 19 (.iload_n 1) 1 20 := ⟨by decide +kernel, rfl⟩
theorem dX5_addSight_20 : dc cX5_addSight 20 (.iastore) 1 21 := ⟨by decide +kernel, rfl⟩
theorem dX5_addSight_21 : dc cX5_addSight 21 (.aload_n 0) 1 22 := ⟨by decide +kernel, rfl⟩
theorem dX5_addSight_22 : dc cX5_addSight 22 (.dup) 1 23 := ⟨by decide +kernel, rfl⟩
theorem dX5_addSight_23 : dc cX5_addSight 23 (.getfield 21) 3 26 := ⟨by decide +kernel, rfl⟩
theorem dX5_addSight_26 : dc cX5_addSight 26 (.iload_n 2) 1 27 := ⟨by decide +kernel, rfl⟩
theorem dX5_addSight_27 : dc cX5_addSight 27 (.ifCond .eq 12) 3 30 := ⟨by decide +kernel, rfl⟩
theorem dX5_addSight_30 : dc cX5_addSight 30 (.iconst 1) 1 31 := ⟨by decide +kernel, rfl⟩
theorem dX5_addSight_31 : dc cX5_addSight 31 (.aload_n 0) 1 32 := ⟨by decide +kernel, rfl⟩
theorem dX5_addSight_32 : dc cX5_addSight 32 (.getfield 18) 3 35 := ⟨by decide +kernel, rfl⟩
theorem dX5_addSight_35 : dc cX5_addSight 35 (.ishl) 1 36 := ⟨by decide +kernel, rfl⟩
theorem dX5_addSight_36 : dc cX5_addSight 36 (.goto 4) 3 39 := ⟨by decide +kernel, rfl⟩
theorem dX5_addSight_39 : dc cX5_addSight 39 (.iconst 0) 1 40 := ⟨by decide +kernel, rfl⟩
theorem dX5_addSight_40 : dc cX5_addSight 40 (.ior) 1 41 := ⟨by decide +kernel, rfl⟩
theorem dX5_addSight_41 : dc cX5_addSight 41 (.putfield 21) 3 44 := ⟨by decide +kernel, rfl⟩
theorem dX5_addSight_44 : dc cX5_addSight 44 (.aload_n 0) 1 45 := ⟨by decide +kernel, rfl⟩
theorem dX5_addSight_45 : dc cX5_addSight 45 (.dup) 1 46 := ⟨by decide +kernel, rfl⟩
theorem dX5_addSight_46 : dc cX5_addSight 46 (.getfield 18) 3 49 := ⟨by decide +kernel, rfl⟩
theorem dX5_addSight_49 : dc cX5_addSight 49 (.iconst 1) 1 50 := ⟨by decide +kernel, rfl⟩
theorem dX5_addSight_50 : dc cX5_addSight 50 (.iadd) 1 51 := ⟨by decide +kernel, rfl⟩
theorem dX5_addSight_51 : dc cX5_addSight 51 (.putfield 18) 3 54 := ⟨by decide +kernel, rfl⟩
theorem dX5_addSight_54 : dc cX5_addSight 54 (.iconst 1) 1 55 := ⟨by decide +kernel, rfl⟩
theorem dX5_addSight_55 : dc cX5_addSight 55 (.ireturn) 1 56 := ⟨by decide +kernel, rfl⟩
theorem dX6_init_0 : dc cX6_init 0 (.aload_n 0) 1 1 := ⟨by decide +kernel, rfl⟩
theorem dX6_init_1 : dc cX6_init 1 (.invokespecial 1) 3 4 := ⟨by decide +kernel, rfl⟩
theorem dX6_init_4 : dc cX6_init 4 (.aload_n 0) 1 5 := ⟨by decide +kernel, rfl⟩
theorem dX6_init_5 : dc cX6_init 5 (.new 7) 3 8 := ⟨by decide +kernel, rfl⟩
theorem dX6_init_8 : dc cX6_init 8 (.dup) 1 9 := ⟨by decide +kernel, rfl⟩
theorem dX6_init_9 : dc cX6_init 9 (.invokespecial 9) 3 12 := ⟨by decide +kernel, rfl⟩
theorem dX6_init_12 : dc cX6_init 12 (.putfield 10) 3 15 := ⟨by decide +kernel, rfl⟩
theorem dX6_init_15 : dc cX6_init 15 (.aload_n 0) 1 16 := ⟨by decide +kernel, rfl⟩
theorem dX6_init_16 : dc cX6_init 16 (.iconst 2) 1 17 := ⟨by decide +kernel, rfl⟩
theorem dX6_init_17 : dc cX6_init 17 (.anewarray 7) 3 20 := ⟨by decide +kernel, rfl⟩
theorem dX6_init_20 : dc cX6_init 20 (.putfield 16) 3 23 := ⟨by decide +kernel, rfl⟩
theorem dX6_init_23 : dc cX6_init 23 (.aload_n 0) 1 24 := ⟨by decide +kernel, rfl⟩
theorem dX6_init_24 : dc cX6_init 24 (.new 20) 3 27 := ⟨by decide +kernel, rfl⟩
theorem dX6_init_27 : dc cX6_init 27 (.dup) 1 28 := ⟨by decide +kernel, rfl⟩
theorem dX6_init_28 : dc cX6_init 28 (.invokespecial 22) 3 31 := ⟨by decide +kernel, rfl⟩
theorem dX6_init_31 : dc cX6_init 31 (.putfield 23) 3 34 := ⟨by decide +kernel, rfl⟩
theorem dX6_init_34 : dc cX6_init 34 (.aload_n 0) 1 35 := ⟨by decide +kernel, rfl⟩
theorem dX6_init_35 : dc cX6_init 35 (.new 27) 3 38 := ⟨by decide +kernel, rfl⟩
theorem dX6_init_38 : dc cX6_init 38 (.dup) 1 39 := ⟨by decide +kernel, rfl⟩
theorem dX6_init_39 : dc cX6_init 39 (.invokespecial 29) 3 42 := ⟨by decide +kernel, rfl⟩
theorem dX6_init_42 : dc cX6_init 42 (.putfield 30) 3 45 := ⟨by decide +kernel, rfl⟩
theorem dX6_init_45 : dc cX6_init 45 (.aload_n 0) 1 46 := ⟨by decide +kernel, rfl⟩
theorem dX6_init_46 : dc cX6_init 46 (.new 34) 3 49 := ⟨by decide +kernel, rfl⟩
theorem dX6_init_49 : dc cX6_init 49 (.dup) 1 50 := ⟨by decide +kernel, rfl⟩
theorem dX6_init_50 : dc cX6_init 50 (.invokespecial 36) 3 53 := ⟨by decide +kernel, rfl⟩
theorem dX6_init_53 : dc cX6_init 53 (.putfield 37) 3 56 := ⟨by decide +kernel, rfl⟩
theorem dX6_init_56 : dc cX6_init 56 (.aload_n 0) 1 57 := ⟨by decide +kernel, rfl⟩
theorem dX6_init_57 : dc cX6_init 57 (.new 41) 3 60 := ⟨by decide +kernel, rfl⟩
theorem dX6_init_60 : dc cX6_init 60 (.dup) 1 61 := ⟨by decide +kernel, rfl⟩
theorem dX6_init_61 : dc cX6_init 61 (.invokespecial 43) 3 64 := ⟨by decide +kernel, rfl⟩
theorem dX6_init_64 : dc cX6_init 64 (.putfield 44) 3 67 := ⟨by decide +kernel, rfl⟩
theorem dX6_init_67 : dc cX6_init 67 (.return_) 1 68 := ⟨by decide +kernel, rfl⟩
theorem dX6_birth_0 : dc cX6_birth 0 (.iload_n 1) 1 1 := ⟨by decide +kernel, rfl⟩
theorem dX6_birth_1 : dc cX6_birth 1 (.invokestatic 48) 3 4 := ⟨by decide +kernel, rfl⟩
theorem dX6_birth_4 : dc cX6_birth 4 (.ifCond .ne 5) 3 7 := ⟨by decide +kernel, rfl⟩
theorem dX6_birth_7 : dc cX6_birth 7 (.iconst (-1)) 1 8 := ⟨by decide +kernel, rfl⟩
theorem dX6_birth_8 : dc cX6_birth 8 (.ireturn) 1 9 := ⟨by decide +kernel, rfl⟩
theorem dX6_birth_9 : dc cX6_birth 9 (.iload_n 2) 1 10 := ⟨by decide +kernel, rfl⟩
theorem dX6_birth_10 : dc cX6_birth 10 (.iconst 0) 1 11 := ⟨by decide +kernel, rfl⟩
theorem dX6_birth_11 : dc cX6_birth 11 (.sipush 255) 3 14 := ⟨by decide +kernel, rfl⟩
theorem dX6_birth_14 : dc cX6_birth 14 (.invokestatic 52) 3 17 := ⟨by decide +kernel, rfl⟩
theorem dX6_birth_17 : dc cX6_birth 17 (.ifCond .eq 14) 3 20 := ⟨by decide +kernel, rfl⟩
theorem dX6_birth_20 : dc cX6_birth 20 (.iload_n 3) 1 21 := ⟨by decide +kernel, rfl⟩
theorem dX6_birth_21 : dc cX6_birth 21 (.iconst 0) 1 22 := ⟨by decide +kernel, rfl⟩
theorem dX6_birth_22 : dc cX6_birth 22 (.sipush 999) 3 25 := ⟨by decide +kernel, rfl⟩
theorem dX6_birth_25 : dc cX6_birth 25 (.invokestatic 52) 3 28 := ⟨by decide +kernel, rfl⟩
theorem dX6_birth_28 : dc cX6_birth 28 (.ifCond .ne 6) 3 31 := ⟨by decide +kernel, rfl⟩
theorem dX6_birth_31 : dc cX6_birth 31 (.bipush (-2)) 2 33 := ⟨by decide +kernel, rfl⟩
theorem dX6_birth_33 : dc cX6_birth 33 (.ireturn) 1 34 := ⟨by decide +kernel, rfl⟩
theorem dX6_birth_34 : dc cX6_birth 34 (.aload_n 0) 1 35 := ⟨by decide +kernel, rfl⟩
theorem dX6_birth_35 : dc cX6_birth 35 (.getfield 10) 3 38 := ⟨by decide +kernel, rfl⟩
theorem dX6_birth_38 : dc cX6_birth 38 (.iload_n 1) 1 39 := ⟨by decide +kernel, rfl⟩
theorem dX6_birth_39 : dc cX6_birth 39 (.iload_n 2) 1 40 := ⟨by decide +kernel, rfl⟩
theorem dX6_birth_40 : dc cX6_birth 40 (.iload_n 3) 1 41 := ⟨by decide +kernel, rfl⟩
theorem dX6_birth_41 : dc cX6_birth 41 (.invokevirtual 56) 3 44 := ⟨by decide +kernel, rfl⟩
theorem dX6_birth_44 : dc cX6_birth 44 (.aload_n 0) 1 45 := ⟨by decide +kernel, rfl⟩
theorem dX6_birth_45 : dc cX6_birth 45 (.getfield 10) 3 48 := ⟨by decide +kernel, rfl⟩
theorem dX6_birth_48 : dc cX6_birth 48 (.getfield 60) 3 51 := ⟨by decide +kernel, rfl⟩
theorem dX6_birth_51 : dc cX6_birth 51 (.invokestatic 64) 3 54 := ⟨by decide +kernel, rfl⟩
theorem dX6_birth_54 : dc cX6_birth 54 (.ireturn) 1 55 := ⟨by decide +kernel, rfl⟩
theorem dX6_box_0 : dc cX6_box 0 (.iload_n 1) 1 1 := ⟨by decide +kernel, rfl⟩
theorem dX6_box_1 : dc cX6_box 1 (.invokestatic 70) 3 4 := ⟨by decide +kernel, rfl⟩
theorem dX6_box_4 : dc cX6_box 4 (.ifCond .ne 5) 3 7 := ⟨by decide +kernel, rfl⟩
theorem dX6_box_7 : dc cX6_box 7 (.iconst (-1)) 1 8 := ⟨by decide +kernel, rfl⟩
theorem dX6_box_8 : dc cX6_box 8 (.ireturn) 1 9 := ⟨by decide +kernel, rfl⟩
theorem dX6_box_9 : dc cX6_box 9 (.iload_n 2) 1 10 := ⟨by decide +kernel, rfl⟩
theorem dX6_box_10 : dc cX6_box 10 (.iconst 0) 1 11 := ⟨by decide +kernel, rfl⟩
theorem dX6_box_11 : dc cX6_box 11 (.sipush 255) 3 14 := ⟨by decide +kernel, rfl⟩
theorem dX6_box_14 : dc cX6_box 14 (.invokestatic 52) 3 17 := ⟨by decide +kernel, rfl⟩
theorem dX6_box_17 : dc cX6_box 17 (.ifCond .eq 25) 3 20 := ⟨by decide +kernel, rfl⟩
theorem dX6_box_20 : dc cX6_box 20 (.iload_n 3) 1 21 := ⟨by decide +kernel, rfl⟩
theorem dX6_box_21 : dc cX6_box 21 (.iconst 0) 1 22 := ⟨by decide +kernel, rfl⟩
theorem dX6_box_22 : dc cX6_box 22 (.bipush 8) 2 24 := ⟨by decide +kernel, rfl⟩
theorem dX6_box_24 : dc cX6_box 24 (.invokestatic 52) 3 27 := ⟨by decide +kernel, rfl⟩
theorem dX6_box_27 : dc cX6_box 27 (.ifCond .eq 15) 3 30 := ⟨by decide +kernel, rfl⟩
theorem dX6_box_30 : dc cX6_box 30 (.iload 4) 2 32 := ⟨by decide +kernel, rfl⟩
theorem dX6_box_32 : dc cX6_box 32 (.iconst 0) 1 33 := ⟨by decide +kernel, rfl⟩
theorem dX6_box_33 : dc cX6_box 33 (.sipush 999) 3 36 := ⟨by decide +kernel, rfl⟩
theorem dX6_box_36 : dc cX6_box 36 (.invokestatic 52) 3 39 := ⟨by decide +kernel, rfl⟩
theorem dX6_box_39 : dc cX6_box 39 (.ifCond .ne 6) 3 42 := ⟨by decide +kernel, rfl⟩
theorem dX6_box_42 : dc cX6_box 42 (.bipush (-2)) 2 44 := ⟨by decide +kernel, rfl⟩
theorem dX6_box_44 : dc cX6_box 44 (.ireturn) 1 45 := ⟨by decide +kernel, rfl⟩
theorem dX6_box_45 : dc cX6_box 45 (.aload_n 0) 1 46 := ⟨by decide +kernel, rfl⟩
theorem dX6_box_46 : dc cX6_box 46 (.getfield 10) 3 49 := ⟨by decide +kernel, rfl⟩
theorem dX6_box_49 : dc cX6_box 49 (.getfield 73) 3 52 := ⟨by decide +kernel, rfl⟩
theorem dX6_box_52 : dc cX6_box 52 (.iload_n 1) 1 53 := ⟨by decide +kernel, rfl⟩
theorem dX6_box_53 : dc cX6_box 53 (.iaload) 1 54 := ⟨by decide +kernel, rfl⟩
theorem dX6_box_54 : dc cX6_box 54 (.istore 5) 2 56 := ⟨by decide +kernel, rfl⟩
theorem dX6_box_56 : dc cX6_box 56 (.aload_n 0) 1 57 := ⟨by decide +kernel, rfl⟩
theorem dX6_box_57 : dc cX6_box 57 (.getfield 10) 3 60 := ⟨by decide +kernel, rfl⟩
theorem dX6_box_60 : dc cX6_box 60 (.getfield 77) 3 63 := ⟨by decide +kernel, rfl⟩
theorem dX6_box_63 : dc cX6_box 63 (.iload_n 1) 1 64 := ⟨by decide +kernel, rfl⟩
theorem dX6_box_64 : dc cX6_box 64 (.iload_n 2) 1 65 := ⟨by decide +kernel, rfl⟩
theorem dX6_box_65 : dc cX6_box 65 (.iastore) 1 66 := ⟨by decide +kernel, rfl⟩
theorem dX6_box_66 : dc cX6_box 66 (.aload_n 0) 1 67 := ⟨by decide +kernel, rfl⟩
theorem dX6_box_67 : dc cX6_box 67 (.getfield 10) 3 70 := ⟨by decide +kernel, rfl⟩
theorem dX6_box_70 : dc cX6_box 70 (.getfield 80) 3 73 := ⟨by decide +kernel, rfl⟩
theorem dX6_box_73 : dc cX6_box 73 (.iload_n 1) 1 74 := ⟨by decide +kernel, rfl⟩
theorem dX6_box_74 : dc cX6_box 74 (.iload_n 3) 1 75 := ⟨by decide +kernel, rfl⟩
theorem dX6_box_75 : dc cX6_box 75 (.iastore) 1 76 := ⟨by decide +kernel, rfl⟩
theorem dX6_box_76 : dc cX6_box 76 (.aload_n 0) 1 77 := ⟨by decide +kernel, rfl⟩
theorem dX6_box_77 : dc cX6_box 77 (.getfield 10) 3 80 := ⟨by decide +kernel, rfl⟩
theorem dX6_box_80 : dc cX6_box 80 (.getfield 73) 3 83 := ⟨by decide +kernel, rfl⟩
theorem dX6_box_83 : dc cX6_box 83 (.iload_n 1) 1 84 := ⟨by decide +kernel, rfl⟩
theorem dX6_box_84 : dc cX6_box 84 (.iload 4) 2 86 := ⟨by decide +kernel, rfl⟩
theorem dX6_box_86 : dc cX6_box 86 (.iastore) 1 87 := ⟨by decide +kernel, rfl⟩
theorem dX6_box_87 : dc cX6_box 87 (.iload 5) 2 89 := ⟨by decide +kernel, rfl⟩
theorem dX6_box_89 : dc cX6_box 89 (.ireturn) 1 90 := ⟨by decide +kernel, rfl⟩
theorem dX6_say_0 : dc cX6_say 0 (.iload_n 1) 1 1 := ⟨by decide +kernel, rfl⟩
theorem dX6_say_1 : dc cX6_say 1 (.bipush 33) 2 3 := ⟨by decide +kernel, rfl⟩
theorem dX6_say_3 : dc cX6_say 3 (.bipush 126) 2 5 := ⟨by decide +kernel, rfl⟩
theorem dX6_say_5 : dc cX6_say 5 (.invokestatic 52) 3 8 := ⟨by decide +kernel, rfl⟩
theorem dX6_say_8 : dc cX6_say 8 (.ifCond .ne 6) 3 11 := ⟨by decide +kernel, rfl⟩
theorem dX6_say_11 : dc cX6_say 11 (.bipush (-2)) 2 13 := ⟨by decide +kernel, rfl⟩
theorem dX6_say_13 : dc cX6_say 13 (.ireturn) 1 14 := ⟨by decide +kernel, rfl⟩
theorem dX6_say_14 : dc cX6_say 14 (.aload_n 0) 1 15 := ⟨by decide +kernel, rfl⟩
theorem dX6_say_15 : dc cX6_say 15 (.getfield 23) 3 18 := ⟨by decide +kernel, rfl⟩
theorem dX6_say_18 : dc cX6_say 18 (.iload_n 1) 1 19 := ⟨by decide +kernel, rfl⟩
theorem dX6_say_19 : dc cX6_say 19 (.invokevirtual 83) 3 22 := ⟨by decide +kernel, rfl⟩
theorem dX6_say_22 : dc cX6_say 22 (.ifCond .eq 13) 3 25 := ⟨by decide +kernel, rfl⟩
theorem dX6_say_25 : dc cX6_say 25 (.aload_n 0) 1 26 := ⟨by decide +kernel, rfl⟩
theorem dX6_say_26 : dc cX6_say 26 (.getfield 23) 3 29 := ⟨by decide +kernel, rfl⟩
theorem dX6_say_29 : dc cX6_say 29 (.getfield 86) 3 32 := ⟨by decide +kernel, rfl⟩
theorem dX6_say_32 : dc cX6_say 32 (.goto 5) 3 35 := ⟨by decide +kernel, rfl⟩
theorem dX6_say_35 : dc cX6_say 35 (.bipush (-4)) 2 37 := ⟨by decide +kernel, rfl⟩
theorem dX6_say_37 : dc cX6_say 37 (.ireturn) 1 38 := ⟨by decide +kernel, rfl⟩
theorem dX6_wipe_0 : dc cX6_wipe 0 (.aload_n 0) 1 1 := ⟨by decide +kernel, rfl⟩
theorem dX6_wipe_1 : dc cX6_wipe 1 (.getfield 23) 3 4 := ⟨by decide +kernel, rfl⟩
theorem dX6_wipe_4 : dc cX6_wipe 4 (.getfield 86) 3 7 := ⟨by decide +kernel, rfl⟩
theorem dX6_wipe_7 : dc cX6_wipe 7 (.istore_n 1) 1 8 := ⟨by decide +kernel, rfl⟩
theorem dX6_wipe_8 : dc cX6_wipe 8 (.aload_n 0) 1 9 := ⟨by decide +kernel, rfl⟩
theorem dX6_wipe_9 : dc cX6_wipe 9 (.getfield 23) 3 12 := ⟨by decide +kernel, rfl⟩
theorem dX6_wipe_12 : dc cX6_wipe 12 (.iconst 0) 1 13 := ⟨by decide +kernel, rfl⟩
theorem dX6_wipe_13 : dc cX6_wipe 13 (.putfield 86) 3 16 := ⟨by decide +kernel, rfl⟩
theorem dX6_wipe_16 : dc cX6_wipe 16 (.iload_n 1) 1 17 := ⟨by decide +kernel, rfl⟩
theorem dX6_wipe_17 : dc cX6_wipe 17 (.ireturn) 1 18 := ⟨by decide +kernel, rfl⟩
theorem dX6_fault_0 : dc cX6_fault 0 (.aload_n 0) 1 1 := ⟨by decide +kernel, rfl⟩
theorem dX6_fault_1 : dc cX6_fault 1 (.getfield 23) 3 4 := ⟨by decide +kernel, rfl⟩
theorem dX6_fault_4 : dc cX6_fault 4 (.invokevirtual 89) 3 7 := ⟨by decide +kernel, rfl⟩
theorem dX6_fault_7 : dc cX6_fault 7 (.ireturn) 1 8 := ⟨by decide +kernel, rfl⟩
theorem dX6_judge_0 : dc cX6_judge 0 (.iload_n 1) 1 1 := ⟨by decide +kernel, rfl⟩
theorem dX6_judge_1 : dc cX6_judge 1 (.iconst 0) 1 2 := ⟨by decide +kernel, rfl⟩
theorem dX6_judge_2 : dc cX6_judge 2 (.iconst 1) 1 3 := ⟨by decide +kernel, rfl⟩
theorem dX6_judge_3 : dc cX6_judge 3 (.invokestatic 52) 3 6 := ⟨by decide +kernel, rfl⟩
theorem dX6_judge_6 : dc cX6_judge 6 (.ifCond .ne 6) 3 9 := ⟨by decide +kernel, rfl⟩
theorem dX6_judge_9 : dc cX6_judge 9 (.bipush (-2)) 2 11 := ⟨by decide +kernel, rfl⟩
theorem dX6_judge_11 : dc cX6_judge 11 (.ireturn) 1 12 := ⟨by decide +kernel, rfl⟩
theorem dX6_judge_12 : dc cX6_judge 12 (.aload_n 0) 1 13 := ⟨by decide +kernel, rfl⟩
theorem dX6_judge_13 : dc cX6_judge 13 (.getfield 23) 3 16 := ⟨by decide +kernel, rfl⟩
theorem dX6_judge_16 : dc cX6_judge 16 (.invokevirtual 89) 3 19 := ⟨by decide +kernel, rfl⟩
theorem dX6_judge_19 : dc cX6_judge 19 (.bipush (-6)) 2 21 := ⟨by decide +kernel, rfl⟩
theorem dX6_judge_21 : dc cX6_judge 21 (.if_icmp .eq 6) 3 24 := ⟨by decide +kernel, rfl⟩
theorem dX6_judge_24 : dc cX6_judge 24 (.bipush (-5)) 2 26 := ⟨by decide +kernel, rfl⟩
theorem dX6_judge_26 : dc cX6_judge 26 (.ireturn) 1 27 := ⟨by decide +kernel, rfl⟩
theorem dX6_judge_27 : dc cX6_judge 27 (.aload_n 0) 1 28 := ⟨by decide +kernel, rfl⟩
theorem dX6_judge_28 : dc cX6_judge 28 (.getfield 30) 3 31 := ⟨by decide +kernel, rfl⟩
theorem dX6_judge_31 : dc cX6_judge 31 (.aload_n 0) 1 32 := ⟨by decide +kernel, rfl⟩
theorem dX6_judge_32 : dc cX6_judge 32 (.getfield 10) 3 35 := ⟨by decide +kernel, rfl⟩
theorem dX6_judge_35 : dc cX6_judge 35 (.aload_n 0) 1 36 := ⟨by decide +kernel, rfl⟩
theorem dX6_judge_36 : dc cX6_judge 36 (.getfield 23) 3 39 := ⟨by decide +kernel, rfl⟩
theorem dX6_judge_39 : dc cX6_judge 39 (.invokevirtual 93) 3 42 := ⟨by decide +kernel, rfl⟩
theorem dX6_judge_42 : dc cX6_judge 42 (.iload_n 1) 1 43 := ⟨by decide +kernel, rfl⟩
theorem dX6_judge_43 : dc cX6_judge 43 (.ifCond .ne 13) 3 46 := ⟨by decide +kernel, rfl⟩
theorem dX6_judge_46 : dc cX6_judge 46 (.aload_n 0) 1 47 := ⟨by decide +kernel, rfl⟩
theorem dX6_judge_47 : dc cX6_judge 47 (.getfield 30) 3 50 := ⟨by decide +kernel, rfl⟩
theorem dX6_judge_50 : dc cX6_judge 50 (.getfield 97) 3 53 := ⟨by decide +kernel, rfl⟩
theorem dX6_judge_53 : dc cX6_judge 53 (.goto 10) 3 56 := ⟨by decide +kernel, rfl⟩
theorem dX6_judge_56 : dc cX6_judge 56 (.aload_n 0) 1 57 := ⟨by decide +kernel, rfl⟩
theorem dX6_judge_57 : dc cX6_judge 57 (.getfield 30) 3 60 := ⟨by decide +kernel, rfl⟩
theorem dX6_judge_60 : dc cX6_judge 60 (.getfield 100) 3 63 := ⟨by decide +kernel, rfl⟩
theorem dX6_judge_63 : dc cX6_judge 63 (.ireturn) 1 64 := ⟨by decide +kernel, rfl⟩
theorem dX6_done_0 : dc cX6_done 0 (.aload_n 0) 1 1 := ⟨by decide +kernel, rfl⟩
theorem dX6_done_1 : dc cX6_done 1 (.invokevirtual 103) 3 4 := ⟨by decide +kernel, rfl⟩
theorem dX6_done_4 : dc cX6_done 4 (.ifCond .ne 6) 3 7 := ⟨by decide +kernel, rfl⟩
theorem dX6_done_7 : dc cX6_done 7 (.bipush (-5)) 2 9 := ⟨by decide +kernel, rfl⟩
theorem dX6_done_9 : dc cX6_done 9 (.ireturn) 1 10 := ⟨by decide +kernel, rfl⟩
theorem dX6_done_10 : dc cX6_done 10 (.aload_n 0) 1 11 := ⟨by decide +kernel, rfl⟩
theorem dX6_done_11 : dc cX6_done 11 (.getfield 10) 3 14 := ⟨by decide +kernel, rfl⟩
theorem dX6_done_14 : dc cX6_done 14 (.aload_n 0) 1 15 := ⟨by decide +kernel, rfl⟩
theorem dX6_done_15 : dc cX6_done 15 (.getfield 30) 3 18 := ⟨by decide +kernel, rfl⟩
theorem dX6_done_18 : dc cX6_done 18 (.getfield 107) 3 21 := ⟨by decide +kernel, rfl⟩
theorem dX6_done_21 : dc cX6_done 21 (.invokevirtual 110) 3 24 := ⟨by decide +kernel, rfl⟩
theorem dX6_done_24 : dc cX6_done 24 (.aload_n 0) 1 25 := ⟨by decide +kernel, rfl⟩
theorem dX6_done_25 : dc cX6_done 25 (.getfield 23) 3 28 := ⟨by decide +kernel, rfl⟩
theorem dX6_done_28 : dc cX6_done 28 (.iconst 0) 1 29 := ⟨by decide +kernel, rfl⟩
theorem dX6_done_29 : dc cX6_done 29 (.putfield 86) 3 32 := ⟨by decide +kernel, rfl⟩
theorem dX6_done_32 : dc cX6_done 32 (.aload_n 0) 1 33 := ⟨by decide +kernel, rfl⟩
theorem dX6_done_33 : dc cX6_done 33 (.getfield 30) 3 36 := ⟨by decide +kernel, rfl⟩
theorem dX6_done_36 : dc cX6_done 36 (.getfield 114) 3 39 := ⟨by decide +kernel, rfl⟩
theorem dX6_done_39 : dc cX6_done 39 (.ireturn) 1 40 := ⟨by decide +kernel, rfl⟩
theorem dX6_behind_0 : dc cX6_behind 0 (.iload_n 1) 1 1 := ⟨by decide +kernel, rfl⟩
theorem dX6_behind_1 : dc cX6_behind 1 (.invokestatic 48) 3 4 := ⟨by decide +kernel, rfl⟩
theorem dX6_behind_4 : dc cX6_behind 4 (.ifCond .ne 5) 3 7 := ⟨by decide +kernel, rfl⟩
theorem dX6_behind_7 : dc cX6_behind 7 (.iconst (-1)) 1 8 := ⟨by decide +kernel, rfl⟩
theorem dX6_behind_8 : dc cX6_behind 8 (.ireturn) 1 9 := ⟨by decide +kernel, rfl⟩
theorem dX6_behind_9 : dc cX6_behind 9 (.iload_n 2) 1 10 := ⟨by decide +kernel, rfl⟩
theorem dX6_behind_10 : dc cX6_behind 10 (.iconst 0) 1 11 := ⟨by decide +kernel, rfl⟩
theorem dX6_behind_11 : dc cX6_behind 11 (.iconst 3) 1 12 := ⟨by decide +kernel, rfl⟩
theorem dX6_behind_12 : dc cX6_behind 12 (.invokestatic 52) 3 15 := ⟨by decide +kernel, rfl⟩
theorem dX6_behind_15 : dc cX6_behind 15 (.ifCond .ne 6) 3 18 := ⟨by decide +kernel, rfl⟩
theorem dX6_behind_18 : dc cX6_behind 18 (.bipush (-2)) 2 20 := ⟨by decide +kernel, rfl⟩
theorem dX6_behind_20 : dc cX6_behind 20 (.ireturn) 1 21 := ⟨by decide +kernel, rfl⟩
theorem dX6_behind_21 : dc cX6_behind 21 (.aload_n 0) 1 22 := ⟨by decide +kernel, rfl⟩
theorem dX6_behind_22 : dc cX6_behind 22 (.invokevirtual 103) 3 25 := ⟨by decide +kernel, rfl⟩
theorem dX6_behind_25 : dc cX6_behind 25 (.ifCond .ne 6) 3 28 := ⟨by decide +kernel, rfl⟩
theorem dX6_behind_28 : dc cX6_behind 28 (.bipush (-5)) 2 30 := ⟨by decide +kernel, rfl⟩
theorem dX6_behind_30 : dc cX6_behind 30 (.ireturn) 1 31 := ⟨by decide +kernel, rfl⟩
theorem dX6_behind_31 : dc cX6_behind 31 (.iload_n 2) 1 32 := ⟨by decide +kernel, rfl⟩
theorem dX6_behind_32 : dc cX6_behind 32 (.tableswitch 74 0 2 #[28, 48, 61]) 28 60 := ⟨by decide +kernel, rfl⟩
theorem dX6_behind_60 : dc cX6_behind 60 (.aload_n 0) 1 61 := ⟨by decide +kernel, rfl⟩
theorem dX6_behind_61 : dc cX6_behind 61 (.getfield 30) 3 64 := ⟨by decide +kernel, rfl⟩
theorem dX6_behind_64 : dc cX6_behind 64 (.getfield 107) 3 67 := ⟨by decide +kernel, rfl⟩
theorem dX6_behind_67 : dc cX6_behind 67 (.iload_n 1) 1 68 := ⟨by decide +kernel, rfl⟩
theorem dX6_behind_68 : dc cX6_behind 68 (.invokevirtual 117) 3 71 := ⟨by decide +kernel, rfl⟩
theorem dX6_behind_71 : dc cX6_behind 71 (.ifCond .eq 7) 3 74 := ⟨by decide +kernel, rfl⟩
theorem dX6_behind_74 : dc cX6_behind 74 (.iconst 1) 1 75 := ⟨by decide +kernel, rfl⟩
theorem dX6_behind_75 : dc cX6_behind 75 (.goto 4) 3 78 := ⟨by decide +kernel, rfl⟩
theorem dX6_behind_78 : dc cX6_behind 78 (.iconst 0) 1 79 := ⟨by decide +kernel, rfl⟩
theorem dX6_behind_79 : dc cX6_behind 79 (.ireturn) 1 80 := ⟨by decide +kernel, rfl⟩
theorem dX6_behind_80 : dc cX6_behind 80 (.aload_n 0) 1 81 := ⟨by decide +kernel, rfl⟩
theorem dX6_behind_81 : dc cX6_behind 81 (.getfield 30) 3 84 := ⟨by decide +kernel, rfl⟩
theorem dX6_behind_84 : dc cX6_behind 84 (.getfield 107) 3 87 := ⟨by decide +kernel, rfl⟩
theorem dX6_behind_87 : dc cX6_behind 87 (.getfield 120) 3 90 := ⟨by decide +kernel, rfl⟩
theorem dX6_behind_90 : dc cX6_behind 90 (.iload_n 1) 1 91 := ⟨by decide +kernel, rfl⟩
theorem dX6_behind_91 : dc cX6_behind 91 (.iaload) 1 92 := ⟨by decide +kernel, rfl⟩
theorem dX6_behind_92 : dc cX6_behind 92 (.ireturn) 1 93 := ⟨by decide +kernel, rfl⟩
theorem dX6_behind_93 : dc cX6_behind 93 (.aload_n 0) 1 94 := ⟨by decide +kernel, rfl⟩
theorem dX6_behind_94 : dc cX6_behind 94 (.getfield 30) 3 97 := ⟨by decide +kernel, rfl⟩
theorem dX6_behind_97 : dc cX6_behind 97 (.getfield 107) 3 100 := ⟨by decide +kernel, rfl⟩
theorem dX6_behind_100 : dc cX6_behind 100 (.getfield 123) 3 103 := ⟨by decide +kernel, rfl⟩
theorem dX6_behind_103 : dc cX6_behind 103 (.iload_n 1) 1 104 := ⟨by decide +kernel, rfl⟩
theorem dX6_behind_104 : dc cX6_behind 104 (.iaload) 1 105 := ⟨by decide +kernel, rfl⟩
theorem dX6_behind_105 : dc cX6_behind 105 (.ireturn) 1 106 := ⟨by decide +kernel, rfl⟩
theorem dX6_behind_106 : dc cX6_behind 106 (.aload_n 0) 1 107 := ⟨by decide +kernel, rfl⟩
theorem dX6_behind_107 : dc cX6_behind 107 (.getfield 30) 3 110 := ⟨by decide +kernel, rfl⟩
theorem dX6_behind_110 : dc cX6_behind 110 (.getfield 107) 3 113 := ⟨by decide +kernel, rfl⟩
theorem dX6_behind_113 : dc cX6_behind 113 (.getfield 126) 3 116 := ⟨by decide +kernel, rfl⟩
theorem dX6_behind_116 : dc cX6_behind 116 (.iload_n 1) 1 117 := ⟨by decide +kernel, rfl⟩
theorem dX6_behind_117 : dc cX6_behind 117 (.iaload) 1 118 := ⟨by decide +kernel, rfl⟩
theorem dX6_behind_118 : dc cX6_behind 118 (.ireturn) 1 119 := ⟨by decide +kernel, rfl⟩
theorem dX6_then_0 : dc cX6_then 0 (.iload_n 1) 1 1 := ⟨by decide +kernel, rfl⟩
theorem dX6_then_1 : dc cX6_then 1 (.iconst 0) 1 2 := ⟨by decide +kernel, rfl⟩
theorem dX6_then_2 : dc cX6_then 2 (.iconst 3) 1 3 := ⟨by decide +kernel, rfl⟩
theorem dX6_then_3 : dc cX6_then 3 (.invokestatic 52) 3 6 := ⟨by decide +kernel, rfl⟩
theorem dX6_then_6 : dc cX6_then 6 (.ifCond .ne 6) 3 9 := ⟨by decide +kernel, rfl⟩
theorem dX6_then_9 : dc cX6_then 9 (.bipush (-2)) 2 11 := ⟨by decide +kernel, rfl⟩
theorem dX6_then_11 : dc cX6_then 11 (.ireturn) 1 12 := ⟨by decide +kernel, rfl⟩
theorem dX6_then_12 : dc cX6_then 12 (.aload_n 0) 1 13 := ⟨by decide +kernel, rfl⟩
theorem dX6_then_13 : dc cX6_then 13 (.invokevirtual 103) 3 16 := ⟨by decide +kernel, rfl⟩
theorem dX6_then_16 : dc cX6_then 16 (.ifCond .ne 6) 3 19 := ⟨by decide +kernel, rfl⟩
theorem dX6_then_19 : dc cX6_then 19 (.bipush (-5)) 2 21 := ⟨by decide +kernel, rfl⟩
theorem dX6_then_21 : dc cX6_then 21 (.ireturn) 1 22 := ⟨by decide +kernel, rfl⟩
theorem dX6_then_22 : dc cX6_then 22 (.iload_n 1) 1 23 := ⟨by decide +kernel, rfl⟩
theorem dX6_then_23 : dc cX6_then 23 (.tableswitch 55 0 2 #[25, 36, 47]) 25 48 := ⟨by decide +kernel, rfl⟩
theorem dX6_then_48 : dc cX6_then 48 (.aload_n 0) 1 49 := ⟨by decide +kernel, rfl⟩
theorem dX6_then_49 : dc cX6_then 49 (.getfield 30) 3 52 := ⟨by decide +kernel, rfl⟩
theorem dX6_then_52 : dc cX6_then 52 (.getfield 107) 3 55 := ⟨by decide +kernel, rfl⟩
theorem dX6_then_55 : dc cX6_then 55 (.getfield 60) 3 58 := ⟨by decide +kernel, rfl⟩
theorem dX6_then_58 : dc cX6_then 58 (.ireturn) 1 59 := ⟨by decide +kernel, rfl⟩
theorem dX6_then_59 : dc cX6_then 59 (.aload_n 0) 1 60 := ⟨by decide +kernel, rfl⟩
theorem dX6_then_60 : dc cX6_then 60 (.getfield 30) 3 63 := ⟨by decide +kernel, rfl⟩
theorem dX6_then_63 : dc cX6_then 63 (.getfield 107) 3 66 := ⟨by decide +kernel, rfl⟩
theorem dX6_then_66 : dc cX6_then 66 (.getfield 129) 3 69 := ⟨by decide +kernel, rfl⟩
theorem dX6_then_69 : dc cX6_then 69 (.ireturn) 1 70 := ⟨by decide +kernel, rfl⟩
theorem dX6_then_70 : dc cX6_then 70 (.aload_n 0) 1 71 := ⟨by decide +kernel, rfl⟩
theorem dX6_then_71 : dc cX6_then 71 (.getfield 30) 3 74 := ⟨by decide +kernel, rfl⟩
theorem dX6_then_74 : dc cX6_then 74 (.getfield 132) 3 77 := ⟨by decide +kernel, rfl⟩
theorem dX6_then_77 : dc cX6_then 77 (.ireturn) 1 78 := ⟨by decide +kernel, rfl⟩
theorem dX6_then_78 : dc cX6_then 78 (.aload_n 0) 1 79 := ⟨by decide +kernel, rfl⟩
theorem dX6_then_79 : dc cX6_then 79 (.getfield 30) 3 82 := ⟨by decide +kernel, rfl⟩
theorem dX6_then_82 : dc cX6_then 82 (.getfield 135) 3 85 := ⟨by decide +kernel, rfl⟩
theorem dX6_then_85 : dc cX6_then 85 (.ireturn) 1 86 := ⟨by decide +kernel, rfl⟩
theorem dX6_opens_0 : dc cX6_opens 0 (.iload_n 1) 1 1 := ⟨by decide +kernel, rfl⟩
theorem dX6_opens_1 : dc cX6_opens 1 (.invokestatic 70) 3 4 := ⟨by decide +kernel, rfl⟩
theorem dX6_opens_4 : dc cX6_opens 4 (.ifCond .eq 14) 3 7 := ⟨by decide +kernel, rfl⟩
theorem dX6_opens_7 : dc cX6_opens 7 (.aload_n 0) 1 8 := ⟨by decide +kernel, rfl⟩
theorem dX6_opens_8 : dc cX6_opens 8 (.getfield 10) 3 11 := ⟨by decide +kernel, rfl⟩
theorem dX6_opens_11 : dc cX6_opens 11 (.iload_n 1) 1 12 := ⟨by decide +kernel, rfl⟩
theorem dX6_opens_12 : dc cX6_opens 12 (.invokevirtual 138) 3 15 := ⟨by decide +kernel, rfl⟩
theorem dX6_opens_15 : dc cX6_opens 15 (.goto 4) 3 18 := ⟨by decide +kernel, rfl⟩
theorem dX6_opens_18 : dc cX6_opens 18 (.iconst (-1)) 1 19 := ⟨by decide +kernel, rfl⟩
theorem dX6_opens_19 : dc cX6_opens 19 (.ireturn) 1 20 := ⟨by decide +kernel, rfl⟩
theorem dX6_two_0 : dc cX6_two 0 (.iconst 0) 1 1 := ⟨by decide +kernel, rfl⟩
theorem dX6_two_1 : dc cX6_two 1 (.istore_n 1) 1 2 := ⟨by decide +kernel, rfl⟩
theorem dX6_two_2 : dc cX6_two 2 (.iconst 0) 1 3 := ⟨by decide +kernel, rfl⟩
theorem dX6_two_3 : dc cX6_two 3 (.istore_n 2) 1 4 := ⟨by decide +kernel, rfl⟩
theorem dX6_two_4 : dc cX6_two 4 (.iload_n 2) 1 5 := ⟨by decide +kernel, rfl⟩
theorem dX6_two_5 : dc cX6_two 5 (.bipush 6) 2 7 := ⟨by decide +kernel, rfl⟩
theorem dX6_two_7 : dc cX6_two 7 (.if_icmp .ge 30) 3 10 := ⟨by decide +kernel, rfl⟩
theorem dX6_two_10 : dc cX6_two 10 (.aload_n 0) 1 11 := ⟨by decide +kernel, rfl⟩
theorem dX6_two_11 : dc cX6_two 11 (.getfield 10) 3 14 := ⟨by decide +kernel, rfl⟩
theorem dX6_two_14 : dc cX6_two 14 (.iload_n 2) 1 15 := ⟨by decide +kernel, rfl⟩
theorem dX6_two_15 : dc cX6_two 15 (.invokevirtual 138) 3 18 := ⟨by decide +kernel, rfl⟩
theorem dX6_two_18 : dc cX6_two 18 (.invokestatic 64) 3 21 := ⟨by decide +kernel, rfl⟩
theorem dX6_two_21 : dc cX6_two 21 (.iconst 2) 1 22 := ⟨by decide +kernel, rfl⟩
theorem dX6_two_22 : dc cX6_two 22 (.if_icmp .lt 9) 3 25 := ⟨by decide +kernel, rfl⟩
theorem dX6_two_25 : dc cX6_two 25 (.iload_n 1) 1 26 := ⟨by decide +kernel, rfl⟩
theorem dX6_two_26 : dc cX6_two 26 (.iconst 1) 1 27 := ⟨by decide +kernel, rfl⟩
theorem dX6_two_27 : dc cX6_two 27 (.iload_n 2) 1 28 := ⟨by decide +kernel, rfl⟩
theorem dX6_two_28 : dc cX6_two 28 (.ishl) 1 29 := ⟨by decide +kernel, rfl⟩
theorem dX6_two_29 : dc cX6_two 29 (.ior) 1 30 := ⟨by decide +kernel, rfl⟩
theorem dX6_two_30 : dc cX6_two 30 (.istore_n 1) 1 31 := ⟨by decide +kernel, rfl⟩
theorem dX6_two_31 : dc cX6_two 31 (.iinc 2 1) 3 34 := ⟨by decide +kernel, rfl⟩
theorem dX6_two_34 : dc cX6_two 34 (.goto (-30)) 3 37 := ⟨by decide +kernel, rfl⟩
theorem dX6_two_37 : dc cX6_two 37 (.iload_n 1) 1 38 := ⟨by decide +kernel, rfl⟩
theorem dX6_two_38 : dc cX6_two 38 (.ireturn) 1 39 := ⟨by decide +kernel, rfl⟩
theorem dX6_chain_0 : dc cX6_chain 0 (.iload_n 1) 1 1 := ⟨by decide +kernel, rfl⟩
theorem dX6_chain_1 : dc cX6_chain 1 (.invokestatic 48) 3 4 := ⟨by decide +kernel, rfl⟩
theorem dX6_chain_4 : dc cX6_chain 4 (.ifCond .ne 5) 3 7 := ⟨by decide +kernel, rfl⟩
theorem dX6_chain_7 : dc cX6_chain 7 (.iconst (-1)) 1 8 := ⟨by decide +kernel, rfl⟩
theorem dX6_chain_8 : dc cX6_chain 8 (.ireturn) 1 9 := ⟨by decide +kernel, rfl⟩
theorem dX6_chain_9 : dc cX6_chain 9 (.iload_n 2) 1 10 := ⟨by decide +kernel, rfl⟩
theorem dX6_chain_10 : dc cX6_chain 10 (.iconst 0) 1 11 := ⟨by decide +kernel, rfl⟩
theorem dX6_chain_11 : dc cX6_chain 11 (.iconst 1) 1 12 := ⟨by decide +kernel, rfl⟩
theorem dX6_chain_12 : dc cX6_chain 12 (.invokestatic 52) 3 15 := ⟨by decide +kernel, rfl⟩
theorem dX6_chain_15 : dc cX6_chain 15 (.ifCond .ne 6) 3 18 := ⟨by decide +kernel, rfl⟩
theorem dX6_chain_18 : dc cX6_chain 18 (.bipush (-2)) 2 20 := ⟨by decide +kernel, rfl⟩
theorem dX6_chain_20 : dc cX6_chain 20 (.ireturn) 1 21 := ⟨by decide +kernel, rfl⟩
theorem dX6_chain_21 : dc cX6_chain 21 (.iconst 1) 1 22 := ⟨by decide +kernel, rfl⟩
theorem dX6_chain_22 : dc cX6_chain 22 (.iload_n 1) 1 23 := ⟨by decide +kernel, rfl⟩
theorem dX6_chain_23 : dc cX6_chain 23 (.ishl) 1 24 := ⟨by decide +kernel, rfl⟩
theorem dX6_chain_24 : dc cX6_chain 24 (.istore_n 3) 1 25 := ⟨by decide +kernel, rfl⟩
theorem dX6_chain_25 : dc cX6_chain 25 (.bipush (-6)) 2 27 := ⟨by decide +kernel, rfl⟩
theorem dX6_chain_27 : dc cX6_chain 27 (.istore 4) 2 29 := ⟨by decide +kernel, rfl⟩
theorem dX6_chain_29 : dc cX6_chain 29 (.aload_n 0) 1 30 := ⟨by decide +kernel, rfl⟩
theorem dX6_chain_30 : dc cX6_chain 30 (.getfield 10) 3 33 := ⟨by decide +kernel, rfl⟩
theorem dX6_chain_33 : dc cX6_chain 33 (.getfield 126) 3 36 := ⟨by decide +kernel, rfl⟩
theorem dX6_chain_36 : dc cX6_chain 36 (.iload_n 1) 1 37 := ⟨by decide +kernel, rfl⟩
theorem dX6_chain_37 : dc cX6_chain 37 (.iaload) 1 38 := ⟨by decide +kernel, rfl⟩
theorem dX6_chain_38 : dc cX6_chain 38 (.istore 5) 2 40 := ⟨by decide +kernel, rfl⟩
theorem dX6_chain_40 : dc cX6_chain 40 (.iconst 0) 1 41 := ⟨by decide +kernel, rfl⟩
theorem dX6_chain_41 : dc cX6_chain 41 (.istore 6) 2 43 := ⟨by decide +kernel, rfl⟩
theorem dX6_chain_43 : dc cX6_chain 43 (.iload 6) 2 45 := ⟨by decide +kernel, rfl⟩
theorem dX6_chain_45 : dc cX6_chain 45 (.bipush 8) 2 47 := ⟨by decide +kernel, rfl⟩
theorem dX6_chain_47 : dc cX6_chain 47 (.if_icmp .ge 49) 3 50 := ⟨by decide +kernel, rfl⟩
theorem dX6_chain_50 : dc cX6_chain 50 (.iload 5) 2 52 := ⟨by decide +kernel, rfl⟩
theorem dX6_chain_52 : dc cX6_chain 52 (.invokestatic 48) 3 55 := ⟨by decide +kernel, rfl⟩
theorem dX6_chain_55 : dc cX6_chain 55 (.ifCond .eq 41) 3 58 := ⟨by decide +kernel, rfl⟩
theorem dX6_chain_58 : dc cX6_chain 58 (.iload_n 3) 1 59 := ⟨by decide +kernel, rfl⟩
theorem dX6_chain_59 : dc cX6_chain 59 (.iload 5) 2 61 := ⟨by decide +kernel, rfl⟩
theorem dX6_chain_61 : dc cX6_chain 61 (.invokestatic 141) 3 64 := ⟨by decide +kernel, rfl⟩
theorem dX6_chain_64 : dc cX6_chain 64 (.ifCond .ne 32) 3 67 := ⟨by decide +kernel, rfl⟩
theorem dX6_chain_67 : dc cX6_chain 67 (.iload_n 3) 1 68 := ⟨by decide +kernel, rfl⟩
theorem dX6_chain_68 : dc cX6_chain 68 (.iconst 1) 1 69 := ⟨by decide +kernel, rfl⟩
theorem dX6_chain_69 : dc cX6_chain 69 (.iload 5) 2 71 := ⟨by decide +kernel, rfl⟩
theorem dX6_chain_71 : dc cX6_chain 71 (.ishl) 1 72 := ⟨by decide +kernel, rfl⟩
theorem dX6_chain_72 : dc cX6_chain 72 (.ior) 1 73 := ⟨by decide +kernel, rfl⟩
theorem dX6_chain_73 : dc cX6_chain 73 (.istore_n 3) 1 74 := ⟨by decide +kernel, rfl⟩
theorem dX6_chain_74 : dc cX6_chain 74 (.iload 5) 2 76 := ⟨by decide +kernel, rfl⟩
theorem dX6_chain_76 : dc cX6_chain 76 (.istore 4) 2 78 := ⟨by decide +kernel, rfl⟩
theorem dX6_chain_78 : dc cX6_chain 78 (.aload_n 0) 1 79 := ⟨by decide +kernel, rfl⟩
theorem dX6_chain_79 : dc cX6_chain 79 (.getfield 10) 3 82 := ⟨by decide +kernel, rfl⟩
theorem dX6_chain_82 : dc cX6_chain 82 (.getfield 126) 3 85 := ⟨by decide +kernel, rfl⟩
theorem dX6_chain_85 : dc cX6_chain 85 (.iload 5) 2 87 := ⟨by decide +kernel, rfl⟩
theorem dX6_chain_87 : dc cX6_chain 87 (.iaload) 1 88 := ⟨by decide +kernel, rfl⟩
theorem dX6_chain_88 : dc cX6_chain 88 (.istore 5) 2 90 := ⟨by decide +kernel, rfl⟩
theorem dX6_chain_90 : dc cX6_chain 90 (.iinc 6 1) 3 93 := ⟨by decide +kernel, rfl⟩
theorem dX6_chain_93 : dc cX6_chain 93 (.goto (-50)) 3 96 := ⟨by decide +kernel, rfl⟩
theorem dX6_chain_96 : dc cX6_chain 96 (.iload_n 2) 1 97 := ⟨by decide +kernel, rfl⟩
theorem dX6_chain_97 : dc cX6_chain 97 (.ifCond .ne 12) 3 100 := ⟨by decide +kernel, rfl⟩
theorem dX6_chain_100 : dc cX6_chain 100 (.iload_n 3) 1 101 := ⟨by decide +kernel, rfl⟩
theorem dX6_chain_101 : dc cX6_chain 101 (.invokestatic 64) 3 104 := ⟨by decide +kernel, rfl⟩
theorem dX6_chain_104 : dc cX6_chain 104 (.iconst 1) 1 105 := ⟨by decide +kernel, rfl⟩
theorem dX6_chain_105 : dc cX6_chain 105 (.isub) 1 106 := ⟨by decide +kernel, rfl⟩
theorem dX6_chain_106 : dc cX6_chain 106 (.goto 5) 3 109 := ⟨by decide +kernel, rfl⟩
theorem dX6_chain_109 : dc cX6_chain 109 (.iload 4) 2 111 := ⟨by decide +kernel, rfl⟩
theorem dX6_chain_111 : dc cX6_chain 111 (.ireturn) 1 112 := ⟨by decide +kernel, rfl⟩
theorem dX6_owes_0 : dc cX6_owes 0 (.iload_n 1) 1 1 := ⟨by decide +kernel, rfl⟩
theorem dX6_owes_1 : dc cX6_owes 1 (.invokestatic 48) 3 4 := ⟨by decide +kernel, rfl⟩
theorem dX6_owes_4 : dc cX6_owes 4 (.ifCond .eq 15) 3 7 := ⟨by decide +kernel, rfl⟩
theorem dX6_owes_7 : dc cX6_owes 7 (.iload_n 2) 1 8 := ⟨by decide +kernel, rfl⟩
theorem dX6_owes_8 : dc cX6_owes 8 (.invokestatic 48) 3 11 := ⟨by decide +kernel, rfl⟩
theorem dX6_owes_11 : dc cX6_owes 11 (.ifCond .eq 8) 3 14 := ⟨by decide +kernel, rfl⟩
theorem dX6_owes_14 : dc cX6_owes 14 (.iload_n 1) 1 15 := ⟨by decide +kernel, rfl⟩
theorem dX6_owes_15 : dc cX6_owes 15 (.iload_n 2) 1 16 := ⟨by decide +kernel, rfl⟩
theorem dX6_owes_16 : dc cX6_owes 16 (.if_icmp .ne 5) 3 19 := ⟨by decide +kernel, rfl⟩
theorem dX6_owes_19 : dc cX6_owes 19 (.iconst (-1)) 1 20 := ⟨by decide +kernel, rfl⟩
theorem dX6_owes_20 : dc cX6_owes 20 (.ireturn) 1 21 := ⟨by decide +kernel, rfl⟩
theorem dX6_owes_21 : dc cX6_owes 21 (.aload_n 0) 1 22 := ⟨by decide +kernel, rfl⟩
theorem dX6_owes_22 : dc cX6_owes 22 (.getfield 10) 3 25 := ⟨by decide +kernel, rfl⟩
theorem dX6_owes_25 : dc cX6_owes 25 (.getfield 145) 3 28 := ⟨by decide +kernel, rfl⟩
theorem dX6_owes_28 : dc cX6_owes 28 (.iload_n 1) 1 29 := ⟨by decide +kernel, rfl⟩
theorem dX6_owes_29 : dc cX6_owes 29 (.iload_n 2) 1 30 := ⟨by decide +kernel, rfl⟩
theorem dX6_owes_30 : dc cX6_owes 30 (.invokestatic 148) 3 33 := ⟨by decide +kernel, rfl⟩
theorem dX6_owes_33 : dc cX6_owes 33 (.iaload) 1 34 := ⟨by decide +kernel, rfl⟩
theorem dX6_owes_34 : dc cX6_owes 34 (.ireturn) 1 35 := ⟨by decide +kernel, rfl⟩
theorem dX6_netted_0 : dc cX6_netted 0 (.iload_n 1) 1 1 := ⟨by decide +kernel, rfl⟩
theorem dX6_netted_1 : dc cX6_netted 1 (.invokestatic 48) 3 4 := ⟨by decide +kernel, rfl⟩
theorem dX6_netted_4 : dc cX6_netted 4 (.ifCond .ne 5) 3 7 := ⟨by decide +kernel, rfl⟩
theorem dX6_netted_7 : dc cX6_netted 7 (.iconst (-1)) 1 8 := ⟨by decide +kernel, rfl⟩
theorem dX6_netted_8 : dc cX6_netted 8 (.ireturn) 1 9 := ⟨by decide +kernel, rfl⟩
theorem dX6_netted_9 : dc cX6_netted 9 (.sipush 10000) 3 12 := ⟨by decide +kernel, rfl⟩
theorem dX6_netted_12 : dc cX6_netted 12 (.istore_n 2) 1 13 := ⟨by decide +kernel, rfl⟩
theorem dX6_netted_13 : dc cX6_netted 13 (.iconst 0) 1 14 := ⟨by decide +kernel, rfl⟩
theorem dX6_netted_14 : dc cX6_netted 14 (.istore_n 3) 1 15 := ⟨by decide +kernel, rfl⟩
theorem dX6_netted_15 : dc cX6_netted 15 (.iload_n 3) 1 16 := ⟨by decide +kernel, rfl⟩
theorem dX6_netted_16 : dc cX6_netted 16 (.bipush 8) 2 18 := ⟨by decide +kernel, rfl⟩
theorem dX6_netted_18 : dc cX6_netted 18 (.if_icmp .ge 39) 3 21 := ⟨by decide +kernel, rfl⟩
theorem dX6_netted_21 : dc cX6_netted 21 (.iload_n 2) 1 22 := ⟨by decide +kernel, rfl⟩
theorem dX6_netted_22 : dc cX6_netted 22 (.aload_n 0) 1 23 := ⟨by decide +kernel, rfl⟩
theorem dX6_netted_23 : dc cX6_netted 23 (.getfield 10) 3 26 := ⟨by decide +kernel, rfl⟩
theorem dX6_netted_26 : dc cX6_netted 26 (.getfield 145) 3 29 := ⟨by decide +kernel, rfl⟩
theorem dX6_netted_29 : dc cX6_netted 29 (.iload_n 3) 1 30 := ⟨by decide +kernel, rfl⟩
theorem dX6_netted_30 : dc cX6_netted 30 (.iload_n 1) 1 31 := ⟨by decide +kernel, rfl⟩
theorem dX6_netted_31 : dc cX6_netted 31 (.invokestatic 148) 3 34 := ⟨by decide +kernel, rfl⟩
theorem dX6_netted_34 : dc cX6_netted 34 (.iaload) 1 35 := ⟨by decide +kernel, rfl⟩
theorem dX6_netted_35 : dc cX6_netted 35 (.aload_n 0) 1 36 := ⟨by decide +kernel, rfl⟩
theorem dX6_netted_36 : dc cX6_netted 36 (.getfield 10) 3 39 := ⟨by decide +kernel, rfl⟩
theorem dX6_netted_39 : dc cX6_netted 39 (.getfield 145) 3 42 := ⟨by decide +kernel, rfl⟩
theorem dX6_netted_42 : dc cX6_netted 42 (.iload_n 1) 1 43 := ⟨by decide +kernel, rfl⟩
theorem dX6_netted_43 : dc cX6_netted 43 (.iload_n 3) 1 44 := ⟨by decide +kernel, rfl⟩
theorem dX6_netted_44 : dc cX6_netted 44 (.invokestatic 148) 3 47 := ⟨by decide +kernel, rfl⟩
theorem dX6_netted_47 : dc cX6_netted 47 (.iaload) 1 48 := ⟨by decide +kernel, rfl⟩
theorem dX6_netted_48 : dc cX6_netted 48 (.isub) 1 49 := ⟨by decide +kernel, rfl⟩
theorem dX6_netted_49 : dc cX6_netted 49 (.iadd) 1 50 := ⟨by decide +kernel, rfl⟩
theorem dX6_netted_50 : dc cX6_netted 50 (.istore_n 2) 1 51 := ⟨by decide +kernel, rfl⟩
theorem dX6_netted_51 : dc cX6_netted 51 (.iinc 3 1) 3 54 := ⟨by decide +kernel, rfl⟩
theorem dX6_netted_54 : dc cX6_netted 54 (.goto (-39)) 3 57 := ⟨by decide +kernel, rfl⟩
theorem dX6_netted_57 : dc cX6_netted 57 (.iload_n 2) 1 58 := ⟨by decide +kernel, rfl⟩
theorem dX6_netted_58 : dc cX6_netted 58 (.ireturn) 1 59 := ⟨by decide +kernel, rfl⟩
theorem dX6_rings_0 : dc cX6_rings 0 (.iconst 0) 1 1 := ⟨by decide +kernel, rfl⟩
theorem dX6_rings_1 : dc cX6_rings 1 (.istore_n 1) 1 2 := ⟨by decide +kernel, rfl⟩
theorem dX6_rings_2 : dc cX6_rings 2 (.iconst 0) 1 3 := ⟨by decide +kernel, rfl⟩
theorem dX6_rings_3 : dc cX6_rings 3 (.istore_n 2) 1 4 := ⟨by decide +kernel, rfl⟩
theorem dX6_rings_4 : dc cX6_rings 4 (.iload_n 2) 1 5 := ⟨by decide +kernel, rfl⟩
theorem dX6_rings_5 : dc cX6_rings 5 (.bipush 8) 2 7 := ⟨by decide +kernel, rfl⟩
theorem dX6_rings_7 : dc cX6_rings 7 (.if_icmp .ge 30) 3 10 := ⟨by decide +kernel, rfl⟩
theorem dX6_rings_10 : dc cX6_rings 10 (.aload_n 0) 1 11 := ⟨by decide +kernel, rfl⟩
theorem dX6_rings_11 : dc cX6_rings 11 (.getfield 10) 3 14 := ⟨by decide +kernel, rfl⟩
theorem dX6_rings_14 : dc cX6_rings 14 (.iload_n 2) 1 15 := ⟨by decide +kernel, rfl⟩
theorem dX6_rings_15 : dc cX6_rings 15 (.invokevirtual 152) 3 18 := ⟨by decide +kernel, rfl⟩
theorem dX6_rings_18 : dc cX6_rings 18 (.iload_n 2) 1 19 := ⟨by decide +kernel, rfl⟩
theorem dX6_rings_19 : dc cX6_rings 19 (.invokestatic 141) 3 22 := ⟨by decide +kernel, rfl⟩
theorem dX6_rings_22 : dc cX6_rings 22 (.ifCond .eq 9) 3 25 := ⟨by decide +kernel, rfl⟩
theorem dX6_rings_25 : dc cX6_rings 25 (.iload_n 1) 1 26 := ⟨by decide +kernel, rfl⟩
theorem dX6_rings_26 : dc cX6_rings 26 (.iconst 1) 1 27 := ⟨by decide +kernel, rfl⟩
theorem dX6_rings_27 : dc cX6_rings 27 (.iload_n 2) 1 28 := ⟨by decide +kernel, rfl⟩
theorem dX6_rings_28 : dc cX6_rings 28 (.ishl) 1 29 := ⟨by decide +kernel, rfl⟩
theorem dX6_rings_29 : dc cX6_rings 29 (.ior) 1 30 := ⟨by decide +kernel, rfl⟩
theorem dX6_rings_30 : dc cX6_rings 30 (.istore_n 1) 1 31 := ⟨by decide +kernel, rfl⟩
theorem dX6_rings_31 : dc cX6_rings 31 (.iinc 2 1) 3 34 := ⟨by decide +kernel, rfl⟩
theorem dX6_rings_34 : dc cX6_rings 34 (.goto (-30)) 3 37 := ⟨by decide +kernel, rfl⟩
theorem dX6_rings_37 : dc cX6_rings 37 (.iload_n 1) 1 38 := ⟨by decide +kernel, rfl⟩
theorem dX6_rings_38 : dc cX6_rings 38 (.ireturn) 1 39 := ⟨by decide +kernel, rfl⟩
theorem dX6_note_0 : dc cX6_note 0 (.aload_n 0) 1 1 := ⟨by decide +kernel, rfl⟩
theorem dX6_note_1 : dc cX6_note 1 (.getfield 10) 3 4 := ⟨by decide +kernel, rfl⟩
theorem dX6_note_4 : dc cX6_note 4 (.iload_n 1) 1 5 := ⟨by decide +kernel, rfl⟩
theorem dX6_note_5 : dc cX6_note 5 (.invokevirtual 117) 3 8 := ⟨by decide +kernel, rfl⟩
theorem dX6_note_8 : dc cX6_note 8 (.ifCond .ne 5) 3 11 := ⟨by decide +kernel, rfl⟩
theorem dX6_note_11 : dc cX6_note 11 (.iconst (-1)) 1 12 := ⟨by decide +kernel, rfl⟩
theorem dX6_note_12 : dc cX6_note 12 (.ireturn) 1 13 := ⟨by decide +kernel, rfl⟩
theorem dX6_note_13 : dc cX6_note 13 (.iload_n 2) 1 14 := ⟨by decide +kernel, rfl⟩
theorem dX6_note_14 : dc cX6_note 14 (.iconst 0) 1 15 := ⟨by decide +kernel, rfl⟩
theorem dX6_note_15 : dc cX6_note 15 (.iconst 1) 1 16 := ⟨by decide +kernel, rfl⟩
theorem dX6_note_16 : dc cX6_note 16 (.invokestatic 52) 3 19 := ⟨by decide +kernel, rfl⟩
theorem dX6_note_19 : dc cX6_note 19 (.ifCond .ne 6) 3 22 := ⟨by decide +kernel, rfl⟩
theorem dX6_note_22 : dc cX6_note 22 (.bipush (-2)) 2 24 := ⟨by decide +kernel, rfl⟩
theorem dX6_note_24 : dc cX6_note 24 (.ireturn) 1 25 := ⟨by decide +kernel, rfl⟩
theorem dX6_note_25 : dc cX6_note 25 (.aload_n 0) 1 26 := ⟨by decide +kernel, rfl⟩
theorem dX6_note_26 : dc cX6_note 26 (.getfield 10) 3 29 := ⟨by decide +kernel, rfl⟩
theorem dX6_note_29 : dc cX6_note 29 (.iload_n 1) 1 30 := ⟨by decide +kernel, rfl⟩
theorem dX6_note_30 : dc cX6_note 30 (.invokevirtual 155) 3 33 := ⟨by decide +kernel, rfl⟩
theorem dX6_note_33 : dc cX6_note 33 (.istore_n 3) 1 34 := ⟨by decide +kernel, rfl⟩
theorem dX6_note_34 : dc cX6_note 34 (.iload_n 3) 1 35 := ⟨by decide +kernel, rfl⟩
theorem dX6_note_35 : dc cX6_note 35 (.bipush (-6)) 2 37 := ⟨by decide +kernel, rfl⟩
theorem dX6_note_37 : dc cX6_note 37 (.if_icmp .ne 6) 3 40 := ⟨by decide +kernel, rfl⟩
theorem dX6_note_40 : dc cX6_note 40 (.bipush (-6)) 2 42 := ⟨by decide +kernel, rfl⟩
theorem dX6_note_42 : dc cX6_note 42 (.ireturn) 1 43 := ⟨by decide +kernel, rfl⟩
theorem dX6_note_43 : dc cX6_note 43 (.iload_n 2) 1 44 := ⟨by decide +kernel, rfl⟩
theorem dX6_note_44 : dc cX6_note 44 (.ifCond .ne 10) 3 47 := ⟨by decide +kernel, rfl⟩
theorem dX6_note_47 : dc cX6_note 47 (.iload_n 3) 1 48 := ⟨by decide +kernel, rfl⟩
theorem dX6_note_48 : dc cX6_note 48 (.invokestatic 64) 3 51 := ⟨by decide +kernel, rfl⟩
theorem dX6_note_51 : dc cX6_note 51 (.goto 4) 3 54 := ⟨by decide +kernel, rfl⟩
theorem dX6_note_54 : dc cX6_note 54 (.iload_n 3) 1 55 := ⟨by decide +kernel, rfl⟩
theorem dX6_note_55 : dc cX6_note 55 (.ireturn) 1 56 := ⟨by decide +kernel, rfl⟩
theorem dX6_only_0 : dc cX6_only 0 (.iload_n 1) 1 1 := ⟨by decide +kernel, rfl⟩
theorem dX6_only_1 : dc cX6_only 1 (.invokestatic 70) 3 4 := ⟨by decide +kernel, rfl⟩
theorem dX6_only_4 : dc cX6_only 4 (.ifCond .eq 14) 3 7 := ⟨by decide +kernel, rfl⟩
theorem dX6_only_7 : dc cX6_only 7 (.aload_n 0) 1 8 := ⟨by decide +kernel, rfl⟩
theorem dX6_only_8 : dc cX6_only 8 (.getfield 10) 3 11 := ⟨by decide +kernel, rfl⟩
theorem dX6_only_11 : dc cX6_only 11 (.iload_n 2) 1 12 := ⟨by decide +kernel, rfl⟩
theorem dX6_only_12 : dc cX6_only 12 (.invokevirtual 117) 3 15 := ⟨by decide +kernel, rfl⟩
theorem dX6_only_15 : dc cX6_only 15 (.ifCond .ne 5) 3 18 := ⟨by decide +kernel, rfl⟩
theorem dX6_only_18 : dc cX6_only 18 (.iconst (-1)) 1 19 := ⟨by decide +kernel, rfl⟩
theorem dX6_only_19 : dc cX6_only 19 (.ireturn) 1 20 := ⟨by decide +kernel, rfl⟩
theorem dX6_only_20 : dc cX6_only 20 (.iconst 0) 1 21 := ⟨by decide +kernel, rfl⟩
theorem dX6_only_21 : dc cX6_only 21 (.istore_n 3) 1 22 := ⟨by decide +kernel, rfl⟩
theorem dX6_only_22 : dc cX6_only 22 (.iconst 0) 1 23 := ⟨by decide +kernel, rfl⟩
theorem dX6_only_23 : dc cX6_only 23 (.istore 4) 2 25 := ⟨by decide +kernel, rfl⟩
theorem dX6_only_25 : dc cX6_only 25 (.iload 4) 2 27 := ⟨by decide +kernel, rfl⟩
theorem dX6_only_27 : dc cX6_only 27 (.bipush 8) 2 29 := ⟨by decide +kernel, rfl⟩
theorem dX6_only_29 : dc cX6_only 29 (.if_icmp .ge 44) 3 32 := ⟨by decide +kernel, rfl⟩
theorem dX6_only_32 : dc cX6_only 32 (.iload 4) 2 34 := ⟨by decide +kernel, rfl⟩
theorem dX6_only_34 : dc cX6_only 34 (.iload_n 2) 1 35 := ⟨by decide +kernel, rfl⟩
theorem dX6_only_35 : dc cX6_only 35 (.if_icmp .eq 32) 3 38 := ⟨by decide +kernel, rfl⟩
theorem dX6_only_38 : dc cX6_only 38 (.aload_n 0) 1 39 := ⟨by decide +kernel, rfl⟩
theorem dX6_only_39 : dc cX6_only 39 (.getfield 10) 3 42 := ⟨by decide +kernel, rfl⟩
theorem dX6_only_42 : dc cX6_only 42 (.iload 4) 2 44 := ⟨by decide +kernel, rfl⟩
theorem dX6_only_44 : dc cX6_only 44 (.invokevirtual 117) 3 47 := ⟨by decide +kernel, rfl⟩
theorem dX6_only_47 : dc cX6_only 47 (.ifCond .eq 20) 3 50 := ⟨by decide +kernel, rfl⟩
theorem dX6_only_50 : dc cX6_only 50 (.iload_n 3) 1 51 := ⟨by decide +kernel, rfl⟩
theorem dX6_only_51 : dc cX6_only 51 (.aload_n 0) 1 52 := ⟨by decide +kernel, rfl⟩
theorem dX6_only_52 : dc cX6_only 52 (.getfield 10) 3 55 := ⟨by decide +kernel, rfl⟩
theorem dX6_only_55 : dc cX6_only 55 (.iload_n 1) 1 56 := ⟨by decide +kernel, rfl⟩
theorem dX6_only_56 : dc cX6_only 56 (.iload 4) 2 58 := ⟨by decide +kernel, rfl⟩
theorem dX6_only_58 : dc cX6_only 58 (.invokevirtual 158) 3 61 := ⟨by decide +kernel, rfl⟩
theorem dX6_only_61 : dc cX6_only 61 (.iconst 1) 1 62 := ⟨by decide +kernel, rfl⟩
theorem dX6_only_62 : dc cX6_only 62 (.iadd) 1 63 := ⟨by decide +kernel, rfl⟩
theorem dX6_only_63 : dc cX6_only 63 (.invokestatic 161) 3 66 := ⟨by decide +kernel, rfl⟩
theorem dX6_only_66 : dc cX6_only 66 (.istore_n 3) 1 67 := ⟨by decide +kernel, rfl⟩
theorem dX6_only_67 : dc cX6_only 67 (.iinc 4 1) 3 70 := ⟨by decide +kernel, rfl⟩
theorem dX6_only_70 : dc cX6_only 70 (.goto (-45)) 3 73 := ⟨by decide +kernel, rfl⟩
theorem dX6_only_73 : dc cX6_only 73 (.iload_n 3) 1 74 := ⟨by decide +kernel, rfl⟩
theorem dX6_only_74 : dc cX6_only 74 (.aload_n 0) 1 75 := ⟨by decide +kernel, rfl⟩
theorem dX6_only_75 : dc cX6_only 75 (.getfield 10) 3 78 := ⟨by decide +kernel, rfl⟩
theorem dX6_only_78 : dc cX6_only 78 (.iload_n 1) 1 79 := ⟨by decide +kernel, rfl⟩
theorem dX6_only_79 : dc cX6_only 79 (.iload_n 2) 1 80 := ⟨by decide +kernel, rfl⟩
theorem dX6_only_80 : dc cX6_only 80 (.invokevirtual 158) 3 83 := ⟨by decide +kernel, rfl⟩
theorem dX6_only_83 : dc cX6_only 83 (.if_icmp .gt 7) 3 86 := ⟨by decide +kernel, rfl⟩
theorem dX6_only_86 : dc cX6_only 86 (.iload_n 3) 1 87 := ⟨by decide +kernel, rfl⟩
theorem dX6_only_87 : dc cX6_only 87 (.goto 5) 3 90 := ⟨by decide +kernel, rfl⟩
theorem dX6_only_90 : dc cX6_only 90 (.bipush (-6)) 2 92 := ⟨by decide +kernel, rfl⟩
theorem dX6_only_92 : dc cX6_only 92 (.ireturn) 1 93 := ⟨by decide +kernel, rfl⟩
theorem dX6_share_0 : dc cX6_share 0 (.iload_n 1) 1 1 := ⟨by decide +kernel, rfl⟩
theorem dX6_share_1 : dc cX6_share 1 (.invokestatic 70) 3 4 := ⟨by decide +kernel, rfl⟩
theorem dX6_share_4 : dc cX6_share 4 (.ifCond .eq 14) 3 7 := ⟨by decide +kernel, rfl⟩
theorem dX6_share_7 : dc cX6_share 7 (.aload_n 0) 1 8 := ⟨by decide +kernel, rfl⟩
theorem dX6_share_8 : dc cX6_share 8 (.getfield 10) 3 11 := ⟨by decide +kernel, rfl⟩
theorem dX6_share_11 : dc cX6_share 11 (.iload_n 2) 1 12 := ⟨by decide +kernel, rfl⟩
theorem dX6_share_12 : dc cX6_share 12 (.invokevirtual 117) 3 15 := ⟨by decide +kernel, rfl⟩
theorem dX6_share_15 : dc cX6_share 15 (.ifCond .ne 5) 3 18 := ⟨by decide +kernel, rfl⟩
theorem dX6_share_18 : dc cX6_share 18 (.iconst (-1)) 1 19 := ⟨by decide +kernel, rfl⟩
theorem dX6_share_19 : dc cX6_share 19 (.ireturn) 1 20 := ⟨by decide +kernel, rfl⟩
theorem dX6_share_20 : dc cX6_share 20 (.aload_n 0) 1 21 := ⟨by decide +kernel, rfl⟩
theorem dX6_share_21 : dc cX6_share 21 (.getfield 10) 3 24 := ⟨by decide +kernel, rfl⟩
theorem dX6_share_24 : dc cX6_share 24 (.iload_n 1) 1 25 := ⟨by decide +kernel, rfl⟩
theorem dX6_share_25 : dc cX6_share 25 (.iload_n 2) 1 26 := ⟨by decide +kernel, rfl⟩
theorem dX6_share_26 : dc cX6_share 26 (.invokevirtual 166) 3 29 := ⟨by decide +kernel, rfl⟩
theorem dX6_share_29 : dc cX6_share 29 (.ireturn) 1 30 := ⟨by decide +kernel, rfl⟩
theorem dX6_match_0 : dc cX6_match 0 (.iload_n 1) 1 1 := ⟨by decide +kernel, rfl⟩
theorem dX6_match_1 : dc cX6_match 1 (.iconst (-1)) 1 2 := ⟨by decide +kernel, rfl⟩
theorem dX6_match_2 : dc cX6_match 2 (.if_icmp .eq 16) 3 5 := ⟨by decide +kernel, rfl⟩
theorem dX6_match_5 : dc cX6_match 5 (.aload_n 0) 1 6 := ⟨by decide +kernel, rfl⟩
theorem dX6_match_6 : dc cX6_match 6 (.getfield 10) 3 9 := ⟨by decide +kernel, rfl⟩
theorem dX6_match_9 : dc cX6_match 9 (.iload_n 1) 1 10 := ⟨by decide +kernel, rfl⟩
theorem dX6_match_10 : dc cX6_match 10 (.invokevirtual 117) 3 13 := ⟨by decide +kernel, rfl⟩
theorem dX6_match_13 : dc cX6_match 13 (.ifCond .ne 5) 3 16 := ⟨by decide +kernel, rfl⟩
theorem dX6_match_16 : dc cX6_match 16 (.iconst (-1)) 1 17 := ⟨by decide +kernel, rfl⟩
theorem dX6_match_17 : dc cX6_match 17 (.ireturn) 1 18 := ⟨by decide +kernel, rfl⟩
theorem dX6_match_18 : dc cX6_match 18 (.aload_n 0) 1 19 := ⟨by decide +kernel, rfl⟩
theorem dX6_match_19 : dc cX6_match 19 (.getfield 37) 3 22 := ⟨by decide +kernel, rfl⟩
theorem dX6_match_22 : dc cX6_match 22 (.aload_n 0) 1 23 := ⟨by decide +kernel, rfl⟩
theorem dX6_match_23 : dc cX6_match 23 (.getfield 10) 3 26 := ⟨by decide +kernel, rfl⟩
theorem dX6_match_26 : dc cX6_match 26 (.invokevirtual 169) 3 29 := ⟨by decide +kernel, rfl⟩
theorem dX6_match_29 : dc cX6_match 29 (.iload_n 1) 1 30 := ⟨by decide +kernel, rfl⟩
theorem dX6_match_30 : dc cX6_match 30 (.iconst (-1)) 1 31 := ⟨by decide +kernel, rfl⟩
theorem dX6_match_31 : dc cX6_match 31 (.if_icmp .ne 13) 3 34 := ⟨by decide +kernel, rfl⟩
theorem dX6_match_34 : dc cX6_match 34 (.aload_n 0) 1 35 := ⟨by decide +kernel, rfl⟩
theorem dX6_match_35 : dc cX6_match 35 (.getfield 37) 3 38 := ⟨by decide +kernel, rfl⟩
theorem dX6_match_38 : dc cX6_match 38 (.invokevirtual 172) 3 41 := ⟨by decide +kernel, rfl⟩
theorem dX6_match_41 : dc cX6_match 41 (.goto 15) 3 44 := ⟨by decide +kernel, rfl⟩
theorem dX6_match_44 : dc cX6_match 44 (.aload_n 0) 1 45 := ⟨by decide +kernel, rfl⟩
theorem dX6_match_45 : dc cX6_match 45 (.getfield 37) 3 48 := ⟨by decide +kernel, rfl⟩
theorem dX6_match_48 : dc cX6_match 48 (.aload_n 0) 1 49 := ⟨by decide +kernel, rfl⟩
theorem dX6_match_49 : dc cX6_match 49 (.getfield 10) 3 52 := ⟨by decide +kernel, rfl⟩
theorem dX6_match_52 : dc cX6_match 52 (.iload_n 1) 1 53 := ⟨by decide +kernel, rfl⟩
theorem dX6_match_53 : dc cX6_match 53 (.invokevirtual 175) 3 56 := ⟨by decide +kernel, rfl⟩
theorem dX6_match_56 : dc cX6_match 56 (.ireturn) 1 57 := ⟨by decide +kernel, rfl⟩
theorem dX6_seen_0 : dc cX6_seen 0 (.iload_n 1) 1 1 := ⟨by decide +kernel, rfl⟩
theorem dX6_seen_1 : dc cX6_seen 1 (.iconst 0) 1 2 := ⟨by decide +kernel, rfl⟩
theorem dX6_seen_2 : dc cX6_seen 2 (.sipush 255) 3 5 := ⟨by decide +kernel, rfl⟩
theorem dX6_seen_5 : dc cX6_seen 5 (.invokestatic 52) 3 8 := ⟨by decide +kernel, rfl⟩
theorem dX6_seen_8 : dc cX6_seen 8 (.ifCond .ne 6) 3 11 := ⟨by decide +kernel, rfl⟩
theorem dX6_seen_11 : dc cX6_seen 11 (.bipush (-2)) 2 13 := ⟨by decide +kernel, rfl⟩
theorem dX6_seen_13 : dc cX6_seen 13 (.ireturn) 1 14 := ⟨by decide +kernel, rfl⟩
theorem dX6_seen_14 : dc cX6_seen 14 (.aload_n 0) 1 15 := ⟨by decide +kernel, rfl⟩
theorem dX6_seen_15 : dc cX6_seen 15 (.getfield 10) 3 18 := ⟨by decide +kernel, rfl⟩
theorem dX6_seen_18 : dc cX6_seen 18 (.iload_n 1) 1 19 := ⟨by decide +kernel, rfl⟩
theorem dX6_seen_19 : dc cX6_seen 19 (.iload_n 2) 1 20 := ⟨by decide +kernel, rfl⟩
theorem dX6_seen_20 : dc cX6_seen 20 (.invokevirtual 179) 3 23 := ⟨by decide +kernel, rfl⟩
theorem dX6_seen_23 : dc cX6_seen 23 (.ifCond .eq 13) 3 26 := ⟨by decide +kernel, rfl⟩
theorem dX6_seen_26 : dc cX6_seen 26 (.aload_n 0) 1 27 := ⟨by decide +kernel, rfl⟩
theorem dX6_seen_27 : dc cX6_seen 27 (.getfield 10) 3 30 := ⟨by decide +kernel, rfl⟩
theorem dX6_seen_30 : dc cX6_seen 30 (.getfield 183) 3 33 := ⟨by decide +kernel, rfl⟩
theorem dX6_seen_33 : dc cX6_seen 33 (.goto 5) 3 36 := ⟨by decide +kernel, rfl⟩
theorem dX6_seen_36 : dc cX6_seen 36 (.bipush (-4)) 2 38 := ⟨by decide +kernel, rfl⟩
theorem dX6_seen_38 : dc cX6_seen 38 (.ireturn) 1 39 := ⟨by decide +kernel, rfl⟩
theorem dX6_forget_0 : dc cX6_forget 0 (.aload_n 0) 1 1 := ⟨by decide +kernel, rfl⟩
theorem dX6_forget_1 : dc cX6_forget 1 (.getfield 10) 3 4 := ⟨by decide +kernel, rfl⟩
theorem dX6_forget_4 : dc cX6_forget 4 (.getfield 183) 3 7 := ⟨by decide +kernel, rfl⟩
theorem dX6_forget_7 : dc cX6_forget 7 (.istore_n 1) 1 8 := ⟨by decide +kernel, rfl⟩
theorem dX6_forget_8 : dc cX6_forget 8 (.aload_n 0) 1 9 := ⟨by decide +kernel, rfl⟩
theorem dX6_forget_9 : dc cX6_forget 9 (.getfield 10) 3 12 := ⟨by decide +kernel, rfl⟩
theorem dX6_forget_12 : dc cX6_forget 12 (.iconst 0) 1 13 := ⟨by decide +kernel, rfl⟩
theorem dX6_forget_13 : dc cX6_forget 13 (.putfield 183) 3 16 := ⟨by decide +kernel, rfl⟩
theorem dX6_forget_16 : dc cX6_forget 16 (.aload_n 0) 1 17 := ⟨by decide +kernel, rfl⟩
theorem dX6_forget_17 : dc cX6_forget 17 (.getfield 10) 3 20 := ⟨by decide +kernel, rfl⟩
theorem dX6_forget_20 : dc cX6_forget 20 (.iconst 0) 1 21 := ⟨by decide +kernel, rfl⟩
theorem dX6_forget_21 : dc cX6_forget 21 (.putfield 186) 3 24 := ⟨by decide +kernel, rfl⟩
theorem dX6_forget_24 : dc cX6_forget 24 (.iload_n 1) 1 25 := ⟨by decide +kernel, rfl⟩
theorem dX6_forget_25 : dc cX6_forget 25 (.ireturn) 1 26 := ⟨by decide +kernel, rfl⟩
theorem dX6_laws_0 : dc cX6_laws 0 (.iload_n 1) 1 1 := ⟨by decide +kernel, rfl⟩
theorem dX6_laws_1 : dc cX6_laws 1 (.iconst (-1)) 1 2 := ⟨by decide +kernel, rfl⟩
theorem dX6_laws_2 : dc cX6_laws 2 (.if_icmp .ne 17) 3 5 := ⟨by decide +kernel, rfl⟩
theorem dX6_laws_5 : dc cX6_laws 5 (.aload_n 0) 1 6 := ⟨by decide +kernel, rfl⟩
theorem dX6_laws_6 : dc cX6_laws 6 (.getfield 44) 3 9 := ⟨by decide +kernel, rfl⟩
theorem dX6_laws_9 : dc cX6_laws 9 (.aload_n 0) 1 10 := ⟨by decide +kernel, rfl⟩
theorem dX6_laws_10 : dc cX6_laws 10 (.getfield 10) 3 13 := ⟨by decide +kernel, rfl⟩
theorem dX6_laws_13 : dc cX6_laws 13 (.invokevirtual 189) 3 16 := ⟨by decide +kernel, rfl⟩
theorem dX6_laws_16 : dc cX6_laws 16 (.goto 15) 3 19 := ⟨by decide +kernel, rfl⟩
theorem dX6_laws_19 : dc cX6_laws 19 (.aload_n 0) 1 20 := ⟨by decide +kernel, rfl⟩
theorem dX6_laws_20 : dc cX6_laws 20 (.getfield 44) 3 23 := ⟨by decide +kernel, rfl⟩
theorem dX6_laws_23 : dc cX6_laws 23 (.aload_n 0) 1 24 := ⟨by decide +kernel, rfl⟩
theorem dX6_laws_24 : dc cX6_laws 24 (.getfield 10) 3 27 := ⟨by decide +kernel, rfl⟩
theorem dX6_laws_27 : dc cX6_laws 27 (.iload_n 1) 1 28 := ⟨by decide +kernel, rfl⟩
theorem dX6_laws_28 : dc cX6_laws 28 (.invokevirtual 193) 3 31 := ⟨by decide +kernel, rfl⟩
theorem dX6_laws_31 : dc cX6_laws 31 (.ireturn) 1 32 := ⟨by decide +kernel, rfl⟩
theorem dX6_next_0 : dc cX6_next 0 (.iload_n 1) 1 1 := ⟨by decide +kernel, rfl⟩
theorem dX6_next_1 : dc cX6_next 1 (.iconst 0) 1 2 := ⟨by decide +kernel, rfl⟩
theorem dX6_next_2 : dc cX6_next 2 (.iconst 1) 1 3 := ⟨by decide +kernel, rfl⟩
theorem dX6_next_3 : dc cX6_next 3 (.invokestatic 52) 3 6 := ⟨by decide +kernel, rfl⟩
theorem dX6_next_6 : dc cX6_next 6 (.ifCond .ne 6) 3 9 := ⟨by decide +kernel, rfl⟩
theorem dX6_next_9 : dc cX6_next 9 (.bipush (-2)) 2 11 := ⟨by decide +kernel, rfl⟩
theorem dX6_next_11 : dc cX6_next 11 (.ireturn) 1 12 := ⟨by decide +kernel, rfl⟩
theorem dX6_next_12 : dc cX6_next 12 (.aload_n 0) 1 13 := ⟨by decide +kernel, rfl⟩
theorem dX6_next_13 : dc cX6_next 13 (.getfield 44) 3 16 := ⟨by decide +kernel, rfl⟩
theorem dX6_next_16 : dc cX6_next 16 (.aload_n 0) 1 17 := ⟨by decide +kernel, rfl⟩
theorem dX6_next_17 : dc cX6_next 17 (.getfield 10) 3 20 := ⟨by decide +kernel, rfl⟩
theorem dX6_next_20 : dc cX6_next 20 (.invokevirtual 196) 3 23 := ⟨by decide +kernel, rfl⟩
theorem dX6_next_23 : dc cX6_next 23 (.aload_n 0) 1 24 := ⟨by decide +kernel, rfl⟩
theorem dX6_next_24 : dc cX6_next 24 (.getfield 44) 3 27 := ⟨by decide +kernel, rfl⟩
theorem dX6_next_27 : dc cX6_next 27 (.aload_n 0) 1 28 := ⟨by decide +kernel, rfl⟩
theorem dX6_next_28 : dc cX6_next 28 (.getfield 10) 3 31 := ⟨by decide +kernel, rfl⟩
theorem dX6_next_31 : dc cX6_next 31 (.invokevirtual 197) 3 34 := ⟨by decide +kernel, rfl⟩
theorem dX6_next_34 : dc cX6_next 34 (.istore_n 2) 1 35 := ⟨by decide +kernel, rfl⟩
theorem dX6_next_35 : dc cX6_next 35 (.iload_n 2) 1 36 := ⟨by decide +kernel, rfl⟩
theorem dX6_next_36 : dc cX6_next 36 (.bipush (-6)) 2 38 := ⟨by decide +kernel, rfl⟩
theorem dX6_next_38 : dc cX6_next 38 (.if_icmp .eq 7) 3 41 := ⟨by decide +kernel, rfl⟩
theorem dX6_next_41 : dc cX6_next 41 (.iload_n 1) 1 42 := ⟨by decide +kernel, rfl⟩
theorem dX6_next_42 : dc cX6_next 42 (.ifCond .ne 5) 3 45 := ⟨by decide +kernel, rfl⟩
theorem dX6_next_45 : dc cX6_next 45 (.iload_n 2) 1 46 := ⟨by decide +kernel, rfl⟩
theorem dX6_next_46 : dc cX6_next 46 (.ireturn) 1 47 := ⟨by decide +kernel, rfl⟩
theorem dX6_next_47 : dc cX6_next 47 (.aload_n 0) 1 48 := ⟨by decide +kernel, rfl⟩
theorem dX6_next_48 : dc cX6_next 48 (.getfield 44) 3 51 := ⟨by decide +kernel, rfl⟩
theorem dX6_next_51 : dc cX6_next 51 (.iload_n 2) 1 52 := ⟨by decide +kernel, rfl⟩
theorem dX6_next_52 : dc cX6_next 52 (.invokevirtual 200) 3 55 := ⟨by decide +kernel, rfl⟩
theorem dX6_next_55 : dc cX6_next 55 (.ireturn) 1 56 := ⟨by decide +kernel, rfl⟩
theorem dX6_chance_0 : dc cX6_chance 0 (.aload_n 0) 1 1 := ⟨by decide +kernel, rfl⟩
theorem dX6_chance_1 : dc cX6_chance 1 (.getfield 10) 3 4 := ⟨by decide +kernel, rfl⟩
theorem dX6_chance_4 : dc cX6_chance 4 (.iload_n 1) 1 5 := ⟨by decide +kernel, rfl⟩
theorem dX6_chance_5 : dc cX6_chance 5 (.invokevirtual 117) 3 8 := ⟨by decide +kernel, rfl⟩
theorem dX6_chance_8 : dc cX6_chance 8 (.ifCond .eq 10) 3 11 := ⟨by decide +kernel, rfl⟩
theorem dX6_chance_11 : dc cX6_chance 11 (.iload_n 2) 1 12 := ⟨by decide +kernel, rfl⟩
theorem dX6_chance_12 : dc cX6_chance 12 (.invokestatic 70) 3 15 := ⟨by decide +kernel, rfl⟩
theorem dX6_chance_15 : dc cX6_chance 15 (.ifCond .ne 7) 3 18 := ⟨by decide +kernel, rfl⟩
theorem dX6_chance_18 : dc cX6_chance 18 (.ldc2_w 203) 3 21 := ⟨by decide +kernel, rfl⟩
theorem dX6_chance_21 : dc cX6_chance 21 (.lreturn) 1 22 := ⟨by decide +kernel, rfl⟩
theorem dX6_chance_22 : dc cX6_chance 22 (.iload_n 3) 1 23 := ⟨by decide +kernel, rfl⟩
theorem dX6_chance_23 : dc cX6_chance 23 (.iconst 0) 1 24 := ⟨by decide +kernel, rfl⟩
theorem dX6_chance_24 : dc cX6_chance 24 (.iconst 2) 1 25 := ⟨by decide +kernel, rfl⟩
theorem dX6_chance_25 : dc cX6_chance 25 (.invokestatic 52) 3 28 := ⟨by decide +kernel, rfl⟩
theorem dX6_chance_28 : dc cX6_chance 28 (.ifCond .eq 24) 3 31 := ⟨by decide +kernel, rfl⟩
theorem dX6_chance_31 : dc cX6_chance 31 (.iload 4) 2 33 := ⟨by decide +kernel, rfl⟩
theorem dX6_chance_33 : dc cX6_chance 33 (.iconst 0) 1 34 := ⟨by decide +kernel, rfl⟩
theorem dX6_chance_34 : dc cX6_chance 34 (.bipush 10) 2 36 := ⟨by decide +kernel, rfl⟩
theorem dX6_chance_36 : dc cX6_chance 36 (.invokestatic 52) 3 39 := ⟨by decide +kernel, rfl⟩
theorem dX6_chance_39 : dc cX6_chance 39 (.ifCond .eq 13) 3 42 := ⟨by decide +kernel, rfl⟩
theorem dX6_chance_42 : dc cX6_chance 42 (.iload 5) 2 44 := ⟨by decide +kernel, rfl⟩
theorem dX6_chance_44 : dc cX6_chance 44 (.iconst 0) 1 45 := ⟨by decide +kernel, rfl⟩
theorem dX6_chance_45 : dc cX6_chance 45 (.iconst 1) 1 46 := ⟨by decide +kernel, rfl⟩
theorem dX6_chance_46 : dc cX6_chance 46 (.invokestatic 52) 3 49 := ⟨by decide +kernel, rfl⟩
theorem dX6_chance_49 : dc cX6_chance 49 (.ifCond .ne 7) 3 52 := ⟨by decide +kernel, rfl⟩
theorem dX6_chance_52 : dc cX6_chance 52 (.ldc2_w 205) 3 55 := ⟨by decide +kernel, rfl⟩
theorem dX6_chance_55 : dc cX6_chance 55 (.lreturn) 1 56 := ⟨by decide +kernel, rfl⟩
theorem dX6_chance_56 : dc cX6_chance 56 (.aload_n 0) 1 57 := ⟨by decide +kernel, rfl⟩
theorem dX6_chance_57 : dc cX6_chance 57 (.getfield 10) 3 60 := ⟨by decide +kernel, rfl⟩
theorem dX6_chance_60 : dc cX6_chance 60 (.iload_n 2) 1 61 := ⟨by decide +kernel, rfl⟩
theorem dX6_chance_61 : dc cX6_chance 61 (.iload_n 1) 1 62 := ⟨by decide +kernel, rfl⟩
theorem dX6_chance_62 : dc cX6_chance 62 (.invokevirtual 158) 3 65 := ⟨by decide +kernel, rfl⟩
theorem dX6_chance_65 : dc cX6_chance 65 (.istore 6) 2 67 := ⟨by decide +kernel, rfl⟩
theorem dX6_chance_67 : dc cX6_chance 67 (.iload 4) 2 69 := ⟨by decide +kernel, rfl⟩
theorem dX6_chance_69 : dc cX6_chance 69 (.i2l) 1 70 := ⟨by decide +kernel, rfl⟩
theorem dX6_chance_70 : dc cX6_chance 70 (.iload_n 3) 1 71 := ⟨by decide +kernel, rfl⟩
theorem dX6_chance_71 : dc cX6_chance 71 (.invokestatic 207) 3 74 := ⟨by decide +kernel, rfl⟩
theorem dX6_chance_74 : dc cX6_chance 74 (.lstore 7) 2 76 := ⟨by decide +kernel, rfl⟩
theorem dX6_chance_76 : dc cX6_chance 76 (.ldc2_w 211) 3 79 := ⟨by decide +kernel, rfl⟩
theorem dX6_chance_79 : dc cX6_chance 79 (.iload_n 3) 1 80 := ⟨by decide +kernel, rfl⟩
theorem dX6_chance_80 : dc cX6_chance 80 (.invokestatic 207) 3 83 := ⟨by decide +kernel, rfl⟩
theorem dX6_chance_83 : dc cX6_chance 83 (.lstore 9) 2 85 := ⟨by decide +kernel, rfl⟩
theorem dX6_chance_85 : dc cX6_chance 85 (.iload 6) 2 87 := ⟨by decide +kernel, rfl⟩
theorem dX6_chance_87 : dc cX6_chance 87 (.aload_n 0) 1 88 := ⟨by decide +kernel, rfl⟩
theorem dX6_chance_88 : dc cX6_chance 88 (.getfield 10) 3 91 := ⟨by decide +kernel, rfl⟩
theorem dX6_chance_91 : dc cX6_chance 91 (.getfield 80) 3 94 := ⟨by decide +kernel, rfl⟩
theorem dX6_chance_94 : dc cX6_chance 94 (.iload_n 2) 1 95 := ⟨by decide +kernel, rfl⟩
theorem dX6_chance_95 : dc cX6_chance 95 (.iaload) 1 96 := ⟨by decide +kernel, rfl⟩
theorem dX6_chance_96 : dc cX6_chance 96 (.lload 7) 2 98 := ⟨by decide +kernel, rfl⟩
theorem dX6_chance_98 : dc cX6_chance 98 (.lload 9) 2 100 := ⟨by decide +kernel, rfl⟩
theorem dX6_chance_100 : dc cX6_chance 100 (.lload 7) 2 102 := ⟨by decide +kernel, rfl⟩
theorem dX6_chance_102 : dc cX6_chance 102 (.lsub) 1 103 := ⟨by decide +kernel, rfl⟩
theorem dX6_chance_103 : dc cX6_chance 103 (.invokestatic 213) 3 106 := ⟨by decide +kernel, rfl⟩
theorem dX6_chance_106 : dc cX6_chance 106 (.lstore 11) 2 108 := ⟨by decide +kernel, rfl⟩
theorem dX6_chance_108 : dc cX6_chance 108 (.lload 9) 2 110 := ⟨by decide +kernel, rfl⟩
theorem dX6_chance_110 : dc cX6_chance 110 (.iload 6) 2 112 := ⟨by decide +kernel, rfl⟩
theorem dX6_chance_112 : dc cX6_chance 112 (.invokestatic 207) 3 115 := ⟨by decide +kernel, rfl⟩
theorem dX6_chance_115 : dc cX6_chance 115 (.lstore 13) 2 117 := ⟨by decide +kernel, rfl⟩
theorem dX6_chance_117 : dc cX6_chance 117 (.lload 13) 2 119 := ⟨by decide +kernel, rfl⟩
theorem dX6_chance_119 : dc cX6_chance 119 (.lload 11) 2 121 := ⟨by decide +kernel, rfl⟩
theorem dX6_chance_121 : dc cX6_chance 121 (.invokestatic 217) 3 124 := ⟨by decide +kernel, rfl⟩
theorem dX6_chance_124 : dc cX6_chance 124 (.lstore 15) 2 126 := ⟨by decide +kernel, rfl⟩
theorem dX6_chance_126 : dc cX6_chance 126 (.lload 15) 2 128 := ⟨by decide +kernel, rfl⟩
theorem dX6_chance_128 : dc cX6_chance 128 (.lconst 1) 1 129 := ⟨by decide +kernel, rfl⟩
theorem dX6_chance_129 : dc cX6_chance 129 (.lcmp) 1 130 := ⟨by decide +kernel, rfl⟩
theorem dX6_chance_130 : dc cX6_chance 130 (.ifCond .ge 7) 3 133 := ⟨by decide +kernel, rfl⟩
theorem dX6_chance_133 : dc cX6_chance 133 (.ldc2_w 205) 3 136 := ⟨by decide +kernel, rfl⟩
theorem dX6_chance_136 : dc cX6_chance 136 (.lreturn) 1 137 := ⟨by decide +kernel, rfl⟩
theorem dX6_chance_137 : dc cX6_chance 137 (.iload 5) 2 139 := ⟨by decide +kernel, rfl⟩
theorem dX6_chance_139 : dc cX6_chance 139 (.ifCond .ne 8) 3 142 := ⟨by decide +kernel, rfl⟩
theorem dX6_chance_142 : dc cX6_chance 142 (.lload 11) 2 144 := ⟨by decide +kernel, rfl⟩
theorem dX6_chance_144 : dc cX6_chance 144 (.goto 5) 3 147 := ⟨by decide +kernel, rfl⟩
theorem dX6_chance_147 : dc cX6_chance 147 (.lload 13) 2 149 := ⟨by decide +kernel, rfl⟩
theorem dX6_chance_149 : dc cX6_chance 149 (.lload 15) 2 151 := ⟨by decide +kernel, rfl⟩
theorem dX6_chance_151 : dc cX6_chance 151 (.ldiv) 1 152 := ⟨by decide +kernel, rfl⟩
theorem dX6_chance_152 : dc cX6_chance 152 (.lreturn) 1 153 := ⟨by decide +kernel, rfl⟩
theorem dX6_book_0 : dc cX6_book 0 (.iload_n 1) 1 1 := ⟨by decide +kernel, rfl⟩
theorem dX6_book_1 : dc cX6_book 1 (.iconst 0) 1 2 := ⟨by decide +kernel, rfl⟩
theorem dX6_book_2 : dc cX6_book 2 (.sipush 9999) 3 5 := ⟨by decide +kernel, rfl⟩
theorem dX6_book_5 : dc cX6_book 5 (.invokestatic 52) 3 8 := ⟨by decide +kernel, rfl⟩
theorem dX6_book_8 : dc cX6_book 8 (.ifCond .eq 22) 3 11 := ⟨by decide +kernel, rfl⟩
theorem dX6_book_11 : dc cX6_book 11 (.iload_n 2) 1 12 := ⟨by decide +kernel, rfl⟩
theorem dX6_book_12 : dc cX6_book 12 (.iconst 1) 1 13 := ⟨by decide +kernel, rfl⟩
theorem dX6_book_13 : dc cX6_book 13 (.bipush 99) 2 15 := ⟨by decide +kernel, rfl⟩
theorem dX6_book_15 : dc cX6_book 15 (.invokestatic 52) 3 18 := ⟨by decide +kernel, rfl⟩
theorem dX6_book_18 : dc cX6_book 18 (.ifCond .eq 12) 3 21 := ⟨by decide +kernel, rfl⟩
theorem dX6_book_21 : dc cX6_book 21 (.iload_n 3) 1 22 := ⟨by decide +kernel, rfl⟩
theorem dX6_book_22 : dc cX6_book 22 (.iconst 0) 1 23 := ⟨by decide +kernel, rfl⟩
theorem dX6_book_23 : dc cX6_book 23 (.iconst 2) 1 24 := ⟨by decide +kernel, rfl⟩
theorem dX6_book_24 : dc cX6_book 24 (.invokestatic 52) 3 27 := ⟨by decide +kernel, rfl⟩
theorem dX6_book_27 : dc cX6_book 27 (.ifCond .ne 6) 3 30 := ⟨by decide +kernel, rfl⟩
theorem dX6_book_30 : dc cX6_book 30 (.bipush (-2)) 2 32 := ⟨by decide +kernel, rfl⟩
theorem dX6_book_32 : dc cX6_book 32 (.ireturn) 1 33 := ⟨by decide +kernel, rfl⟩
theorem dX6_book_33 : dc cX6_book 33 (.aload_n 0) 1 34 := ⟨by decide +kernel, rfl⟩
theorem dX6_book_34 : dc cX6_book 34 (.getfield 30) 3 37 := ⟨by decide +kernel, rfl⟩
theorem dX6_book_37 : dc cX6_book 37 (.aload_n 0) 1 38 := ⟨by decide +kernel, rfl⟩
theorem dX6_book_38 : dc cX6_book 38 (.getfield 10) 3 41 := ⟨by decide +kernel, rfl⟩
theorem dX6_book_41 : dc cX6_book 41 (.iload_n 1) 1 42 := ⟨by decide +kernel, rfl⟩
theorem dX6_book_42 : dc cX6_book 42 (.iload_n 2) 1 43 := ⟨by decide +kernel, rfl⟩
theorem dX6_book_43 : dc cX6_book 43 (.invokevirtual 221) 3 46 := ⟨by decide +kernel, rfl⟩
theorem dX6_book_46 : dc cX6_book 46 (.iload_n 3) 1 47 := ⟨by decide +kernel, rfl⟩
theorem dX6_book_47 : dc cX6_book 47 (.lookupswitch 50 #[(0, 25), (1, 39)]) 25 72 := ⟨by decide +kernel, rfl⟩
theorem dX6_book_72 : dc cX6_book 72 (.aload_n 0) 1 73 := ⟨by decide +kernel, rfl⟩
theorem dX6_book_73 : dc cX6_book 73 (.getfield 30) 3 76 := ⟨by decide +kernel, rfl⟩
theorem dX6_book_76 : dc cX6_book 76 (.getfield 107) 3 79 := ⟨by decide +kernel, rfl⟩
theorem dX6_book_79 : dc cX6_book 79 (.getfield 60) 3 82 := ⟨by decide +kernel, rfl⟩
theorem dX6_book_82 : dc cX6_book 82 (.invokestatic 64) 3 85 := ⟨by decide +kernel, rfl⟩
theorem dX6_book_85 : dc cX6_book 85 (.ireturn) 1 86 := ⟨by decide +kernel, rfl⟩
theorem dX6_book_86 : dc cX6_book 86 (.aload_n 0) 1 87 := ⟨by decide +kernel, rfl⟩
theorem dX6_book_87 : dc cX6_book 87 (.getfield 30) 3 90 := ⟨by decide +kernel, rfl⟩
theorem dX6_book_90 : dc cX6_book 90 (.getfield 107) 3 93 := ⟨by decide +kernel, rfl⟩
theorem dX6_book_93 : dc cX6_book 93 (.invokevirtual 225) 3 96 := ⟨by decide +kernel, rfl⟩
theorem dX6_book_96 : dc cX6_book 96 (.ireturn) 1 97 := ⟨by decide +kernel, rfl⟩
theorem dX6_book_97 : dc cX6_book 97 (.aload_n 0) 1 98 := ⟨by decide +kernel, rfl⟩
theorem dX6_book_98 : dc cX6_book 98 (.getfield 30) 3 101 := ⟨by decide +kernel, rfl⟩
theorem dX6_book_101 : dc cX6_book 101 (.getfield 107) 3 104 := ⟨by decide +kernel, rfl⟩
theorem dX6_book_104 : dc cX6_book 104 (.invokevirtual 228) 3 107 := ⟨by decide +kernel, rfl⟩
theorem dX6_book_107 : dc cX6_book 107 (.ireturn) 1 108 := ⟨by decide +kernel, rfl⟩
theorem dX6_image_0 : dc cX6_image 0 (.iload_n 1) 1 1 := ⟨by decide +kernel, rfl⟩
theorem dX6_image_1 : dc cX6_image 1 (.iconst 0) 1 2 := ⟨by decide +kernel, rfl⟩
theorem dX6_image_2 : dc cX6_image 2 (.iconst 1) 1 3 := ⟨by decide +kernel, rfl⟩
theorem dX6_image_3 : dc cX6_image 3 (.invokestatic 52) 3 6 := ⟨by decide +kernel, rfl⟩
theorem dX6_image_6 : dc cX6_image 6 (.ifCond .ne 6) 3 9 := ⟨by decide +kernel, rfl⟩
theorem dX6_image_9 : dc cX6_image 9 (.bipush (-2)) 2 11 := ⟨by decide +kernel, rfl⟩
theorem dX6_image_11 : dc cX6_image 11 (.ireturn) 1 12 := ⟨by decide +kernel, rfl⟩
theorem dX6_image_12 : dc cX6_image 12 (.aload_n 0) 1 13 := ⟨by decide +kernel, rfl⟩
theorem dX6_image_13 : dc cX6_image 13 (.getfield 16) 3 16 := ⟨by decide +kernel, rfl⟩
theorem dX6_image_16 : dc cX6_image 16 (.iload_n 1) 1 17 := ⟨by decide +kernel, rfl⟩
theorem dX6_image_17 : dc cX6_image 17 (.aaload) 1 18 := ⟨by decide +kernel, rfl⟩
theorem dX6_image_18 : dc cX6_image 18 (.astore_n 2) 1 19 := ⟨by decide +kernel, rfl⟩
theorem dX6_image_19 : dc cX6_image 19 (.aload_n 2) 1 20 := ⟨by decide +kernel, rfl⟩
theorem dX6_image_20 : dc cX6_image 20 (.ifnonnull 18) 3 23 := ⟨by decide +kernel, rfl⟩
theorem dX6_image_23 : dc cX6_image 23 (.new 7) 3 26 := ⟨by decide +kernel, rfl⟩
theorem dX6_image_26 : dc cX6_image 26 (.dup) 1 27 := ⟨by decide +kernel, rfl⟩
theorem dX6_image_27 : dc cX6_image 27 (.invokespecial 9) 3 30 := ⟨by decide +kernel, rfl⟩
theorem dX6_image_30 : dc cX6_image 30 (.astore_n 2) 1 31 := ⟨by decide +kernel, rfl⟩
theorem dX6_image_31 : dc cX6_image 31 (.aload_n 0) 1 32 := ⟨by decide +kernel, rfl⟩
theorem dX6_image_32 : dc cX6_image 32 (.getfield 16) 3 35 := ⟨by decide +kernel, rfl⟩
theorem dX6_image_35 : dc cX6_image 35 (.iload_n 1) 1 36 := ⟨by decide +kernel, rfl⟩
theorem dX6_image_36 : dc cX6_image 36 (.aload_n 2) 1 37 := ⟨by decide +kernel, rfl⟩
theorem dX6_image_37 : dc cX6_image 37 (.aastore) 1 38 := ⟨by decide +kernel, rfl⟩
theorem dX6_image_38 : dc cX6_image 38 (.aload_n 2) 1 39 := ⟨by decide +kernel, rfl⟩
theorem dX6_image_39 : dc cX6_image 39 (.aload_n 0) 1 40 := ⟨by decide +kernel, rfl⟩
theorem dX6_image_40 : dc cX6_image 40 (.getfield 10) 3 43 := ⟨by decide +kernel, rfl⟩
theorem dX6_image_43 : dc cX6_image 43 (.invokevirtual 110) 3 46 := ⟨by decide +kernel, rfl⟩
theorem dX6_image_46 : dc cX6_image 46 (.iconst 1) 1 47 := ⟨by decide +kernel, rfl⟩
theorem dX6_image_47 : dc cX6_image 47 (.ireturn) 1 48 := ⟨by decide +kernel, rfl⟩
theorem dX6_restore_0 : dc cX6_restore 0 (.iload_n 1) 1 1 := ⟨by decide +kernel, rfl⟩
theorem dX6_restore_1 : dc cX6_restore 1 (.iconst 0) 1 2 := ⟨by decide +kernel, rfl⟩
theorem dX6_restore_2 : dc cX6_restore 2 (.iconst 1) 1 3 := ⟨by decide +kernel, rfl⟩
theorem dX6_restore_3 : dc cX6_restore 3 (.invokestatic 52) 3 6 := ⟨by decide +kernel, rfl⟩
theorem dX6_restore_6 : dc cX6_restore 6 (.ifCond .ne 6) 3 9 := ⟨by decide +kernel, rfl⟩
theorem dX6_restore_9 : dc cX6_restore 9 (.bipush (-2)) 2 11 := ⟨by decide +kernel, rfl⟩
theorem dX6_restore_11 : dc cX6_restore 11 (.ireturn) 1 12 := ⟨by decide +kernel, rfl⟩
theorem dX6_restore_12 : dc cX6_restore 12 (.aload_n 0) 1 13 := ⟨by decide +kernel, rfl⟩
theorem dX6_restore_13 : dc cX6_restore 13 (.getfield 16) 3 16 := ⟨by decide +kernel, rfl⟩
theorem dX6_restore_16 : dc cX6_restore 16 (.iload_n 1) 1 17 := ⟨by decide +kernel, rfl⟩
theorem dX6_restore_17 : dc cX6_restore 17 (.aaload) 1 18 := ⟨by decide +kernel, rfl⟩
theorem dX6_restore_18 : dc cX6_restore 18 (.astore_n 2) 1 19 := ⟨by decide +kernel, rfl⟩
theorem dX6_restore_19 : dc cX6_restore 19 (.aload_n 2) 1 20 := ⟨by decide +kernel, rfl⟩
theorem dX6_restore_20 : dc cX6_restore 20 (.ifnonnull 6) 3 23 := ⟨by decide +kernel, rfl⟩
theorem dX6_restore_23 : dc cX6_restore 23 (.bipush (-3)) 2 25 := ⟨by decide +kernel, rfl⟩
theorem dX6_restore_25 : dc cX6_restore 25 (.ireturn) 1 26 := ⟨by decide +kernel, rfl⟩
theorem dX6_restore_26 : dc cX6_restore 26 (.aload_n 0) 1 27 := ⟨by decide +kernel, rfl⟩
theorem dX6_restore_27 : dc cX6_restore 27 (.getfield 10) 3 30 := ⟨by decide +kernel, rfl⟩
theorem dX6_restore_30 : dc cX6_restore 30 (.aload_n 2) 1 31 := ⟨by decide +kernel, rfl⟩
theorem dX6_restore_31 : dc cX6_restore 31 (.invokevirtual 110) 3 34 := ⟨by decide +kernel, rfl⟩
theorem dX6_restore_34 : dc cX6_restore 34 (.iconst 1) 1 35 := ⟨by decide +kernel, rfl⟩
theorem dX6_restore_35 : dc cX6_restore 35 (.ireturn) 1 36 := ⟨by decide +kernel, rfl⟩
theorem dX6_told_0 : dc cX6_told 0 (.iload_n 1) 1 1 := ⟨by decide +kernel, rfl⟩
theorem dX6_told_1 : dc cX6_told 1 (.bipush 100) 2 3 := ⟨by decide +kernel, rfl⟩
theorem dX6_told_3 : dc cX6_told 3 (.if_icmp .lt 18) 3 6 := ⟨by decide +kernel, rfl⟩
theorem dX6_told_6 : dc cX6_told 6 (.aload_n 0) 1 7 := ⟨by decide +kernel, rfl⟩
theorem dX6_told_7 : dc cX6_told 7 (.iload_n 1) 1 8 := ⟨by decide +kernel, rfl⟩
theorem dX6_told_8 : dc cX6_told 8 (.bipush 100) 2 10 := ⟨by decide +kernel, rfl⟩
theorem dX6_told_10 : dc cX6_told 10 (.idiv) 1 11 := ⟨by decide +kernel, rfl⟩
theorem dX6_told_11 : dc cX6_told 11 (.iconst 1) 1 12 := ⟨by decide +kernel, rfl⟩
theorem dX6_told_12 : dc cX6_told 12 (.isub) 1 13 := ⟨by decide +kernel, rfl⟩
theorem dX6_told_13 : dc cX6_told 13 (.iload_n 1) 1 14 := ⟨by decide +kernel, rfl⟩
theorem dX6_told_14 : dc cX6_told 14 (.bipush 100) 2 16 := ⟨by decide +kernel, rfl⟩
theorem dX6_told_16 : dc cX6_told 16 (.irem) 1 17 := ⟨by decide +kernel, rfl⟩
theorem dX6_told_17 : dc cX6_told 17 (.invokevirtual 231) 3 20 := ⟨by decide +kernel, rfl⟩
theorem dX6_told_20 : dc cX6_told 20 (.ireturn) 1 21 := ⟨by decide +kernel, rfl⟩
theorem dX6_told_21 : dc cX6_told 21 (.iload_n 1) 1 22 := ⟨by decide +kernel, rfl⟩
theorem dX6_told_22 : dc cX6_told 22 (.bipush 10) 2 24 := ⟨by decide +kernel, rfl⟩
theorem dX6_told_24 : dc cX6_told 24 (.if_icmp .lt 18) 3 27 := ⟨by decide +kernel, rfl⟩
theorem dX6_told_27 : dc cX6_told 27 (.aload_n 0) 1 28 := ⟨by decide +kernel, rfl⟩
theorem dX6_told_28 : dc cX6_told 28 (.iload_n 1) 1 29 := ⟨by decide +kernel, rfl⟩
theorem dX6_told_29 : dc cX6_told 29 (.bipush 10) 2 31 := ⟨by decide +kernel, rfl⟩
theorem dX6_told_31 : dc cX6_told 31 (.idiv) 1 32 := ⟨by decide +kernel, rfl⟩
theorem dX6_told_32 : dc cX6_told 32 (.iconst 1) 1 33 := ⟨by decide +kernel, rfl⟩
theorem dX6_told_33 : dc cX6_told 33 (.isub) 1 34 := ⟨by decide +kernel, rfl⟩
theorem dX6_told_34 : dc cX6_told 34 (.iload_n 1) 1 35 := ⟨by decide +kernel, rfl⟩
theorem dX6_told_35 : dc cX6_told 35 (.bipush 10) 2 37 := ⟨by decide +kernel, rfl⟩
theorem dX6_told_37 : dc cX6_told 37 (.irem) 1 38 := ⟨by decide +kernel, rfl⟩
theorem dX6_told_38 : dc cX6_told 38 (.invokevirtual 234) 3 41 := ⟨by decide +kernel, rfl⟩
theorem dX6_told_41 : dc cX6_told 41 (.ireturn) 1 42 := ⟨by decide +kernel, rfl⟩
theorem dX6_told_42 : dc cX6_told 42 (.iload_n 1) 1 43 := ⟨by decide +kernel, rfl⟩
theorem dX6_told_43 : dc cX6_told 43 (.tableswitch 61 0 3 #[29, 37, 45, 53]) 29 72 := ⟨by decide +kernel, rfl⟩
theorem dX6_told_72 : dc cX6_told 72 (.aload_n 0) 1 73 := ⟨by decide +kernel, rfl⟩
theorem dX6_told_73 : dc cX6_told 73 (.getfield 23) 3 76 := ⟨by decide +kernel, rfl⟩
theorem dX6_told_76 : dc cX6_told 76 (.getfield 86) 3 79 := ⟨by decide +kernel, rfl⟩
theorem dX6_told_79 : dc cX6_told 79 (.ireturn) 1 80 := ⟨by decide +kernel, rfl⟩
theorem dX6_told_80 : dc cX6_told 80 (.aload_n 0) 1 81 := ⟨by decide +kernel, rfl⟩
theorem dX6_told_81 : dc cX6_told 81 (.getfield 10) 3 84 := ⟨by decide +kernel, rfl⟩
theorem dX6_told_84 : dc cX6_told 84 (.getfield 60) 3 87 := ⟨by decide +kernel, rfl⟩
theorem dX6_told_87 : dc cX6_told 87 (.ireturn) 1 88 := ⟨by decide +kernel, rfl⟩
theorem dX6_told_88 : dc cX6_told 88 (.aload_n 0) 1 89 := ⟨by decide +kernel, rfl⟩
theorem dX6_told_89 : dc cX6_told 89 (.getfield 10) 3 92 := ⟨by decide +kernel, rfl⟩
theorem dX6_told_92 : dc cX6_told 92 (.getfield 129) 3 95 := ⟨by decide +kernel, rfl⟩
theorem dX6_told_95 : dc cX6_told 95 (.ireturn) 1 96 := ⟨by decide +kernel, rfl⟩
theorem dX6_told_96 : dc cX6_told 96 (.aload_n 0) 1 97 := ⟨by decide +kernel, rfl⟩
theorem dX6_told_97 : dc cX6_told 97 (.getfield 10) 3 100 := ⟨by decide +kernel, rfl⟩
theorem dX6_told_100 : dc cX6_told 100 (.getfield 183) 3 103 := ⟨by decide +kernel, rfl⟩
theorem dX6_told_103 : dc cX6_told 103 (.ireturn) 1 104 := ⟨by decide +kernel, rfl⟩
theorem dX6_told_104 : dc cX6_told 104 (.bipush (-2)) 2 106 := ⟨by decide +kernel, rfl⟩
theorem dX6_told_106 : dc cX6_told 106 (.ireturn) 1 107 := ⟨by decide +kernel, rfl⟩
theorem dX6_toldOfBox_0 : dc cX6_toldOfBox 0 (.iload_n 1) 1 1 := ⟨by decide +kernel, rfl⟩
theorem dX6_toldOfBox_1 : dc cX6_toldOfBox 1 (.invokestatic 70) 3 4 := ⟨by decide +kernel, rfl⟩
theorem dX6_toldOfBox_4 : dc cX6_toldOfBox 4 (.ifCond .ne 6) 3 7 := ⟨by decide +kernel, rfl⟩
theorem dX6_toldOfBox_7 : dc cX6_toldOfBox 7 (.bipush (-2)) 2 9 := ⟨by decide +kernel, rfl⟩
theorem dX6_toldOfBox_9 : dc cX6_toldOfBox 9 (.ireturn) 1 10 := ⟨by decide +kernel, rfl⟩
theorem dX6_toldOfBox_10 : dc cX6_toldOfBox 10 (.iload_n 2) 1 11 := ⟨by decide +kernel, rfl⟩
theorem dX6_toldOfBox_11 : dc cX6_toldOfBox 11 (.tableswitch 55 0 2 #[25, 35, 45]) 25 36 := ⟨by decide +kernel, rfl⟩
theorem dX6_toldOfBox_36 : dc cX6_toldOfBox 36 (.aload_n 0) 1 37 := ⟨by decide +kernel, rfl⟩
theorem dX6_toldOfBox_37 : dc cX6_toldOfBox 37 (.getfield 10) 3 40 := ⟨by decide +kernel, rfl⟩
theorem dX6_toldOfBox_40 : dc cX6_toldOfBox 40 (.getfield 77) 3 43 := ⟨by decide +kernel, rfl⟩
theorem dX6_toldOfBox_43 : dc cX6_toldOfBox 43 (.iload_n 1) 1 44 := ⟨by decide +kernel, rfl⟩
theorem dX6_toldOfBox_44 : dc cX6_toldOfBox 44 (.iaload) 1 45 := ⟨by decide +kernel, rfl⟩
theorem dX6_toldOfBox_45 : dc cX6_toldOfBox 45 (.ireturn) 1 46 := ⟨by decide +kernel, rfl⟩
theorem dX6_toldOfBox_46 : dc cX6_toldOfBox 46 (.aload_n 0) 1 47 := ⟨by decide +kernel, rfl⟩
theorem dX6_toldOfBox_47 : dc cX6_toldOfBox 47 (.getfield 10) 3 50 := ⟨by decide +kernel, rfl⟩
theorem dX6_toldOfBox_50 : dc cX6_toldOfBox 50 (.getfield 80) 3 53 := ⟨by decide +kernel, rfl⟩
theorem dX6_toldOfBox_53 : dc cX6_toldOfBox 53 (.iload_n 1) 1 54 := ⟨by decide +kernel, rfl⟩
theorem dX6_toldOfBox_54 : dc cX6_toldOfBox 54 (.iaload) 1 55 := ⟨by decide +kernel, rfl⟩
theorem dX6_toldOfBox_55 : dc cX6_toldOfBox 55 (.ireturn) 1 56 := ⟨by decide +kernel, rfl⟩
theorem dX6_toldOfBox_56 : dc cX6_toldOfBox 56 (.aload_n 0) 1 57 := ⟨by decide +kernel, rfl⟩
theorem dX6_toldOfBox_57 : dc cX6_toldOfBox 57 (.getfield 10) 3 60 := ⟨by decide +kernel, rfl⟩
theorem dX6_toldOfBox_60 : dc cX6_toldOfBox 60 (.getfield 73) 3 63 := ⟨by decide +kernel, rfl⟩
theorem dX6_toldOfBox_63 : dc cX6_toldOfBox 63 (.iload_n 1) 1 64 := ⟨by decide +kernel, rfl⟩
theorem dX6_toldOfBox_64 : dc cX6_toldOfBox 64 (.iaload) 1 65 := ⟨by decide +kernel, rfl⟩
theorem dX6_toldOfBox_65 : dc cX6_toldOfBox 65 (.ireturn) 1 66 := ⟨by decide +kernel, rfl⟩
theorem dX6_toldOfBox_66 : dc cX6_toldOfBox 66 (.bipush (-2)) 2 68 := ⟨by decide +kernel, rfl⟩
theorem dX6_toldOfBox_68 : dc cX6_toldOfBox 68 (.ireturn) 1 69 := ⟨by decide +kernel, rfl⟩
theorem dX6_toldOfSoul_0 : dc cX6_toldOfSoul 0 (.iload_n 1) 1 1 := ⟨by decide +kernel, rfl⟩
theorem dX6_toldOfSoul_1 : dc cX6_toldOfSoul 1 (.invokestatic 48) 3 4 := ⟨by decide +kernel, rfl⟩
theorem dX6_toldOfSoul_4 : dc cX6_toldOfSoul 4 (.ifCond .ne 6) 3 7 := ⟨by decide +kernel, rfl⟩
theorem dX6_toldOfSoul_7 : dc cX6_toldOfSoul 7 (.bipush (-2)) 2 9 := ⟨by decide +kernel, rfl⟩
theorem dX6_toldOfSoul_9 : dc cX6_toldOfSoul 9 (.ireturn) 1 10 := ⟨by decide +kernel, rfl⟩
theorem dX6_toldOfSoul_10 : dc cX6_toldOfSoul 10 (.iload_n 2) 1 11 := ⟨by decide +kernel, rfl⟩
theorem dX6_toldOfSoul_11 : dc cX6_toldOfSoul 11 (.tableswitch 55 0 2 #[25, 35, 45]) 25 36 := ⟨by decide +kernel, rfl⟩
theorem dX6_toldOfSoul_36 : dc cX6_toldOfSoul 36 (.aload_n 0) 1 37 := ⟨by decide +kernel, rfl⟩
theorem dX6_toldOfSoul_37 : dc cX6_toldOfSoul 37 (.getfield 10) 3 40 := ⟨by decide +kernel, rfl⟩
theorem dX6_toldOfSoul_40 : dc cX6_toldOfSoul 40 (.getfield 120) 3 43 := ⟨by decide +kernel, rfl⟩
theorem dX6_toldOfSoul_43 : dc cX6_toldOfSoul 43 (.iload_n 1) 1 44 := ⟨by decide +kernel, rfl⟩
theorem dX6_toldOfSoul_44 : dc cX6_toldOfSoul 44 (.iaload) 1 45 := ⟨by decide +kernel, rfl⟩
theorem dX6_toldOfSoul_45 : dc cX6_toldOfSoul 45 (.ireturn) 1 46 := ⟨by decide +kernel, rfl⟩
theorem dX6_toldOfSoul_46 : dc cX6_toldOfSoul 46 (.aload_n 0) 1 47 := ⟨by decide +kernel, rfl⟩
theorem dX6_toldOfSoul_47 : dc cX6_toldOfSoul 47 (.getfield 10) 3 50 := ⟨by decide +kernel, rfl⟩
theorem dX6_toldOfSoul_50 : dc cX6_toldOfSoul 50 (.getfield 123) 3 53 := ⟨by decide +kernel, rfl⟩
theorem dX6_toldOfSoul_53 : dc cX6_toldOfSoul 53 (.iload_n 1) 1 54 := ⟨by decide +kernel, rfl⟩
theorem dX6_toldOfSoul_54 : dc cX6_toldOfSoul 54 (.iaload) 1 55 := ⟨by decide +kernel, rfl⟩
theorem dX6_toldOfSoul_55 : dc cX6_toldOfSoul 55 (.ireturn) 1 56 := ⟨by decide +kernel, rfl⟩
theorem dX6_toldOfSoul_56 : dc cX6_toldOfSoul 56 (.aload_n 0) 1 57 := ⟨by decide +kernel, rfl⟩
theorem dX6_toldOfSoul_57 : dc cX6_toldOfSoul 57 (.getfield 10) 3 60 := ⟨by decide +kernel, rfl⟩
theorem dX6_toldOfSoul_60 : dc cX6_toldOfSoul 60 (.getfield 126) 3 63 := ⟨by decide +kernel, rfl⟩
theorem dX6_toldOfSoul_63 : dc cX6_toldOfSoul 63 (.iload_n 1) 1 64 := ⟨by decide +kernel, rfl⟩
theorem dX6_toldOfSoul_64 : dc cX6_toldOfSoul 64 (.iaload) 1 65 := ⟨by decide +kernel, rfl⟩
theorem dX6_toldOfSoul_65 : dc cX6_toldOfSoul 65 (.ireturn) 1 66 := ⟨by decide +kernel, rfl⟩
theorem dX6_toldOfSoul_66 : dc cX6_toldOfSoul 66 (.bipush (-2)) 2 68 := ⟨by decide +kernel, rfl⟩
theorem dX6_toldOfSoul_68 : dc cX6_toldOfSoul 68 (.ireturn) 1 69 := ⟨by decide +kernel, rfl⟩
theorem dX6_yearsCanBe_0 : dc cX6_yearsCanBe 0 (.aload_n 0) 1 1 := ⟨by decide +kernel, rfl⟩
theorem dX6_yearsCanBe_1 : dc cX6_yearsCanBe 1 (.getfield 23) 3 4 := ⟨by decide +kernel, rfl⟩
theorem dX6_yearsCanBe_4 : dc cX6_yearsCanBe 4 (.invokevirtual 89) 3 7 := ⟨by decide +kernel, rfl⟩
theorem dX6_yearsCanBe_7 : dc cX6_yearsCanBe 7 (.bipush (-6)) 2 9 := ⟨by decide +kernel, rfl⟩
theorem dX6_yearsCanBe_9 : dc cX6_yearsCanBe 9 (.if_icmp .eq 5) 3 12 := ⟨by decide +kernel, rfl⟩
theorem dX6_yearsCanBe_12 : dc cX6_yearsCanBe 12 (.iconst 0) 1 13 := ⟨by decide +kernel, rfl⟩
theorem dX6_yearsCanBe_13 : dc cX6_yearsCanBe 13 (.ireturn) 1 14 := ⟨by decide +kernel, rfl⟩
theorem dX6_yearsCanBe_14 : dc cX6_yearsCanBe 14 (.aload_n 0) 1 15 := ⟨by decide +kernel, rfl⟩
theorem dX6_yearsCanBe_15 : dc cX6_yearsCanBe 15 (.getfield 30) 3 18 := ⟨by decide +kernel, rfl⟩
theorem dX6_yearsCanBe_18 : dc cX6_yearsCanBe 18 (.aload_n 0) 1 19 := ⟨by decide +kernel, rfl⟩
theorem dX6_yearsCanBe_19 : dc cX6_yearsCanBe 19 (.getfield 10) 3 22 := ⟨by decide +kernel, rfl⟩
theorem dX6_yearsCanBe_22 : dc cX6_yearsCanBe 22 (.aload_n 0) 1 23 := ⟨by decide +kernel, rfl⟩
theorem dX6_yearsCanBe_23 : dc cX6_yearsCanBe 23 (.getfield 23) 3 26 := ⟨by decide +kernel, rfl⟩
theorem dX6_yearsCanBe_26 : dc cX6_yearsCanBe 26 (.invokevirtual 93) 3 29 := ⟨by decide +kernel, rfl⟩
theorem dX6_yearsCanBe_29 : dc cX6_yearsCanBe 29 (.aload_n 0) 1 30 := ⟨by decide +kernel, rfl⟩
theorem dX6_yearsCanBe_30 : dc cX6_yearsCanBe 30 (.getfield 30) 3 33 := ⟨by decide +kernel, rfl⟩
theorem dX6_yearsCanBe_33 : dc cX6_yearsCanBe 33 (.getfield 97) 3 36 := ⟨by decide +kernel, rfl⟩
theorem dX6_yearsCanBe_36 : dc cX6_yearsCanBe 36 (.bipush (-6)) 2 38 := ⟨by decide +kernel, rfl⟩
theorem dX6_yearsCanBe_38 : dc cX6_yearsCanBe 38 (.if_icmp .ne 7) 3 41 := ⟨by decide +kernel, rfl⟩
theorem dX6_yearsCanBe_41 : dc cX6_yearsCanBe 41 (.iconst 1) 1 42 := ⟨by decide +kernel, rfl⟩
theorem dX6_yearsCanBe_42 : dc cX6_yearsCanBe 42 (.goto 4) 3 45 := ⟨by decide +kernel, rfl⟩
theorem dX6_yearsCanBe_45 : dc cX6_yearsCanBe 45 (.iconst 0) 1 46 := ⟨by decide +kernel, rfl⟩
theorem dX6_yearsCanBe_46 : dc cX6_yearsCanBe 46 (.ireturn) 1 47 := ⟨by decide +kernel, rfl⟩
theorem dX6_isWithin_0 : dc cX6_isWithin 0 (.iload_n 0) 1 1 := ⟨by decide +kernel, rfl⟩
theorem dX6_isWithin_1 : dc cX6_isWithin 1 (.iload_n 1) 1 2 := ⟨by decide +kernel, rfl⟩
theorem dX6_isWithin_2 : dc cX6_isWithin 2 (.if_icmp .lt 12) 3 5 := ⟨by decide +kernel, rfl⟩
theorem dX6_isWithin_5 : dc cX6_isWithin 5 (.iload_n 0) 1 6 := ⟨by decide +kernel, rfl⟩
theorem dX6_isWithin_6 : dc cX6_isWithin 6 (.iload_n 2) 1 7 := ⟨by decide +kernel, rfl⟩
theorem dX6_isWithin_7 : dc cX6_isWithin 7 (.if_icmp .gt 7) 3 10 := ⟨by decide +kernel, rfl⟩
theorem dX6_isWithin_10 : dc cX6_isWithin 10 (.iconst 1) 1 11 := ⟨by decide +kernel, rfl⟩
theorem dX6_isWithin_11 : dc cX6_isWithin 11 (.goto 4) 3 14 := ⟨by decide +kernel, rfl⟩
theorem dX6_isWithin_14 : dc cX6_isWithin 14 (.iconst 0) 1 15 := ⟨by decide +kernel, rfl⟩
theorem dX6_isWithin_15 : dc cX6_isWithin 15 (.ireturn) 1 16 := ⟨by decide +kernel, rfl⟩
theorem dX6_isSoul_0 : dc cX6_isSoul 0 (.iload_n 0) 1 1 := ⟨by decide +kernel, rfl⟩
theorem dX6_isSoul_1 : dc cX6_isSoul 1 (.ifCond .lt 13) 3 4 := ⟨by decide +kernel, rfl⟩
theorem dX6_isSoul_4 : dc cX6_isSoul 4 (.iload_n 0) 1 5 := ⟨by decide +kernel, rfl⟩
theorem dX6_isSoul_5 : dc cX6_isSoul 5 (.bipush 8) 2 7 := ⟨by decide +kernel, rfl⟩
theorem dX6_isSoul_7 : dc cX6_isSoul 7 (.if_icmp .ge 7) 3 10 := ⟨by decide +kernel, rfl⟩
theorem dX6_isSoul_10 : dc cX6_isSoul 10 (.iconst 1) 1 11 := ⟨by decide +kernel, rfl⟩
theorem dX6_isSoul_11 : dc cX6_isSoul 11 (.goto 4) 3 14 := ⟨by decide +kernel, rfl⟩
theorem dX6_isSoul_14 : dc cX6_isSoul 14 (.iconst 0) 1 15 := ⟨by decide +kernel, rfl⟩
theorem dX6_isSoul_15 : dc cX6_isSoul 15 (.ireturn) 1 16 := ⟨by decide +kernel, rfl⟩
theorem dX6_isBox_0 : dc cX6_isBox 0 (.iload_n 0) 1 1 := ⟨by decide +kernel, rfl⟩
theorem dX6_isBox_1 : dc cX6_isBox 1 (.ifCond .lt 13) 3 4 := ⟨by decide +kernel, rfl⟩
theorem dX6_isBox_4 : dc cX6_isBox 4 (.iload_n 0) 1 5 := ⟨by decide +kernel, rfl⟩
theorem dX6_isBox_5 : dc cX6_isBox 5 (.bipush 6) 2 7 := ⟨by decide +kernel, rfl⟩
theorem dX6_isBox_7 : dc cX6_isBox 7 (.if_icmp .ge 7) 3 10 := ⟨by decide +kernel, rfl⟩
theorem dX6_isBox_10 : dc cX6_isBox 10 (.iconst 1) 1 11 := ⟨by decide +kernel, rfl⟩
theorem dX6_isBox_11 : dc cX6_isBox 11 (.goto 4) 3 14 := ⟨by decide +kernel, rfl⟩
theorem dX6_isBox_14 : dc cX6_isBox 14 (.iconst 0) 1 15 := ⟨by decide +kernel, rfl⟩
theorem dX6_isBox_15 : dc cX6_isBox 15 (.ireturn) 1 16 := ⟨by decide +kernel, rfl⟩
theorem dX6_hasBit_0 : dc cX6_hasBit 0 (.iload_n 0) 1 1 := ⟨by decide +kernel, rfl⟩
theorem dX6_hasBit_1 : dc cX6_hasBit 1 (.iload_n 1) 1 2 := ⟨by decide +kernel, rfl⟩
theorem dX6_hasBit_2 : dc cX6_hasBit 2 (.ishr) 1 3 := ⟨by decide +kernel, rfl⟩
theorem dX6_hasBit_3 : dc cX6_hasBit 3 (.iconst 1) 1 4 := ⟨by decide +kernel, rfl⟩
theorem dX6_hasBit_4 : dc cX6_hasBit 4 (.iand) 1 5 := ⟨by decide +kernel, rfl⟩
theorem dX6_hasBit_5 : dc cX6_hasBit 5 (.iconst 1) 1 6 := ⟨by decide +kernel, rfl⟩
theorem dX6_hasBit_6 : dc cX6_hasBit 6 (.if_icmp .ne 7) 3 9 := ⟨by decide +kernel, rfl⟩
theorem dX6_hasBit_9 : dc cX6_hasBit 9 (.iconst 1) 1 10 := ⟨by decide +kernel, rfl⟩
theorem dX6_hasBit_10 : dc cX6_hasBit 10 (.goto 4) 3 13 := ⟨by decide +kernel, rfl⟩
theorem dX6_hasBit_13 : dc cX6_hasBit 13 (.iconst 0) 1 14 := ⟨by decide +kernel, rfl⟩
theorem dX6_hasBit_14 : dc cX6_hasBit 14 (.ireturn) 1 15 := ⟨by decide +kernel, rfl⟩
theorem dX6_power_0 : dc cX6_power 0 (.lconst 1) 1 1 := ⟨by decide +kernel, rfl⟩
theorem dX6_power_1 : dc cX6_power 1 (.lstore_n 3) 1 2 := ⟨by decide +kernel, rfl⟩
theorem dX6_power_2 : dc cX6_power 2 (.iconst 0) 1 3 := ⟨by decide +kernel, rfl⟩
theorem dX6_power_3 : dc cX6_power 3 (.istore 5) 2 5 := ⟨by decide +kernel, rfl⟩
theorem dX6_power_5 : dc cX6_power 5 (.iload 5) 2 7 := ⟨by decide +kernel, rfl⟩
theorem dX6_power_7 : dc cX6_power 7 (.iload_n 2) 1 8 := ⟨by decide +kernel, rfl⟩
theorem dX6_power_8 : dc cX6_power 8 (.if_icmp .ge 13) 3 11 := ⟨by decide +kernel, rfl⟩
theorem dX6_power_11 : dc cX6_power 11 (.lload_n 3) 1 12 := ⟨by decide +kernel, rfl⟩
theorem dX6_power_12 : dc cX6_power 12 (.lload_n 0) 1 13 := ⟨by decide +kernel, rfl⟩
theorem dX6_power_13 : dc cX6_power 13 (.lmul) 1 14 := ⟨by decide +kernel, rfl⟩
theorem dX6_power_14 : dc cX6_power 14 (.lstore_n 3) 1 15 := ⟨by decide +kernel, rfl⟩
theorem dX6_power_15 : dc cX6_power 15 (.iinc 5 1) 3 18 := ⟨by decide +kernel, rfl⟩
theorem dX6_power_18 : dc cX6_power 18 (.goto (-13)) 3 21 := ⟨by decide +kernel, rfl⟩
theorem dX6_power_21 : dc cX6_power 21 (.lload_n 3) 1 22 := ⟨by decide +kernel, rfl⟩
theorem dX6_power_22 : dc cX6_power 22 (.lreturn) 1 23 := ⟨by decide +kernel, rfl⟩
theorem dX6_waysToKeep_0 : dc cX6_waysToKeep 0 (.lconst 0) 1 1 := ⟨by decide +kernel, rfl⟩
theorem dX6_waysToKeep_1 : dc cX6_waysToKeep 1 (.lstore 6) 2 3 := ⟨by decide +kernel, rfl⟩
theorem dX6_waysToKeep_3 : dc cX6_waysToKeep 3 (.lconst 1) 1 4 := ⟨by decide +kernel, rfl⟩
theorem dX6_waysToKeep_4 : dc cX6_waysToKeep 4 (.lstore 8) 2 6 := ⟨by decide +kernel, rfl⟩
theorem dX6_waysToKeep_6 : dc cX6_waysToKeep 6 (.iconst 0) 1 7 := ⟨by decide +kernel, rfl⟩
theorem dX6_waysToKeep_7 : dc cX6_waysToKeep 7 (.istore 10) 2 9 := ⟨by decide +kernel, rfl⟩
theorem dX6_waysToKeep_9 : dc cX6_waysToKeep 9 (.iload 10) 2 11 := ⟨by decide +kernel, rfl⟩
theorem dX6_waysToKeep_11 : dc cX6_waysToKeep 11 (.iload_n 0) 1 12 := ⟨by decide +kernel, rfl⟩
theorem dX6_waysToKeep_12 : dc cX6_waysToKeep 12 (.if_icmp .gt 55) 3 15 := ⟨by decide +kernel, rfl⟩
theorem dX6_waysToKeep_15 : dc cX6_waysToKeep 15 (.iload 10) 2 17 := ⟨by decide +kernel, rfl⟩
theorem dX6_waysToKeep_17 : dc cX6_waysToKeep 17 (.iload_n 1) 1 18 := ⟨by decide +kernel, rfl⟩
theorem dX6_waysToKeep_18 : dc cX6_waysToKeep 18 (.if_icmp .lt 27) 3 21 := ⟨by decide +kernel, rfl⟩
theorem dX6_waysToKeep_21 : dc cX6_waysToKeep 21 (.lload 6) 2 23 := ⟨by decide +kernel, rfl⟩
theorem dX6_waysToKeep_23 : dc cX6_waysToKeep 23 (.lload 8) 2 25 := ⟨by decide +kernel, rfl⟩
theorem dX6_waysToKeep_25 : dc cX6_waysToKeep 25 (.lload_n 2) 1 26 := ⟨by decide +kernel, rfl⟩
theorem dX6_waysToKeep_26 : dc cX6_waysToKeep 26 (.iload 10) 2 28 := ⟨by decide +kernel, rfl⟩
theorem dX6_waysToKeep_28 : dc cX6_waysToKeep 28 (.invokestatic 207) 3 31 := ⟨by decide +kernel, rfl⟩
theorem dX6_waysToKeep_31 : dc cX6_waysToKeep 31 (.lmul) 1 32 := ⟨by decide +kernel, rfl⟩
theorem dX6_waysToKeep_32 : dc cX6_waysToKeep 32 (.lload 4) 2 34 := ⟨by decide +kernel, rfl⟩
theorem dX6_waysToKeep_34 : dc cX6_waysToKeep 34 (.iload_n 0) 1 35 := ⟨by decide +kernel, rfl⟩
theorem dX6_waysToKeep_35 : dc cX6_waysToKeep 35 (.iload 10) 2 37 := ⟨by decide +kernel, rfl⟩
theorem dX6_waysToKeep_37 : dc cX6_waysToKeep 37 (.isub) 1 38 := ⟨by decide +kernel, rfl⟩
theorem dX6_waysToKeep_38 : dc cX6_waysToKeep 38 (.invokestatic 207) 3 41 := ⟨by decide +kernel, rfl⟩
theorem dX6_waysToKeep_41 : dc cX6_waysToKeep 41 (.lmul) 1 42 := ⟨by decide +kernel, rfl⟩
theorem dX6_waysToKeep_42 : dc cX6_waysToKeep 42 (.ladd) 1 43 := ⟨by decide +kernel, rfl⟩
theorem dX6_waysToKeep_43 : dc cX6_waysToKeep 43 (.lstore 6) 2 45 := ⟨by decide +kernel, rfl⟩
theorem dX6_waysToKeep_45 : dc cX6_waysToKeep 45 (.lload 8) 2 47 := ⟨by decide +kernel, rfl⟩
theorem dX6_waysToKeep_47 : dc cX6_waysToKeep 47 (.iload_n 0) 1 48 := ⟨by decide +kernel, rfl⟩
theorem dX6_waysToKeep_48 : dc cX6_waysToKeep 48 (.iload 10) 2 50 := ⟨by decide +kernel, rfl⟩
theorem dX6_waysToKeep_50 : dc cX6_waysToKeep 50 (.isub) 1 51 := ⟨by decide +kernel, rfl⟩
theorem dX6_waysToKeep_51 : dc cX6_waysToKeep 51 (.i2l) 1 52 := ⟨by decide +kernel, rfl⟩
theorem dX6_waysToKeep_52 : dc cX6_waysToKeep 52 (.lmul) 1 53 := ⟨by decide +kernel, rfl⟩
theorem dX6_waysToKeep_53 : dc cX6_waysToKeep 53 (.iload 10) 2 55 := ⟨by decide +kernel, rfl⟩
theorem dX6_waysToKeep_55 : dc cX6_waysToKeep 55 (.iconst 1) 1 56 := ⟨by decide +kernel, rfl⟩
theorem dX6_waysToKeep_56 : dc cX6_waysToKeep 56 (.iadd) 1 57 := ⟨by decide +kernel, rfl⟩
theorem dX6_waysToKeep_57 : dc cX6_waysToKeep 57 (.i2l) 1 58 := ⟨by decide +kernel, rfl⟩
theorem dX6_waysToKeep_58 : dc cX6_waysToKeep 58 (.ldiv) 1 59 := ⟨by decide +kernel, rfl⟩
theorem dX6_waysToKeep_59 : dc cX6_waysToKeep 59 (.lstore 8) 2 61 := ⟨by decide +kernel, rfl⟩
theorem dX6_waysToKeep_61 : dc cX6_waysToKeep 61 (.iinc 10 1) 3 64 := ⟨by decide +kernel, rfl⟩
theorem dX6_waysToKeep_64 : dc cX6_waysToKeep 64 (.goto (-55)) 3 67 := ⟨by decide +kernel, rfl⟩
theorem dX6_waysToKeep_67 : dc cX6_waysToKeep 67 (.lload 6) 2 69 := ⟨by decide +kernel, rfl⟩
theorem dX6_waysToKeep_69 : dc cX6_waysToKeep 69 (.lreturn) 1 70 := ⟨by decide +kernel, rfl⟩
theorem dX6_commonDivisor_0 : dc cX6_commonDivisor 0 (.lload_n 0) 1 1 := ⟨by decide +kernel, rfl⟩
theorem dX6_commonDivisor_1 : dc cX6_commonDivisor 1 (.lstore 4) 2 3 := ⟨by decide +kernel, rfl⟩
theorem dX6_commonDivisor_3 : dc cX6_commonDivisor 3 (.lload_n 2) 1 4 := ⟨by decide +kernel, rfl⟩
theorem dX6_commonDivisor_4 : dc cX6_commonDivisor 4 (.lstore 6) 2 6 := ⟨by decide +kernel, rfl⟩
theorem dX6_commonDivisor_6 : dc cX6_commonDivisor 6 (.iconst 0) 1 7 := ⟨by decide +kernel, rfl⟩
theorem dX6_commonDivisor_7 : dc cX6_commonDivisor 7 (.istore 8) 2 9 := ⟨by decide +kernel, rfl⟩
theorem dX6_commonDivisor_9 : dc cX6_commonDivisor 9 (.iload 8) 2 11 := ⟨by decide +kernel, rfl⟩
theorem dX6_commonDivisor_11 : dc cX6_commonDivisor 11 (.sipush 200) 3 14 := ⟨by decide +kernel, rfl⟩
theorem dX6_commonDivisor_14 : dc cX6_commonDivisor 14 (.if_icmp .ge 31) 3 17 := ⟨by decide +kernel, rfl⟩
theorem dX6_commonDivisor_17 : dc cX6_commonDivisor 17 (.lload 6) 2 19 := ⟨by decide +kernel, rfl⟩
theorem dX6_commonDivisor_19 : dc cX6_commonDivisor 19 (.lconst 0) 1 20 := ⟨by decide +kernel, rfl⟩
theorem dX6_commonDivisor_20 : dc cX6_commonDivisor 20 (.lcmp) 1 21 := ⟨by decide +kernel, rfl⟩
theorem dX6_commonDivisor_21 : dc cX6_commonDivisor 21 (.ifCond .eq 24) 3 24 := ⟨by decide +kernel, rfl⟩
theorem dX6_commonDivisor_24 : dc cX6_commonDivisor 24 (.lload 4) 2 26 := ⟨by decide +kernel, rfl⟩
theorem dX6_commonDivisor_26 : dc cX6_commonDivisor 26 (.lload 6) 2 28 := ⟨by decide +kernel, rfl⟩
theorem dX6_commonDivisor_28 : dc cX6_commonDivisor 28 (.lrem) 1 29 := ⟨by decide +kernel, rfl⟩
theorem dX6_commonDivisor_29 : dc cX6_commonDivisor 29 (.lstore 9) 2 31 := ⟨by decide +kernel, rfl⟩
theorem dX6_commonDivisor_31 : dc cX6_commonDivisor 31 (.lload 6) 2 33 := ⟨by decide +kernel, rfl⟩
theorem dX6_commonDivisor_33 : dc cX6_commonDivisor 33 (.lstore 4) 2 35 := ⟨by decide +kernel, rfl⟩
theorem dX6_commonDivisor_35 : dc cX6_commonDivisor 35 (.lload 9) 2 37 := ⟨by decide +kernel, rfl⟩
theorem dX6_commonDivisor_37 : dc cX6_commonDivisor 37 (.lstore 6) 2 39 := ⟨by decide +kernel, rfl⟩
theorem dX6_commonDivisor_39 : dc cX6_commonDivisor 39 (.iinc 8 1) 3 42 := ⟨by decide +kernel, rfl⟩
theorem dX6_commonDivisor_42 : dc cX6_commonDivisor 42 (.goto (-33)) 3 45 := ⟨by decide +kernel, rfl⟩
theorem dX6_commonDivisor_45 : dc cX6_commonDivisor 45 (.lload 4) 2 47 := ⟨by decide +kernel, rfl⟩
theorem dX6_commonDivisor_47 : dc cX6_commonDivisor 47 (.lreturn) 1 48 := ⟨by decide +kernel, rfl⟩
theorem dX7_init_0 : dc cX7_init 0 (.aload_n 0) 1 1 := ⟨by decide +kernel, rfl⟩
theorem dX7_init_1 : dc cX7_init 1 (.invokespecial 1) 3 4 := ⟨by decide +kernel, rfl⟩
theorem dX7_init_4 : dc cX7_init 4 (.aload_n 0) 1 5 := ⟨by decide +kernel, rfl⟩
theorem dX7_init_5 : dc cX7_init 5 (.bipush 96) 2 7 := ⟨by decide +kernel, rfl⟩
theorem dX7_init_7 : dc cX7_init 7 (.newarray .int) 2 9 := ⟨by decide +kernel, rfl⟩
theorem dX7_init_9 : dc cX7_init 9 (.putfield 7) 3 12 := ⟨by decide +kernel, rfl⟩
theorem dX7_init_12 : dc cX7_init 12 (.aload_n 0) 1 13 := ⟨by decide +kernel, rfl⟩
theorem dX7_init_13 : dc cX7_init 13 (.bipush 96) 2 15 := ⟨by decide +kernel, rfl⟩
theorem dX7_init_15 : dc cX7_init 15 (.newarray .int) 2 17 := ⟨by decide +kernel, rfl⟩
theorem dX7_init_17 : dc cX7_init 17 (.putfield 13) 3 20 := ⟨by decide +kernel, rfl⟩
theorem dX7_init_20 : dc cX7_init 20 (.aload_n 0) 1 21 := ⟨by decide +kernel, rfl⟩
theorem dX7_init_21 : dc cX7_init 21 (.bipush 6) 2 23 := ⟨by decide +kernel, rfl⟩
theorem dX7_init_23 : dc cX7_init 23 (.newarray .int) 2 25 := ⟨by decide +kernel, rfl⟩
theorem dX7_init_25 : dc cX7_init 25 (.putfield 16) 3 28 := ⟨by decide +kernel, rfl⟩
theorem dX7_init_28 : dc cX7_init 28 (.aload_n 0) 1 29 := ⟨by decide +kernel, rfl⟩
theorem dX7_init_29 : dc cX7_init 29 (.bipush 6) 2 31 := ⟨by decide +kernel, rfl⟩
theorem dX7_init_31 : dc cX7_init 31 (.newarray .int) 2 33 := ⟨by decide +kernel, rfl⟩
theorem dX7_init_33 : dc cX7_init 33 (.putfield 19) 3 36 := ⟨by decide +kernel, rfl⟩
theorem dX7_init_36 : dc cX7_init 36 (.aload_n 0) 1 37 := ⟨by decide +kernel, rfl⟩
theorem dX7_init_37 : dc cX7_init 37 (.bipush 16) 2 39 := ⟨by decide +kernel, rfl⟩
theorem dX7_init_39 : dc cX7_init 39 (.newarray .int) 2 41 := ⟨by decide +kernel, rfl⟩
theorem dX7_init_41 : dc cX7_init 41 (.putfield 22) 3 44 := ⟨by decide +kernel, rfl⟩
theorem dX7_init_44 : dc cX7_init 44 (.aload_n 0) 1 45 := ⟨by decide +kernel, rfl⟩
theorem dX7_init_45 : dc cX7_init 45 (.bipush 60) 2 47 := ⟨by decide +kernel, rfl⟩
theorem dX7_init_47 : dc cX7_init 47 (.newarray .int) 2 49 := ⟨by decide +kernel, rfl⟩
theorem dX7_init_49 : dc cX7_init 49 (.putfield 25) 3 52 := ⟨by decide +kernel, rfl⟩
theorem dX7_init_52 : dc cX7_init 52 (.aload_n 0) 1 53 := ⟨by decide +kernel, rfl⟩
theorem dX7_init_53 : dc cX7_init 53 (.sipush 576) 3 56 := ⟨by decide +kernel, rfl⟩
theorem dX7_init_56 : dc cX7_init 56 (.newarray .int) 2 58 := ⟨by decide +kernel, rfl⟩
theorem dX7_init_58 : dc cX7_init 58 (.putfield 28) 3 61 := ⟨by decide +kernel, rfl⟩
theorem dX7_init_61 : dc cX7_init 61 (.aload_n 0) 1 62 := ⟨by decide +kernel, rfl⟩
theorem dX7_init_62 : dc cX7_init 62 (.bipush 8) 2 64 := ⟨by decide +kernel, rfl⟩
theorem dX7_init_64 : dc cX7_init 64 (.newarray .int) 2 66 := ⟨by decide +kernel, rfl⟩
theorem dX7_init_66 : dc cX7_init 66 (.putfield 31) 3 69 := ⟨by decide +kernel, rfl⟩
theorem dX7_init_69 : dc cX7_init 69 (.aload_n 0) 1 70 := ⟨by decide +kernel, rfl⟩
theorem dX7_init_70 : dc cX7_init 70 (.sipush 260) 3 73 := ⟨by decide +kernel, rfl⟩
theorem dX7_init_73 : dc cX7_init 73 (.newarray .int) 2 75 := ⟨by decide +kernel, rfl⟩
theorem dX7_init_75 : dc cX7_init 75 (.putfield 34) 3 78 := ⟨by decide +kernel, rfl⟩
theorem dX7_init_78 : dc cX7_init 78 (.aload_n 0) 1 79 := ⟨by decide +kernel, rfl⟩
theorem dX7_init_79 : dc cX7_init 79 (.iconst 2) 1 80 := ⟨by decide +kernel, rfl⟩
theorem dX7_init_80 : dc cX7_init 80 (.newarray .boolean) 2 82 := ⟨by decide +kernel, rfl⟩
theorem dX7_init_82 : dc cX7_init 82 (.putfield 37) 3 85 := ⟨by decide +kernel, rfl⟩
theorem dX7_init_85 : dc cX7_init 85 (.iconst 0) 1 86 := ⟨by decide +kernel, rfl⟩
theorem dX7_init_86 : dc cX7_init 86 (.istore_n 1) 1 87 := ⟨by decide +kernel, rfl⟩
theorem dX7_init_87 : dc cX7_init 87 (.iload_n 1) 1 88 := ⟨by decide +kernel, rfl⟩
theorem dX7_init_88 : dc cX7_init 88 (.bipush 8) 2 90 := ⟨by decide +kernel, rfl⟩
theorem dX7_init_90 : dc cX7_init 90 (.if_icmp .ge 20) 3 93 := ⟨by decide +kernel, rfl⟩
theorem dX7_init_93 : dc cX7_init 93 (.aload_n 0) 1 94 := ⟨by decide +kernel, rfl⟩
theorem dX7_init_94 : dc cX7_init 94 (.getfield 7) 3 97 := ⟨by decide +kernel, rfl⟩
theorem dX7_init_97 : dc cX7_init 97 (.bipush 16) 2 99 := ⟨by decide +kernel, rfl⟩
theorem dX7_init_99 : dc cX7_init 99 (.iload_n 1) 1 100 := ⟨by decide +kernel, rfl⟩
theorem dX7_init_100 : dc cX7_init 100 (.iadd) 1 101 := ⟨by decide +kernel, rfl⟩
theorem dX7_init_101 : dc cX7_init 101 (.bipush (-6)) 2 103 := ⟨by decide +kernel, rfl⟩
theorem dX7_init_103 : dc cX7_init 103 (.iastore) 1 104 := ⟨by decide +kernel, rfl⟩
theorem dX7_init_104 : dc cX7_init 104 (.iinc 1 1) 3 107 := ⟨by decide +kernel, rfl⟩
theorem dX7_init_107 : dc cX7_init 107 (.goto (-20)) 3 110 := ⟨by decide +kernel, rfl⟩
theorem dX7_init_110 : dc cX7_init 110 (.iconst 0) 1 111 := ⟨by decide +kernel, rfl⟩
theorem dX7_init_111 : dc cX7_init 111 (.istore_n 1) 1 112 := ⟨by decide +kernel, rfl⟩
theorem dX7_init_112 : dc cX7_init 112 (.iload_n 1) 1 113 := ⟨by decide +kernel, rfl⟩
theorem dX7_init_113 : dc cX7_init 113 (.bipush 6) 2 115 := ⟨by decide +kernel, rfl⟩
theorem dX7_init_115 : dc cX7_init 115 (.if_icmp .ge 16) 3 118 := ⟨by decide +kernel, rfl⟩
theorem dX7_init_118 : dc cX7_init 118 (.aload_n 0) 1 119 := ⟨by decide +kernel, rfl⟩
theorem dX7_init_119 : dc cX7_init 119 (.getfield 19) 3 122 := ⟨by decide +kernel, rfl⟩
theorem dX7_init_122 : dc cX7_init 122 (.iload_n 1) 1 123 := ⟨by decide +kernel, rfl⟩
theorem dX7_init_123 : dc cX7_init 123 (.iconst 1) 1 124 := ⟨by decide +kernel, rfl⟩
theorem dX7_init_124 : dc cX7_init 124 (.iastore) 1 125 := ⟨by decide +kernel, rfl⟩
theorem dX7_init_125 : dc cX7_init 125 (.iinc 1 1) 3 128 := ⟨by decide +kernel, rfl⟩
theorem dX7_init_128 : dc cX7_init 128 (.goto (-16)) 3 131 := ⟨by decide +kernel, rfl⟩
theorem dX7_init_131 : dc cX7_init 131 (.return_) 1 132 := ⟨by decide +kernel, rfl⟩
theorem dX7_in_0 : dc cX7_in 0 (.iload_n 0) 1 1 := ⟨by decide +kernel, rfl⟩
theorem dX7_in_1 : dc cX7_in 1 (.iload_n 1) 1 2 := ⟨by decide +kernel, rfl⟩
theorem dX7_in_2 : dc cX7_in 2 (.if_icmp .lt 12) 3 5 := ⟨by decide +kernel, rfl⟩
theorem dX7_in_5 : dc cX7_in 5 (.iload_n 0) 1 6 := ⟨by decide +kernel, rfl⟩
theorem dX7_in_6 : dc cX7_in 6 (.iload_n 2) 1 7 := ⟨by decide +kernel, rfl⟩
theorem dX7_in_7 : dc cX7_in 7 (.if_icmp .gt 7) 3 10 := ⟨by decide +kernel, rfl⟩
theorem dX7_in_10 : dc cX7_in 10 (.iconst 1) 1 11 := ⟨by decide +kernel, rfl⟩
theorem dX7_in_11 : dc cX7_in 11 (.goto 4) 3 14 := ⟨by decide +kernel, rfl⟩
theorem dX7_in_14 : dc cX7_in 14 (.iconst 0) 1 15 := ⟨by decide +kernel, rfl⟩
theorem dX7_in_15 : dc cX7_in 15 (.ireturn) 1 16 := ⟨by decide +kernel, rfl⟩
theorem dX7_has_0 : dc cX7_has 0 (.iload_n 0) 1 1 := ⟨by decide +kernel, rfl⟩
theorem dX7_has_1 : dc cX7_has 1 (.iload_n 1) 1 2 := ⟨by decide +kernel, rfl⟩
theorem dX7_has_2 : dc cX7_has 2 (.ishr) 1 3 := ⟨by decide +kernel, rfl⟩
theorem dX7_has_3 : dc cX7_has 3 (.iconst 1) 1 4 := ⟨by decide +kernel, rfl⟩
theorem dX7_has_4 : dc cX7_has 4 (.iand) 1 5 := ⟨by decide +kernel, rfl⟩
theorem dX7_has_5 : dc cX7_has 5 (.iconst 1) 1 6 := ⟨by decide +kernel, rfl⟩
theorem dX7_has_6 : dc cX7_has 6 (.if_icmp .ne 7) 3 9 := ⟨by decide +kernel, rfl⟩
theorem dX7_has_9 : dc cX7_has 9 (.iconst 1) 1 10 := ⟨by decide +kernel, rfl⟩
theorem dX7_has_10 : dc cX7_has 10 (.goto 4) 3 13 := ⟨by decide +kernel, rfl⟩
theorem dX7_has_13 : dc cX7_has 13 (.iconst 0) 1 14 := ⟨by decide +kernel, rfl⟩
theorem dX7_has_14 : dc cX7_has 14 (.ireturn) 1 15 := ⟨by decide +kernel, rfl⟩
theorem dX7_bits_0 : dc cX7_bits 0 (.iconst 0) 1 1 := ⟨by decide +kernel, rfl⟩
theorem dX7_bits_1 : dc cX7_bits 1 (.istore_n 1) 1 2 := ⟨by decide +kernel, rfl⟩
theorem dX7_bits_2 : dc cX7_bits 2 (.iconst 0) 1 3 := ⟨by decide +kernel, rfl⟩
theorem dX7_bits_3 : dc cX7_bits 3 (.istore_n 2) 1 4 := ⟨by decide +kernel, rfl⟩
theorem dX7_bits_4 : dc cX7_bits 4 (.iload_n 2) 1 5 := ⟨by decide +kernel, rfl⟩
theorem dX7_bits_5 : dc cX7_bits 5 (.bipush 8) 2 7 := ⟨by decide +kernel, rfl⟩
theorem dX7_bits_7 : dc cX7_bits 7 (.if_icmp .ge 17) 3 10 := ⟨by decide +kernel, rfl⟩
theorem dX7_bits_10 : dc cX7_bits 10 (.iload_n 1) 1 11 := ⟨by decide +kernel, rfl⟩
theorem dX7_bits_11 : dc cX7_bits 11 (.iload_n 0) 1 12 := ⟨by decide +kernel, rfl⟩
theorem dX7_bits_12 : dc cX7_bits 12 (.iload_n 2) 1 13 := ⟨by decide +kernel, rfl⟩
theorem dX7_bits_13 : dc cX7_bits 13 (.ishr) 1 14 := ⟨by decide +kernel, rfl⟩
theorem dX7_bits_14 : dc cX7_bits 14 (.iconst 1) 1 15 := ⟨by decide +kernel, rfl⟩
theorem dX7_bits_15 : dc cX7_bits 15 (.iand) 1 16 := ⟨by decide +kernel, rfl⟩
theorem dX7_bits_16 : dc cX7_bits 16 (.iadd) 1 17 := ⟨by decide +kernel, rfl⟩
theorem dX7_bits_17 : dc cX7_bits 17 (.istore_n 1) 1 18 := ⟨by decide +kernel, rfl⟩
theorem dX7_bits_18 : dc cX7_bits 18 (.iinc 2 1) 3 21 := ⟨by decide +kernel, rfl⟩
theorem dX7_bits_21 : dc cX7_bits 21 (.goto (-17)) 3 24 := ⟨by decide +kernel, rfl⟩
theorem dX7_bits_24 : dc cX7_bits 24 (.iload_n 1) 1 25 := ⟨by decide +kernel, rfl⟩
theorem dX7_bits_25 : dc cX7_bits 25 (.ireturn) 1 26 := ⟨by decide +kernel, rfl⟩
theorem dX7_isSoul_0 : dc cX7_isSoul 0 (.iload_n 0) 1 1 := ⟨by decide +kernel, rfl⟩
theorem dX7_isSoul_1 : dc cX7_isSoul 1 (.iconst 0) 1 2 := ⟨by decide +kernel, rfl⟩
theorem dX7_isSoul_2 : dc cX7_isSoul 2 (.bipush 7) 2 4 := ⟨by decide +kernel, rfl⟩
theorem dX7_isSoul_4 : dc cX7_isSoul 4 (.invokestatic 41) 3 7 := ⟨by decide +kernel, rfl⟩
theorem dX7_isSoul_7 : dc cX7_isSoul 7 (.ireturn) 1 8 := ⟨by decide +kernel, rfl⟩
theorem dX7_isBox_0 : dc cX7_isBox 0 (.iload_n 0) 1 1 := ⟨by decide +kernel, rfl⟩
theorem dX7_isBox_1 : dc cX7_isBox 1 (.iconst 0) 1 2 := ⟨by decide +kernel, rfl⟩
theorem dX7_isBox_2 : dc cX7_isBox 2 (.iconst 5) 1 3 := ⟨by decide +kernel, rfl⟩
theorem dX7_isBox_3 : dc cX7_isBox 3 (.invokestatic 41) 3 6 := ⟨by decide +kernel, rfl⟩
theorem dX7_isBox_6 : dc cX7_isBox 6 (.ireturn) 1 7 := ⟨by decide +kernel, rfl⟩
theorem dX7_lives_0 : dc cX7_lives 0 (.iload_n 1) 1 1 := ⟨by decide +kernel, rfl⟩
theorem dX7_lives_1 : dc cX7_lives 1 (.invokestatic 45) 3 4 := ⟨by decide +kernel, rfl⟩
theorem dX7_lives_4 : dc cX7_lives 4 (.ifCond .eq 21) 3 7 := ⟨by decide +kernel, rfl⟩
theorem dX7_lives_7 : dc cX7_lives 7 (.aload_n 0) 1 8 := ⟨by decide +kernel, rfl⟩
theorem dX7_lives_8 : dc cX7_lives 8 (.getfield 7) 3 11 := ⟨by decide +kernel, rfl⟩
theorem dX7_lives_11 : dc cX7_lives 11 (.bipush 94) 2 13 := ⟨by decide +kernel, rfl⟩
theorem dX7_lives_13 : dc cX7_lives 13 (.iaload) 1 14 := ⟨by decide +kernel, rfl⟩
theorem dX7_lives_14 : dc cX7_lives 14 (.iload_n 1) 1 15 := ⟨by decide +kernel, rfl⟩
theorem dX7_lives_15 : dc cX7_lives 15 (.invokestatic 49) 3 18 := ⟨by decide +kernel, rfl⟩
theorem dX7_lives_18 : dc cX7_lives 18 (.ifCond .eq 7) 3 21 := ⟨by decide +kernel, rfl⟩
theorem dX7_lives_21 : dc cX7_lives 21 (.iconst 1) 1 22 := ⟨by decide +kernel, rfl⟩
theorem dX7_lives_22 : dc cX7_lives 22 (.goto 4) 3 25 := ⟨by decide +kernel, rfl⟩
theorem dX7_lives_25 : dc cX7_lives 25 (.iconst 0) 1 26 := ⟨by decide +kernel, rfl⟩
theorem dX7_lives_26 : dc cX7_lives 26 (.ireturn) 1 27 := ⟨by decide +kernel, rfl⟩
theorem dX7_birth_0 : dc cX7_birth 0 (.iload_n 1) 1 1 := ⟨by decide +kernel, rfl⟩
theorem dX7_birth_1 : dc cX7_birth 1 (.invokestatic 45) 3 4 := ⟨by decide +kernel, rfl⟩
theorem dX7_birth_4 : dc cX7_birth 4 (.ifCond .ne 5) 3 7 := ⟨by decide +kernel, rfl⟩
theorem dX7_birth_7 : dc cX7_birth 7 (.iconst (-1)) 1 8 := ⟨by decide +kernel, rfl⟩
theorem dX7_birth_8 : dc cX7_birth 8 (.ireturn) 1 9 := ⟨by decide +kernel, rfl⟩
theorem dX7_birth_9 : dc cX7_birth 9 (.iload_n 2) 1 10 := ⟨by decide +kernel, rfl⟩
theorem dX7_birth_10 : dc cX7_birth 10 (.iconst 0) 1 11 := ⟨by decide +kernel, rfl⟩
theorem dX7_birth_11 : dc cX7_birth 11 (.sipush 255) 3 14 := ⟨by decide +kernel, rfl⟩
theorem dX7_birth_14 : dc cX7_birth 14 (.invokestatic 41) 3 17 := ⟨by decide +kernel, rfl⟩
theorem dX7_birth_17 : dc cX7_birth 17 (.ifCond .eq 14) 3 20 := ⟨by decide +kernel, rfl⟩
theorem dX7_birth_20 : dc cX7_birth 20 (.iload_n 3) 1 21 := ⟨by decide +kernel, rfl⟩
theorem dX7_birth_21 : dc cX7_birth 21 (.iconst 0) 1 22 := ⟨by decide +kernel, rfl⟩
theorem dX7_birth_22 : dc cX7_birth 22 (.sipush 999) 3 25 := ⟨by decide +kernel, rfl⟩
theorem dX7_birth_25 : dc cX7_birth 25 (.invokestatic 41) 3 28 := ⟨by decide +kernel, rfl⟩
theorem dX7_birth_28 : dc cX7_birth 28 (.ifCond .ne 6) 3 31 := ⟨by decide +kernel, rfl⟩
theorem dX7_birth_31 : dc cX7_birth 31 (.bipush (-2)) 2 33 := ⟨by decide +kernel, rfl⟩
theorem dX7_birth_33 : dc cX7_birth 33 (.ireturn) 1 34 := ⟨by decide +kernel, rfl⟩
theorem dX7_birth_34 : dc cX7_birth 34 (.aload_n 0) 1 35 := ⟨by decide +kernel, rfl⟩
theorem dX7_birth_35 : dc cX7_birth 35 (.getfield 7) 3 38 := ⟨by decide +kernel, rfl⟩
theorem dX7_birth_38 : dc cX7_birth 38 (.bipush 94) 2 40 := ⟨by decide +kernel, rfl⟩
theorem dX7_birth_40 : dc cX7_birth 40 (.dup2) 1 41 := ⟨by decide +kernel, rfl⟩
theorem dX7_birth_41 : dc cX7_birth 41 (.iaload) 1 42 := ⟨by decide +kernel, rfl⟩
theorem dX7_birth_42 : dc cX7_birth 42 (.iconst 1) 1 43 := ⟨by decide +kernel, rfl⟩
theorem dX7_birth_43 : dc cX7_birth 43 (.iload_n 1) 1 44 := ⟨by decide +kernel, rfl⟩
theorem dX7_birth_44 : dc cX7_birth 44 (.ishl) 1 45 := ⟨by decide +kernel, rfl⟩
theorem dX7_birth_45 : dc cX7_birth 45 (.ior) 1 46 := ⟨by decide +kernel, rfl⟩
theorem dX7_birth_46 : dc cX7_birth 46 (.iastore) 1 47 := ⟨by decide +kernel, rfl⟩
theorem dX7_birth_47 : dc cX7_birth 47 (.aload_n 0) 1 48 := ⟨by decide +kernel, rfl⟩
theorem dX7_birth_48 : dc cX7_birth 48 (.getfield 7) 3 51 := ⟨by decide +kernel, rfl⟩
theorem dX7_birth_51 : dc cX7_birth 51 (.iload_n 1) 1 52 := ⟨by decide +kernel, rfl⟩
theorem dX7_birth_52 : dc cX7_birth 52 (.iload_n 2) 1 53 := ⟨by decide +kernel, rfl⟩
theorem dX7_birth_53 : dc cX7_birth 53 (.iastore) 1 54 := ⟨by decide +kernel, rfl⟩
theorem dX7_birth_54 : dc cX7_birth 54 (.aload_n 0) 1 55 := ⟨by decide +kernel, rfl⟩
theorem dX7_birth_55 : dc cX7_birth 55 (.getfield 7) 3 58 := ⟨by decide +kernel, rfl⟩
theorem dX7_birth_58 : dc cX7_birth 58 (.bipush 8) 2 60 := ⟨by decide +kernel, rfl⟩
theorem dX7_birth_60 : dc cX7_birth 60 (.iload_n 1) 1 61 := ⟨by decide +kernel, rfl⟩
theorem dX7_birth_61 : dc cX7_birth 61 (.iadd) 1 62 := ⟨by decide +kernel, rfl⟩
theorem dX7_birth_62 : dc cX7_birth 62 (.iload_n 3) 1 63 := ⟨by decide +kernel, rfl⟩
theorem dX7_birth_63 : dc cX7_birth 63 (.iastore) 1 64 := ⟨by decide +kernel, rfl⟩
theorem dX7_birth_64 : dc cX7_birth 64 (.aload_n 0) 1 65 := ⟨by decide +kernel, rfl⟩
theorem dX7_birth_65 : dc cX7_birth 65 (.getfield 7) 3 68 := ⟨by decide +kernel, rfl⟩
theorem dX7_birth_68 : dc cX7_birth 68 (.bipush 16) 2 70 := ⟨by decide +kernel, rfl⟩
theorem dX7_birth_70 : dc cX7_birth 70 (.iload_n 1) 1 71 := ⟨by decide +kernel, rfl⟩
theorem dX7_birth_71 : dc cX7_birth 71 (.iadd) 1 72 := ⟨by decide +kernel, rfl⟩
theorem dX7_birth_72 : dc cX7_birth 72 (.bipush (-6)) 2 74 := ⟨by decide +kernel, rfl⟩
theorem dX7_birth_74 : dc cX7_birth 74 (.iastore) 1 75 := ⟨by decide +kernel, rfl⟩
theorem dX7_birth_75 : dc cX7_birth 75 (.iconst 0) 1 76 := ⟨by decide +kernel, rfl⟩
theorem dX7_birth_76 : dc cX7_birth 76 (.istore 4) 2 78 := ⟨by decide +kernel, rfl⟩
theorem dX7_birth_78 : dc cX7_birth 78 (.iload 4) 2 80 := ⟨by decide +kernel, rfl⟩
theorem dX7_birth_80 : dc cX7_birth 80 (.bipush 8) 2 82 := ⟨by decide +kernel, rfl⟩
theorem dX7_birth_82 : dc cX7_birth 82 (.if_icmp .ge 41) 3 85 := ⟨by decide +kernel, rfl⟩
theorem dX7_birth_85 : dc cX7_birth 85 (.aload_n 0) 1 86 := ⟨by decide +kernel, rfl⟩
theorem dX7_birth_86 : dc cX7_birth 86 (.getfield 7) 3 89 := ⟨by decide +kernel, rfl⟩
theorem dX7_birth_89 : dc cX7_birth 89 (.bipush 24) 2 91 := ⟨by decide +kernel, rfl⟩
theorem dX7_birth_91 : dc cX7_birth 91 (.bipush 8) 2 93 := ⟨by decide +kernel, rfl⟩
theorem dX7_birth_93 : dc cX7_birth 93 (.iload_n 1) 1 94 := ⟨by decide +kernel, rfl⟩
theorem dX7_birth_94 : dc cX7_birth 94 (.imul) 1 95 := ⟨by decide +kernel, rfl⟩
theorem dX7_birth_95 : dc cX7_birth 95 (.iadd) 1 96 := ⟨by decide +kernel, rfl⟩
theorem dX7_birth_96 : dc cX7_birth 96 (.iload 4) 2 98 := ⟨by decide +kernel, rfl⟩
theorem dX7_birth_98 : dc cX7_birth 98 (.iadd) 1 99 := ⟨by decide +kernel, rfl⟩
theorem dX7_birth_99 : dc cX7_birth 99 (.iconst 0) 1 100 := ⟨by decide +kernel, rfl⟩
theorem dX7_birth_100 : dc cX7_birth 100 (.iastore) 1 101 := ⟨by decide +kernel, rfl⟩
theorem dX7_birth_101 : dc cX7_birth 101 (.aload_n 0) 1 102 := ⟨by decide +kernel, rfl⟩
theorem dX7_birth_102 : dc cX7_birth 102 (.getfield 7) 3 105 := ⟨by decide +kernel, rfl⟩
theorem dX7_birth_105 : dc cX7_birth 105 (.bipush 24) 2 107 := ⟨by decide +kernel, rfl⟩
theorem dX7_birth_107 : dc cX7_birth 107 (.bipush 8) 2 109 := ⟨by decide +kernel, rfl⟩
theorem dX7_birth_109 : dc cX7_birth 109 (.iload 4) 2 111 := ⟨by decide +kernel, rfl⟩
theorem dX7_birth_111 : dc cX7_birth 111 (.imul) 1 112 := ⟨by decide +kernel, rfl⟩
theorem dX7_birth_112 : dc cX7_birth 112 (.iadd) 1 113 := ⟨by decide +kernel, rfl⟩
theorem dX7_birth_113 : dc cX7_birth 113 (.iload_n 1) 1 114 := ⟨by decide +kernel, rfl⟩
theorem dX7_birth_114 : dc cX7_birth 114 (.iadd) 1 115 := ⟨by decide +kernel, rfl⟩
theorem dX7_birth_115 : dc cX7_birth 115 (.iconst 0) 1 116 := ⟨by decide +kernel, rfl⟩
theorem dX7_birth_116 : dc cX7_birth 116 (.iastore) 1 117 := ⟨by decide +kernel, rfl⟩
theorem dX7_birth_117 : dc cX7_birth 117 (.iinc 4 1) 3 120 := ⟨by decide +kernel, rfl⟩
theorem dX7_birth_120 : dc cX7_birth 120 (.goto (-42)) 3 123 := ⟨by decide +kernel, rfl⟩
theorem dX7_birth_123 : dc cX7_birth 123 (.aload_n 0) 1 124 := ⟨by decide +kernel, rfl⟩
theorem dX7_birth_124 : dc cX7_birth 124 (.getfield 7) 3 127 := ⟨by decide +kernel, rfl⟩
theorem dX7_birth_127 : dc cX7_birth 127 (.bipush 94) 2 129 := ⟨by decide +kernel, rfl⟩
theorem dX7_birth_129 : dc cX7_birth 129 (.iaload) 1 130 := ⟨by decide +kernel, rfl⟩
theorem dX7_birth_130 : dc cX7_birth 130 (.invokestatic 53) 3 133 := ⟨by decide +kernel, rfl⟩
theorem dX7_birth_133 : dc cX7_birth 133 (.ireturn) 1 134 := ⟨by decide +kernel, rfl⟩
theorem dX7_box_0 : dc cX7_box 0 (.iload_n 1) 1 1 := ⟨by decide +kernel, rfl⟩
theorem dX7_box_1 : dc cX7_box 1 (.invokestatic 57) 3 4 := ⟨by decide +kernel, rfl⟩
theorem dX7_box_4 : dc cX7_box 4 (.ifCond .ne 5) 3 7 := ⟨by decide +kernel, rfl⟩
theorem dX7_box_7 : dc cX7_box 7 (.iconst (-1)) 1 8 := ⟨by decide +kernel, rfl⟩
theorem dX7_box_8 : dc cX7_box 8 (.ireturn) 1 9 := ⟨by decide +kernel, rfl⟩
theorem dX7_box_9 : dc cX7_box 9 (.iload_n 2) 1 10 := ⟨by decide +kernel, rfl⟩
theorem dX7_box_10 : dc cX7_box 10 (.iconst 0) 1 11 := ⟨by decide +kernel, rfl⟩
theorem dX7_box_11 : dc cX7_box 11 (.sipush 255) 3 14 := ⟨by decide +kernel, rfl⟩
theorem dX7_box_14 : dc cX7_box 14 (.invokestatic 41) 3 17 := ⟨by decide +kernel, rfl⟩
theorem dX7_box_17 : dc cX7_box 17 (.ifCond .eq 25) 3 20 := ⟨by decide +kernel, rfl⟩
theorem dX7_box_20 : dc cX7_box 20 (.iload_n 3) 1 21 := ⟨by decide +kernel, rfl⟩
theorem dX7_box_21 : dc cX7_box 21 (.iconst 0) 1 22 := ⟨by decide +kernel, rfl⟩
theorem dX7_box_22 : dc cX7_box 22 (.bipush 8) 2 24 := ⟨by decide +kernel, rfl⟩
theorem dX7_box_24 : dc cX7_box 24 (.invokestatic 41) 3 27 := ⟨by decide +kernel, rfl⟩
theorem dX7_box_27 : dc cX7_box 27 (.ifCond .eq 15) 3 30 := ⟨by decide +kernel, rfl⟩
theorem dX7_box_30 : dc cX7_box 30 (.iload 4) 2 32 := ⟨by decide +kernel, rfl⟩
theorem dX7_box_32 : dc cX7_box 32 (.iconst 0) 1 33 := ⟨by decide +kernel, rfl⟩
theorem dX7_box_33 : dc cX7_box 33 (.sipush 999) 3 36 := ⟨by decide +kernel, rfl⟩
theorem dX7_box_36 : dc cX7_box 36 (.invokestatic 41) 3 39 := ⟨by decide +kernel, rfl⟩
theorem dX7_box_39 : dc cX7_box 39 (.ifCond .ne 6) 3 42 := ⟨by decide +kernel, rfl⟩
theorem dX7_box_42 : dc cX7_box 42 (.bipush (-2)) 2 44 := ⟨by decide +kernel, rfl⟩
theorem dX7_box_44 : dc cX7_box 44 (.ireturn) 1 45 := ⟨by decide +kernel, rfl⟩
theorem dX7_box_45 : dc cX7_box 45 (.aload_n 0) 1 46 := ⟨by decide +kernel, rfl⟩
theorem dX7_box_46 : dc cX7_box 46 (.getfield 7) 3 49 := ⟨by decide +kernel, rfl⟩
theorem dX7_box_49 : dc cX7_box 49 (.bipush 88) 2 51 := ⟨by decide +kernel, rfl⟩
theorem dX7_box_51 : dc cX7_box 51 (.iload_n 1) 1 52 := ⟨by decide +kernel, rfl⟩
theorem dX7_box_52 : dc cX7_box 52 (.iadd) 1 53 := ⟨by decide +kernel, rfl⟩
theorem dX7_box_53 : dc cX7_box 53 (.iaload) 1 54 := ⟨by decide +kernel, rfl⟩
theorem dX7_box_54 : dc cX7_box 54 (.istore 5) 2 56 := ⟨by decide +kernel, rfl⟩
theorem dX7_box_56 : dc cX7_box 56 (.aload_n 0) 1 57 := ⟨by decide +kernel, rfl⟩
theorem dX7_box_57 : dc cX7_box 57 (.getfield 16) 3 60 := ⟨by decide +kernel, rfl⟩
theorem dX7_box_60 : dc cX7_box 60 (.iload_n 1) 1 61 := ⟨by decide +kernel, rfl⟩
theorem dX7_box_61 : dc cX7_box 61 (.iload_n 2) 1 62 := ⟨by decide +kernel, rfl⟩
theorem dX7_box_62 : dc cX7_box 62 (.iastore) 1 63 := ⟨by decide +kernel, rfl⟩
theorem dX7_box_63 : dc cX7_box 63 (.aload_n 0) 1 64 := ⟨by decide +kernel, rfl⟩
theorem dX7_box_64 : dc cX7_box 64 (.getfield 19) 3 67 := ⟨by decide +kernel, rfl⟩
theorem dX7_box_67 : dc cX7_box 67 (.iload_n 1) 1 68 := ⟨by decide +kernel, rfl⟩
theorem dX7_box_68 : dc cX7_box 68 (.iload_n 3) 1 69 := ⟨by decide +kernel, rfl⟩
theorem dX7_box_69 : dc cX7_box 69 (.iastore) 1 70 := ⟨by decide +kernel, rfl⟩
theorem dX7_box_70 : dc cX7_box 70 (.aload_n 0) 1 71 := ⟨by decide +kernel, rfl⟩
theorem dX7_box_71 : dc cX7_box 71 (.getfield 7) 3 74 := ⟨by decide +kernel, rfl⟩
theorem dX7_box_74 : dc cX7_box 74 (.bipush 88) 2 76 := ⟨by decide +kernel, rfl⟩
theorem dX7_box_76 : dc cX7_box 76 (.iload_n 1) 1 77 := ⟨by decide +kernel, rfl⟩
theorem dX7_box_77 : dc cX7_box 77 (.iadd) 1 78 := ⟨by decide +kernel, rfl⟩
theorem dX7_box_78 : dc cX7_box 78 (.iload 4) 2 80 := ⟨by decide +kernel, rfl⟩
theorem dX7_box_80 : dc cX7_box 80 (.iastore) 1 81 := ⟨by decide +kernel, rfl⟩
theorem dX7_box_81 : dc cX7_box 81 (.iload 5) 2 83 := ⟨by decide +kernel, rfl⟩
theorem dX7_box_83 : dc cX7_box 83 (.ireturn) 1 84 := ⟨by decide +kernel, rfl⟩
theorem dX7_say_0 : dc cX7_say 0 (.iload_n 1) 1 1 := ⟨by decide +kernel, rfl⟩
theorem dX7_say_1 : dc cX7_say 1 (.bipush 33) 2 3 := ⟨by decide +kernel, rfl⟩
theorem dX7_say_3 : dc cX7_say 3 (.bipush 126) 2 5 := ⟨by decide +kernel, rfl⟩
theorem dX7_say_5 : dc cX7_say 5 (.invokestatic 41) 3 8 := ⟨by decide +kernel, rfl⟩
theorem dX7_say_8 : dc cX7_say 8 (.ifCond .ne 6) 3 11 := ⟨by decide +kernel, rfl⟩
theorem dX7_say_11 : dc cX7_say 11 (.bipush (-2)) 2 13 := ⟨by decide +kernel, rfl⟩
theorem dX7_say_13 : dc cX7_say 13 (.ireturn) 1 14 := ⟨by decide +kernel, rfl⟩
theorem dX7_say_14 : dc cX7_say 14 (.aload_n 0) 1 15 := ⟨by decide +kernel, rfl⟩
theorem dX7_say_15 : dc cX7_say 15 (.getfield 60) 3 18 := ⟨by decide +kernel, rfl⟩
theorem dX7_say_18 : dc cX7_say 18 (.bipush 60) 2 20 := ⟨by decide +kernel, rfl⟩
theorem dX7_say_20 : dc cX7_say 20 (.if_icmp .ne 6) 3 23 := ⟨by decide +kernel, rfl⟩
theorem dX7_say_23 : dc cX7_say 23 (.bipush (-4)) 2 25 := ⟨by decide +kernel, rfl⟩
theorem dX7_say_25 : dc cX7_say 25 (.ireturn) 1 26 := ⟨by decide +kernel, rfl⟩
theorem dX7_say_26 : dc cX7_say 26 (.aload_n 0) 1 27 := ⟨by decide +kernel, rfl⟩
theorem dX7_say_27 : dc cX7_say 27 (.getfield 25) 3 30 := ⟨by decide +kernel, rfl⟩
theorem dX7_say_30 : dc cX7_say 30 (.aload_n 0) 1 31 := ⟨by decide +kernel, rfl⟩
theorem dX7_say_31 : dc cX7_say 31 (.getfield 60) 3 34 := ⟨by decide +kernel, rfl⟩
theorem dX7_say_34 : dc cX7_say 34 (.iload_n 1) 1 35 := ⟨by decide +kernel, rfl⟩
theorem dX7_say_35 : dc cX7_say 35 (.iastore) 1 36 := ⟨by decide +kernel, rfl⟩
theorem dX7_say_36 : dc cX7_say 36 (.aload_n 0) 1 37 := ⟨by decide +kernel, rfl⟩
theorem dX7_say_37 : dc cX7_say 37 (.dup) 1 38 := ⟨by decide +kernel, rfl⟩
theorem dX7_say_38 : dc cX7_say 38 (.getfield 60) 3 41 := ⟨by decide +kernel, rfl⟩
theorem dX7_say_41 : dc cX7_say 41 (.iconst 1) 1 42 := ⟨by decide +kernel, rfl⟩
theorem dX7_say_42 : dc cX7_say 42 (.iadd) 1 43 := ⟨by decide +kernel, rfl⟩
theorem dX7_say_43 : dc cX7_say 43 (.putfield 60) 3 46 := ⟨by decide +kernel, rfl⟩
theorem dX7_say_46 : dc cX7_say 46 (.aload_n 0) 1 47 := ⟨by decide +kernel, rfl⟩
theorem dX7_say_47 : dc cX7_say 47 (.getfield 60) 3 50 := ⟨by decide +kernel, rfl⟩
theorem dX7_say_50 : dc cX7_say 50 (.ireturn) 1 51 := ⟨by decide +kernel, rfl⟩
theorem dX7_wipe_0 : dc cX7_wipe 0 (.aload_n 0) 1 1 := ⟨by decide +kernel, rfl⟩
theorem dX7_wipe_1 : dc cX7_wipe 1 (.getfield 60) 3 4 := ⟨by decide +kernel, rfl⟩
theorem dX7_wipe_4 : dc cX7_wipe 4 (.istore_n 1) 1 5 := ⟨by decide +kernel, rfl⟩
theorem dX7_wipe_5 : dc cX7_wipe 5 (.aload_n 0) 1 6 := ⟨by decide +kernel, rfl⟩
theorem dX7_wipe_6 : dc cX7_wipe 6 (.iconst 0) 1 7 := ⟨by decide +kernel, rfl⟩
theorem dX7_wipe_7 : dc cX7_wipe 7 (.putfield 60) 3 10 := ⟨by decide +kernel, rfl⟩
theorem dX7_wipe_10 : dc cX7_wipe 10 (.iload_n 1) 1 11 := ⟨by decide +kernel, rfl⟩
theorem dX7_wipe_11 : dc cX7_wipe 11 (.ireturn) 1 12 := ⟨by decide +kernel, rfl⟩
theorem dX7_isLetter_0 : dc cX7_isLetter 0 (.iload_n 0) 1 1 := ⟨by decide +kernel, rfl⟩
theorem dX7_isLetter_1 : dc cX7_isLetter 1 (.bipush 65) 2 3 := ⟨by decide +kernel, rfl⟩
theorem dX7_isLetter_3 : dc cX7_isLetter 3 (.bipush 72) 2 5 := ⟨by decide +kernel, rfl⟩
theorem dX7_isLetter_5 : dc cX7_isLetter 5 (.invokestatic 41) 3 8 := ⟨by decide +kernel, rfl⟩
theorem dX7_isLetter_8 : dc cX7_isLetter 8 (.ireturn) 1 9 := ⟨by decide +kernel, rfl⟩
theorem dX7_faultOf_0 : dc cX7_faultOf 0 (.iconst 0) 1 1 := ⟨by decide +kernel, rfl⟩
theorem dX7_faultOf_1 : dc cX7_faultOf 1 (.istore_n 1) 1 2 := ⟨by decide +kernel, rfl⟩
theorem dX7_faultOf_2 : dc cX7_faultOf 2 (.iconst 0) 1 3 := ⟨by decide +kernel, rfl⟩
theorem dX7_faultOf_3 : dc cX7_faultOf 3 (.istore_n 2) 1 4 := ⟨by decide +kernel, rfl⟩
theorem dX7_faultOf_4 : dc cX7_faultOf 4 (.iload_n 2) 1 5 := ⟨by decide +kernel, rfl⟩
theorem dX7_faultOf_5 : dc cX7_faultOf 5 (.aload_n 0) 1 6 := ⟨by decide +kernel, rfl⟩
theorem dX7_faultOf_6 : dc cX7_faultOf 6 (.getfield 60) 3 9 := ⟨by decide +kernel, rfl⟩
theorem dX7_faultOf_9 : dc cX7_faultOf 9 (.if_icmp .ge 164) 3 12 := ⟨by decide +kernel, rfl⟩
theorem dX7_faultOf_12 : dc cX7_faultOf 12 (.aload_n 0) 1 13 := ⟨by decide +kernel, rfl⟩
theorem dX7_faultOf_13 : dc cX7_faultOf 13 (.getfield 25) 3 16 := ⟨by decide +kernel, rfl⟩
theorem dX7_faultOf_16 : dc cX7_faultOf 16 (.iload_n 2) 1 17 := ⟨by decide +kernel, rfl⟩
theorem dX7_faultOf_17 : dc cX7_faultOf 17 (.iaload) 1 18 := ⟨by decide +kernel, rfl⟩
theorem dX7_faultOf_18 : dc cX7_faultOf 18 (.istore_n 3) 1 19 := ⟨by decide +kernel, rfl⟩
theorem dX7_faultOf_19 : dc cX7_faultOf 19 (.iload_n 1) 1 20 := ⟨by decide +kernel, rfl⟩
theorem dX7_faultOf_20 : dc cX7_faultOf 20 (.ifCond .ne 24) 3 23 := ⟨by decide +kernel, rfl⟩
theorem dX7_faultOf_23 : dc cX7_faultOf 23 (.iload_n 3) 1 24 := ⟨by decide +kernel, rfl⟩
theorem dX7_faultOf_24 : dc cX7_faultOf 24 (.invokestatic 64) 3 27 := ⟨by decide +kernel, rfl⟩
theorem dX7_faultOf_27 : dc cX7_faultOf 27 (.ifCond .ne 9) 3 30 := ⟨by decide +kernel, rfl⟩
theorem dX7_faultOf_30 : dc cX7_faultOf 30 (.iload_n 3) 1 31 := ⟨by decide +kernel, rfl⟩
theorem dX7_faultOf_31 : dc cX7_faultOf 31 (.bipush 46) 2 33 := ⟨by decide +kernel, rfl⟩
theorem dX7_faultOf_33 : dc cX7_faultOf 33 (.if_icmp .ne 7) 3 36 := ⟨by decide +kernel, rfl⟩
theorem dX7_faultOf_36 : dc cX7_faultOf 36 (.iconst 1) 1 37 := ⟨by decide +kernel, rfl⟩
theorem dX7_faultOf_37 : dc cX7_faultOf 37 (.goto 63) 3 40 := ⟨by decide +kernel, rfl⟩
theorem dX7_faultOf_40 : dc cX7_faultOf 40 (.iconst 0) 1 41 := ⟨by decide +kernel, rfl⟩
theorem dX7_faultOf_41 : dc cX7_faultOf 41 (.goto 59) 3 44 := ⟨by decide +kernel, rfl⟩
theorem dX7_faultOf_44 : dc cX7_faultOf 44 (.iload_n 1) 1 45 := ⟨by decide +kernel, rfl⟩
theorem dX7_faultOf_45 : dc cX7_faultOf 45 (.iconst 1) 1 46 := ⟨by decide +kernel, rfl⟩
theorem dX7_faultOf_46 : dc cX7_faultOf 46 (.if_icmp .ne 34) 3 49 := ⟨by decide +kernel, rfl⟩
theorem dX7_faultOf_49 : dc cX7_faultOf 49 (.iload_n 3) 1 50 := ⟨by decide +kernel, rfl⟩
theorem dX7_faultOf_50 : dc cX7_faultOf 50 (.bipush 48) 2 52 := ⟨by decide +kernel, rfl⟩
theorem dX7_faultOf_52 : dc cX7_faultOf 52 (.bipush 53) 2 54 := ⟨by decide +kernel, rfl⟩
theorem dX7_faultOf_54 : dc cX7_faultOf 54 (.invokestatic 41) 3 57 := ⟨by decide +kernel, rfl⟩
theorem dX7_faultOf_57 : dc cX7_faultOf 57 (.ifCond .ne 15) 3 60 := ⟨by decide +kernel, rfl⟩
theorem dX7_faultOf_60 : dc cX7_faultOf 60 (.iload_n 3) 1 61 := ⟨by decide +kernel, rfl⟩
theorem dX7_faultOf_61 : dc cX7_faultOf 61 (.bipush 62) 2 63 := ⟨by decide +kernel, rfl⟩
theorem dX7_faultOf_63 : dc cX7_faultOf 63 (.if_icmp .eq 9) 3 66 := ⟨by decide +kernel, rfl⟩
theorem dX7_faultOf_66 : dc cX7_faultOf 66 (.iload_n 3) 1 67 := ⟨by decide +kernel, rfl⟩
theorem dX7_faultOf_67 : dc cX7_faultOf 67 (.bipush 61) 2 69 := ⟨by decide +kernel, rfl⟩
theorem dX7_faultOf_69 : dc cX7_faultOf 69 (.if_icmp .ne 7) 3 72 := ⟨by decide +kernel, rfl⟩
theorem dX7_faultOf_72 : dc cX7_faultOf 72 (.iconst 1) 1 73 := ⟨by decide +kernel, rfl⟩
theorem dX7_faultOf_73 : dc cX7_faultOf 73 (.goto 27) 3 76 := ⟨by decide +kernel, rfl⟩
theorem dX7_faultOf_76 : dc cX7_faultOf 76 (.iconst 0) 1 77 := ⟨by decide +kernel, rfl⟩
theorem dX7_faultOf_77 : dc cX7_faultOf 77 (.goto 23) 3 80 := ⟨by decide +kernel, rfl⟩
theorem dX7_faultOf_80 : dc cX7_faultOf 80 (.iload_n 1) 1 81 := ⟨by decide +kernel, rfl⟩
theorem dX7_faultOf_81 : dc cX7_faultOf 81 (.iconst 2) 1 82 := ⟨by decide +kernel, rfl⟩
theorem dX7_faultOf_82 : dc cX7_faultOf 82 (.if_icmp .ne 10) 3 85 := ⟨by decide +kernel, rfl⟩
theorem dX7_faultOf_85 : dc cX7_faultOf 85 (.iload_n 3) 1 86 := ⟨by decide +kernel, rfl⟩
theorem dX7_faultOf_86 : dc cX7_faultOf 86 (.invokestatic 64) 3 89 := ⟨by decide +kernel, rfl⟩
theorem dX7_faultOf_89 : dc cX7_faultOf 89 (.goto 11) 3 92 := ⟨by decide +kernel, rfl⟩
theorem dX7_faultOf_92 : dc cX7_faultOf 92 (.iload_n 3) 1 93 := ⟨by decide +kernel, rfl⟩
theorem dX7_faultOf_93 : dc cX7_faultOf 93 (.bipush 49) 2 95 := ⟨by decide +kernel, rfl⟩
theorem dX7_faultOf_95 : dc cX7_faultOf 95 (.bipush 57) 2 97 := ⟨by decide +kernel, rfl⟩
theorem dX7_faultOf_97 : dc cX7_faultOf 97 (.invokestatic 41) 3 100 := ⟨by decide +kernel, rfl⟩
theorem dX7_faultOf_100 : dc cX7_faultOf 100 (.istore 4) 2 102 := ⟨by decide +kernel, rfl⟩
theorem dX7_faultOf_102 : dc cX7_faultOf 102 (.iload 4) 2 104 := ⟨by decide +kernel, rfl⟩
theorem dX7_faultOf_104 : dc cX7_faultOf 104 (.ifCond .ne 5) 3 107 := ⟨by decide +kernel, rfl⟩
theorem dX7_faultOf_107 : dc cX7_faultOf 107 (.iload_n 2) 1 108 := ⟨by decide +kernel, rfl⟩
theorem dX7_faultOf_108 : dc cX7_faultOf 108 (.ireturn) 1 109 := ⟨by decide +kernel, rfl⟩
theorem dX7_faultOf_109 : dc cX7_faultOf 109 (.iload_n 1) 1 110 := ⟨by decide +kernel, rfl⟩
theorem dX7_faultOf_110 : dc cX7_faultOf 110 (.ifCond .ne 17) 3 113 := ⟨by decide +kernel, rfl⟩
theorem dX7_faultOf_113 : dc cX7_faultOf 113 (.iload_n 3) 1 114 := ⟨by decide +kernel, rfl⟩
theorem dX7_faultOf_114 : dc cX7_faultOf 114 (.bipush 46) 2 116 := ⟨by decide +kernel, rfl⟩
theorem dX7_faultOf_116 : dc cX7_faultOf 116 (.if_icmp .ne 7) 3 119 := ⟨by decide +kernel, rfl⟩
theorem dX7_faultOf_119 : dc cX7_faultOf 119 (.iconst 0) 1 120 := ⟨by decide +kernel, rfl⟩
theorem dX7_faultOf_120 : dc cX7_faultOf 120 (.goto 46) 3 123 := ⟨by decide +kernel, rfl⟩
theorem dX7_faultOf_123 : dc cX7_faultOf 123 (.iconst 1) 1 124 := ⟨by decide +kernel, rfl⟩
theorem dX7_faultOf_124 : dc cX7_faultOf 124 (.goto 42) 3 127 := ⟨by decide +kernel, rfl⟩
theorem dX7_faultOf_127 : dc cX7_faultOf 127 (.iload_n 1) 1 128 := ⟨by decide +kernel, rfl⟩
theorem dX7_faultOf_128 : dc cX7_faultOf 128 (.iconst 1) 1 129 := ⟨by decide +kernel, rfl⟩
theorem dX7_faultOf_129 : dc cX7_faultOf 129 (.if_icmp .ne 27) 3 132 := ⟨by decide +kernel, rfl⟩
theorem dX7_faultOf_132 : dc cX7_faultOf 132 (.iload_n 3) 1 133 := ⟨by decide +kernel, rfl⟩
theorem dX7_faultOf_133 : dc cX7_faultOf 133 (.bipush 62) 2 135 := ⟨by decide +kernel, rfl⟩
theorem dX7_faultOf_135 : dc cX7_faultOf 135 (.if_icmp .ne 7) 3 138 := ⟨by decide +kernel, rfl⟩
theorem dX7_faultOf_138 : dc cX7_faultOf 138 (.iconst 2) 1 139 := ⟨by decide +kernel, rfl⟩
theorem dX7_faultOf_139 : dc cX7_faultOf 139 (.goto 27) 3 142 := ⟨by decide +kernel, rfl⟩
theorem dX7_faultOf_142 : dc cX7_faultOf 142 (.iload_n 3) 1 143 := ⟨by decide +kernel, rfl⟩
theorem dX7_faultOf_143 : dc cX7_faultOf 143 (.bipush 61) 2 145 := ⟨by decide +kernel, rfl⟩
theorem dX7_faultOf_145 : dc cX7_faultOf 145 (.if_icmp .ne 7) 3 148 := ⟨by decide +kernel, rfl⟩
theorem dX7_faultOf_148 : dc cX7_faultOf 148 (.iconst 3) 1 149 := ⟨by decide +kernel, rfl⟩
theorem dX7_faultOf_149 : dc cX7_faultOf 149 (.goto 17) 3 152 := ⟨by decide +kernel, rfl⟩
theorem dX7_faultOf_152 : dc cX7_faultOf 152 (.iconst 0) 1 153 := ⟨by decide +kernel, rfl⟩
theorem dX7_faultOf_153 : dc cX7_faultOf 153 (.goto 13) 3 156 := ⟨by decide +kernel, rfl⟩
theorem dX7_faultOf_156 : dc cX7_faultOf 156 (.iload_n 1) 1 157 := ⟨by decide +kernel, rfl⟩
theorem dX7_faultOf_157 : dc cX7_faultOf 157 (.iconst 3) 1 158 := ⟨by decide +kernel, rfl⟩
theorem dX7_faultOf_158 : dc cX7_faultOf 158 (.if_icmp .ne 7) 3 161 := ⟨by decide +kernel, rfl⟩
theorem dX7_faultOf_161 : dc cX7_faultOf 161 (.iconst 2) 1 162 := ⟨by decide +kernel, rfl⟩
theorem dX7_faultOf_162 : dc cX7_faultOf 162 (.goto 4) 3 165 := ⟨by decide +kernel, rfl⟩
theorem dX7_faultOf_165 : dc cX7_faultOf 165 (.iconst 0) 1 166 := ⟨by decide +kernel, rfl⟩
theorem dX7_faultOf_166 : dc cX7_faultOf 166 (.istore_n 1) 1 167 := ⟨by decide +kernel, rfl⟩
theorem dX7_faultOf_167 : dc cX7_faultOf 167 (.iinc 2 1) 3 170 := ⟨by decide +kernel, rfl⟩
theorem dX7_faultOf_170 : dc cX7_faultOf 170 (.goto (-166)) 3 173 := ⟨by decide +kernel, rfl⟩
theorem dX7_faultOf_173 : dc cX7_faultOf 173 (.iload_n 1) 1 174 := ⟨by decide +kernel, rfl⟩
theorem dX7_faultOf_174 : dc cX7_faultOf 174 (.ifCond .ne 8) 3 177 := ⟨by decide +kernel, rfl⟩
theorem dX7_faultOf_177 : dc cX7_faultOf 177 (.bipush (-6)) 2 179 := ⟨by decide +kernel, rfl⟩
theorem dX7_faultOf_179 : dc cX7_faultOf 179 (.goto 7) 3 182 := ⟨by decide +kernel, rfl⟩
theorem dX7_faultOf_182 : dc cX7_faultOf 182 (.aload_n 0) 1 183 := ⟨by decide +kernel, rfl⟩
theorem dX7_faultOf_183 : dc cX7_faultOf 183 (.getfield 60) 3 186 := ⟨by decide +kernel, rfl⟩
theorem dX7_faultOf_186 : dc cX7_faultOf 186 (.ireturn) 1 187 := ⟨by decide +kernel, rfl⟩
theorem dX7_fault_0 : dc cX7_fault 0 (.aload_n 0) 1 1 := ⟨by decide +kernel, rfl⟩
theorem dX7_fault_1 : dc cX7_fault 1 (.invokevirtual 67) 3 4 := ⟨by decide +kernel, rfl⟩
theorem dX7_fault_4 : dc cX7_fault 4 (.ireturn) 1 5 := ⟨by decide +kernel, rfl⟩
theorem dX7_asNow_0 : dc cX7_asNow 0 (.iconst 0) 1 1 := ⟨by decide +kernel, rfl⟩
theorem dX7_asNow_1 : dc cX7_asNow 1 (.istore_n 1) 1 2 := ⟨by decide +kernel, rfl⟩
theorem dX7_asNow_2 : dc cX7_asNow 2 (.iload_n 1) 1 3 := ⟨by decide +kernel, rfl⟩
theorem dX7_asNow_3 : dc cX7_asNow 3 (.bipush 96) 2 5 := ⟨by decide +kernel, rfl⟩
theorem dX7_asNow_5 : dc cX7_asNow 5 (.if_icmp .ge 21) 3 8 := ⟨by decide +kernel, rfl⟩
theorem dX7_asNow_8 : dc cX7_asNow 8 (.aload_n 0) 1 9 := ⟨by decide +kernel, rfl⟩
theorem dX7_asNow_9 : dc cX7_asNow 9 (.getfield 13) 3 12 := ⟨by decide +kernel, rfl⟩
theorem dX7_asNow_12 : dc cX7_asNow 12 (.iload_n 1) 1 13 := ⟨by decide +kernel, rfl⟩
theorem dX7_asNow_13 : dc cX7_asNow 13 (.aload_n 0) 1 14 := ⟨by decide +kernel, rfl⟩
theorem dX7_asNow_14 : dc cX7_asNow 14 (.getfield 7) 3 17 := ⟨by decide +kernel, rfl⟩
theorem dX7_asNow_17 : dc cX7_asNow 17 (.iload_n 1) 1 18 := ⟨by decide +kernel, rfl⟩
theorem dX7_asNow_18 : dc cX7_asNow 18 (.iaload) 1 19 := ⟨by decide +kernel, rfl⟩
theorem dX7_asNow_19 : dc cX7_asNow 19 (.iastore) 1 20 := ⟨by decide +kernel, rfl⟩
theorem dX7_asNow_20 : dc cX7_asNow 20 (.iinc 1 1) 3 23 := ⟨by decide +kernel, rfl⟩
theorem dX7_asNow_23 : dc cX7_asNow 23 (.goto (-21)) 3 26 := ⟨by decide +kernel, rfl⟩
theorem dX7_asNow_26 : dc cX7_asNow 26 (.aload_n 0) 1 27 := ⟨by decide +kernel, rfl⟩
theorem dX7_asNow_27 : dc cX7_asNow 27 (.iconst 0) 1 28 := ⟨by decide +kernel, rfl⟩
theorem dX7_asNow_28 : dc cX7_asNow 28 (.putfield 71) 3 31 := ⟨by decide +kernel, rfl⟩
theorem dX7_asNow_31 : dc cX7_asNow 31 (.aload_n 0) 1 32 := ⟨by decide +kernel, rfl⟩
theorem dX7_asNow_32 : dc cX7_asNow 32 (.bipush (-6)) 2 34 := ⟨by decide +kernel, rfl⟩
theorem dX7_asNow_34 : dc cX7_asNow 34 (.putfield 74) 3 37 := ⟨by decide +kernel, rfl⟩
theorem dX7_asNow_37 : dc cX7_asNow 37 (.return_) 1 38 := ⟨by decide +kernel, rfl⟩
theorem dX7_doesOpen_0 : dc cX7_doesOpen 0 (.iload_n 2) 1 1 := ⟨by decide +kernel, rfl⟩
theorem dX7_doesOpen_1 : dc cX7_doesOpen 1 (.aload_n 0) 1 2 := ⟨by decide +kernel, rfl⟩
theorem dX7_doesOpen_2 : dc cX7_doesOpen 2 (.getfield 16) 3 5 := ⟨by decide +kernel, rfl⟩
theorem dX7_doesOpen_5 : dc cX7_doesOpen 5 (.iload_n 1) 1 6 := ⟨by decide +kernel, rfl⟩
theorem dX7_doesOpen_6 : dc cX7_doesOpen 6 (.iaload) 1 7 := ⟨by decide +kernel, rfl⟩
theorem dX7_doesOpen_7 : dc cX7_doesOpen 7 (.iand) 1 8 := ⟨by decide +kernel, rfl⟩
theorem dX7_doesOpen_8 : dc cX7_doesOpen 8 (.invokestatic 53) 3 11 := ⟨by decide +kernel, rfl⟩
theorem dX7_doesOpen_11 : dc cX7_doesOpen 11 (.aload_n 0) 1 12 := ⟨by decide +kernel, rfl⟩
theorem dX7_doesOpen_12 : dc cX7_doesOpen 12 (.getfield 19) 3 15 := ⟨by decide +kernel, rfl⟩
theorem dX7_doesOpen_15 : dc cX7_doesOpen 15 (.iload_n 1) 1 16 := ⟨by decide +kernel, rfl⟩
theorem dX7_doesOpen_16 : dc cX7_doesOpen 16 (.iaload) 1 17 := ⟨by decide +kernel, rfl⟩
theorem dX7_doesOpen_17 : dc cX7_doesOpen 17 (.if_icmp .lt 7) 3 20 := ⟨by decide +kernel, rfl⟩
theorem dX7_doesOpen_20 : dc cX7_doesOpen 20 (.iconst 1) 1 21 := ⟨by decide +kernel, rfl⟩
theorem dX7_doesOpen_21 : dc cX7_doesOpen 21 (.goto 4) 3 24 := ⟨by decide +kernel, rfl⟩
theorem dX7_doesOpen_24 : dc cX7_doesOpen 24 (.iconst 0) 1 25 := ⟨by decide +kernel, rfl⟩
theorem dX7_doesOpen_25 : dc cX7_doesOpen 25 (.ireturn) 1 26 := ⟨by decide +kernel, rfl⟩
theorem dX7_gets_0 : dc cX7_gets 0 (.aload_n 0) 1 1 := ⟨by decide +kernel, rfl⟩
theorem dX7_gets_1 : dc cX7_gets 1 (.getfield 13) 3 4 := ⟨by decide +kernel, rfl⟩
theorem dX7_gets_4 : dc cX7_gets 4 (.bipush 8) 2 6 := ⟨by decide +kernel, rfl⟩
theorem dX7_gets_6 : dc cX7_gets 6 (.iload_n 1) 1 7 := ⟨by decide +kernel, rfl⟩
theorem dX7_gets_7 : dc cX7_gets 7 (.iadd) 1 8 := ⟨by decide +kernel, rfl⟩
theorem dX7_gets_8 : dc cX7_gets 8 (.aload_n 0) 1 9 := ⟨by decide +kernel, rfl⟩
theorem dX7_gets_9 : dc cX7_gets 9 (.getfield 13) 3 12 := ⟨by decide +kernel, rfl⟩
theorem dX7_gets_12 : dc cX7_gets 12 (.bipush 8) 2 14 := ⟨by decide +kernel, rfl⟩
theorem dX7_gets_14 : dc cX7_gets 14 (.iload_n 1) 1 15 := ⟨by decide +kernel, rfl⟩
theorem dX7_gets_15 : dc cX7_gets 15 (.iadd) 1 16 := ⟨by decide +kernel, rfl⟩
theorem dX7_gets_16 : dc cX7_gets 16 (.iaload) 1 17 := ⟨by decide +kernel, rfl⟩
theorem dX7_gets_17 : dc cX7_gets 17 (.iload_n 2) 1 18 := ⟨by decide +kernel, rfl⟩
theorem dX7_gets_18 : dc cX7_gets 18 (.iadd) 1 19 := ⟨by decide +kernel, rfl⟩
theorem dX7_gets_19 : dc cX7_gets 19 (.sipush 999) 3 22 := ⟨by decide +kernel, rfl⟩
theorem dX7_gets_22 : dc cX7_gets 22 (.if_icmp .le 9) 3 25 := ⟨by decide +kernel, rfl⟩
theorem dX7_gets_25 : dc cX7_gets 25 (.sipush 999) 3 28 := ⟨by decide +kernel, rfl⟩
theorem dX7_gets_28 : dc cX7_gets 28 (.goto 14) 3 31 := ⟨by decide +kernel, rfl⟩
theorem dX7_gets_31 : dc cX7_gets 31 (.aload_n 0) 1 32 := ⟨by decide +kernel, rfl⟩
theorem dX7_gets_32 : dc cX7_gets 32 (.getfield 13) 3 35 := ⟨by decide +kernel, rfl⟩
theorem dX7_gets_35 : dc cX7_gets 35 (.bipush 8) 2 37 := ⟨by decide +kernel, rfl⟩
theorem dX7_gets_37 : dc cX7_gets 37 (.iload_n 1) 1 38 := ⟨by decide +kernel, rfl⟩
theorem dX7_gets_38 : dc cX7_gets 38 (.iadd) 1 39 := ⟨by decide +kernel, rfl⟩
theorem dX7_gets_39 : dc cX7_gets 39 (.iaload) 1 40 := ⟨by decide +kernel, rfl⟩
theorem dX7_gets_40 : dc cX7_gets 40 (.iload_n 2) 1 41 := ⟨by decide +kernel, rfl⟩
theorem dX7_gets_41 : dc cX7_gets 41 (.iadd) 1 42 := ⟨by decide +kernel, rfl⟩
theorem dX7_gets_42 : dc cX7_gets 42 (.iastore) 1 43 := ⟨by decide +kernel, rfl⟩
theorem dX7_gets_43 : dc cX7_gets 43 (.return_) 1 44 := ⟨by decide +kernel, rfl⟩
theorem dX7_tries_0 : dc cX7_tries 0 (.aload_n 0) 1 1 := ⟨by decide +kernel, rfl⟩
theorem dX7_tries_1 : dc cX7_tries 1 (.getfield 13) 3 4 := ⟨by decide +kernel, rfl⟩
theorem dX7_tries_4 : dc cX7_tries 4 (.bipush 94) 2 6 := ⟨by decide +kernel, rfl⟩
theorem dX7_tries_6 : dc cX7_tries 6 (.iaload) 1 7 := ⟨by decide +kernel, rfl⟩
theorem dX7_tries_7 : dc cX7_tries 7 (.iload_n 1) 1 8 := ⟨by decide +kernel, rfl⟩
theorem dX7_tries_8 : dc cX7_tries 8 (.invokestatic 49) 3 11 := ⟨by decide +kernel, rfl⟩
theorem dX7_tries_11 : dc cX7_tries 11 (.ifCond .ne 5) 3 14 := ⟨by decide +kernel, rfl⟩
theorem dX7_tries_14 : dc cX7_tries 14 (.iconst 1) 1 15 := ⟨by decide +kernel, rfl⟩
theorem dX7_tries_15 : dc cX7_tries 15 (.ireturn) 1 16 := ⟨by decide +kernel, rfl⟩
theorem dX7_tries_16 : dc cX7_tries 16 (.aload_n 0) 1 17 := ⟨by decide +kernel, rfl⟩
theorem dX7_tries_17 : dc cX7_tries 17 (.aload_n 0) 1 18 := ⟨by decide +kernel, rfl⟩
theorem dX7_tries_18 : dc cX7_tries 18 (.iload_n 2) 1 19 := ⟨by decide +kernel, rfl⟩
theorem dX7_tries_19 : dc cX7_tries 19 (.aload_n 0) 1 20 := ⟨by decide +kernel, rfl⟩
theorem dX7_tries_20 : dc cX7_tries 20 (.getfield 13) 3 23 := ⟨by decide +kernel, rfl⟩
theorem dX7_tries_23 : dc cX7_tries 23 (.iload_n 1) 1 24 := ⟨by decide +kernel, rfl⟩
theorem dX7_tries_24 : dc cX7_tries 24 (.iaload) 1 25 := ⟨by decide +kernel, rfl⟩
theorem dX7_tries_25 : dc cX7_tries 25 (.invokevirtual 77) 3 28 := ⟨by decide +kernel, rfl⟩
theorem dX7_tries_28 : dc cX7_tries 28 (.ifCond .ne 7) 3 31 := ⟨by decide +kernel, rfl⟩
theorem dX7_tries_31 : dc cX7_tries 31 (.iconst 1) 1 32 := ⟨by decide +kernel, rfl⟩
theorem dX7_tries_32 : dc cX7_tries 32 (.goto 4) 3 35 := ⟨by decide +kernel, rfl⟩
theorem dX7_tries_35 : dc cX7_tries 35 (.iconst 0) 1 36 := ⟨by decide +kernel, rfl⟩
theorem dX7_tries_36 : dc cX7_tries 36 (.putfield 80) 3 39 := ⟨by decide +kernel, rfl⟩
theorem dX7_tries_39 : dc cX7_tries 39 (.aload_n 0) 1 40 := ⟨by decide +kernel, rfl⟩
theorem dX7_tries_40 : dc cX7_tries 40 (.getfield 80) 3 43 := ⟨by decide +kernel, rfl⟩
theorem dX7_tries_43 : dc cX7_tries 43 (.ifCond .ne 37) 3 46 := ⟨by decide +kernel, rfl⟩
theorem dX7_tries_46 : dc cX7_tries 46 (.aload_n 0) 1 47 := ⟨by decide +kernel, rfl⟩
theorem dX7_tries_47 : dc cX7_tries 47 (.dup) 1 48 := ⟨by decide +kernel, rfl⟩
theorem dX7_tries_48 : dc cX7_tries 48 (.getfield 71) 3 51 := ⟨by decide +kernel, rfl⟩
theorem dX7_tries_51 : dc cX7_tries 51 (.iconst 1) 1 52 := ⟨by decide +kernel, rfl⟩
theorem dX7_tries_52 : dc cX7_tries 52 (.iadd) 1 53 := ⟨by decide +kernel, rfl⟩
theorem dX7_tries_53 : dc cX7_tries 53 (.putfield 71) 3 56 := ⟨by decide +kernel, rfl⟩
theorem dX7_tries_56 : dc cX7_tries 56 (.aload_n 0) 1 57 := ⟨by decide +kernel, rfl⟩
theorem dX7_tries_57 : dc cX7_tries 57 (.iload_n 1) 1 58 := ⟨by decide +kernel, rfl⟩
theorem dX7_tries_58 : dc cX7_tries 58 (.aload_n 0) 1 59 := ⟨by decide +kernel, rfl⟩
theorem dX7_tries_59 : dc cX7_tries 59 (.getfield 13) 3 62 := ⟨by decide +kernel, rfl⟩
theorem dX7_tries_62 : dc cX7_tries 62 (.bipush 88) 2 64 := ⟨by decide +kernel, rfl⟩
theorem dX7_tries_64 : dc cX7_tries 64 (.iload_n 2) 1 65 := ⟨by decide +kernel, rfl⟩
theorem dX7_tries_65 : dc cX7_tries 65 (.iadd) 1 66 := ⟨by decide +kernel, rfl⟩
theorem dX7_tries_66 : dc cX7_tries 66 (.iaload) 1 67 := ⟨by decide +kernel, rfl⟩
theorem dX7_tries_67 : dc cX7_tries 67 (.invokevirtual 84) 3 70 := ⟨by decide +kernel, rfl⟩
theorem dX7_tries_70 : dc cX7_tries 70 (.aload_n 0) 1 71 := ⟨by decide +kernel, rfl⟩
theorem dX7_tries_71 : dc cX7_tries 71 (.getfield 13) 3 74 := ⟨by decide +kernel, rfl⟩
theorem dX7_tries_74 : dc cX7_tries 74 (.bipush 88) 2 76 := ⟨by decide +kernel, rfl⟩
theorem dX7_tries_76 : dc cX7_tries 76 (.iload_n 2) 1 77 := ⟨by decide +kernel, rfl⟩
theorem dX7_tries_77 : dc cX7_tries 77 (.iadd) 1 78 := ⟨by decide +kernel, rfl⟩
theorem dX7_tries_78 : dc cX7_tries 78 (.iconst 0) 1 79 := ⟨by decide +kernel, rfl⟩
theorem dX7_tries_79 : dc cX7_tries 79 (.iastore) 1 80 := ⟨by decide +kernel, rfl⟩
theorem dX7_tries_80 : dc cX7_tries 80 (.iconst 0) 1 81 := ⟨by decide +kernel, rfl⟩
theorem dX7_tries_81 : dc cX7_tries 81 (.ireturn) 1 82 := ⟨by decide +kernel, rfl⟩
theorem dX7_dies_0 : dc cX7_dies 0 (.aload_n 0) 1 1 := ⟨by decide +kernel, rfl⟩
theorem dX7_dies_1 : dc cX7_dies 1 (.getfield 13) 3 4 := ⟨by decide +kernel, rfl⟩
theorem dX7_dies_4 : dc cX7_dies 4 (.bipush 94) 2 6 := ⟨by decide +kernel, rfl⟩
theorem dX7_dies_6 : dc cX7_dies 6 (.iaload) 1 7 := ⟨by decide +kernel, rfl⟩
theorem dX7_dies_7 : dc cX7_dies 7 (.iload_n 1) 1 8 := ⟨by decide +kernel, rfl⟩
theorem dX7_dies_8 : dc cX7_dies 8 (.invokestatic 49) 3 11 := ⟨by decide +kernel, rfl⟩
theorem dX7_dies_11 : dc cX7_dies 11 (.ifCond .ne 5) 3 14 := ⟨by decide +kernel, rfl⟩
theorem dX7_dies_14 : dc cX7_dies 14 (.iconst 1) 1 15 := ⟨by decide +kernel, rfl⟩
theorem dX7_dies_15 : dc cX7_dies 15 (.ireturn) 1 16 := ⟨by decide +kernel, rfl⟩
theorem dX7_dies_16 : dc cX7_dies 16 (.iload_n 1) 1 17 := ⟨by decide +kernel, rfl⟩
theorem dX7_dies_17 : dc cX7_dies 17 (.iload_n 2) 1 18 := ⟨by decide +kernel, rfl⟩
theorem dX7_dies_18 : dc cX7_dies 18 (.if_icmp .ne 5) 3 21 := ⟨by decide +kernel, rfl⟩
theorem dX7_dies_21 : dc cX7_dies 21 (.iconst 2) 1 22 := ⟨by decide +kernel, rfl⟩
theorem dX7_dies_22 : dc cX7_dies 22 (.ireturn) 1 23 := ⟨by decide +kernel, rfl⟩
theorem dX7_dies_23 : dc cX7_dies 23 (.aload_n 0) 1 24 := ⟨by decide +kernel, rfl⟩
theorem dX7_dies_24 : dc cX7_dies 24 (.getfield 13) 3 27 := ⟨by decide +kernel, rfl⟩
theorem dX7_dies_27 : dc cX7_dies 27 (.bipush 94) 2 29 := ⟨by decide +kernel, rfl⟩
theorem dX7_dies_29 : dc cX7_dies 29 (.iaload) 1 30 := ⟨by decide +kernel, rfl⟩
theorem dX7_dies_30 : dc cX7_dies 30 (.iload_n 2) 1 31 := ⟨by decide +kernel, rfl⟩
theorem dX7_dies_31 : dc cX7_dies 31 (.invokestatic 49) 3 34 := ⟨by decide +kernel, rfl⟩
theorem dX7_dies_34 : dc cX7_dies 34 (.ifCond .eq 5) 3 37 := ⟨by decide +kernel, rfl⟩
theorem dX7_dies_37 : dc cX7_dies 37 (.iconst 3) 1 38 := ⟨by decide +kernel, rfl⟩
theorem dX7_dies_38 : dc cX7_dies 38 (.ireturn) 1 39 := ⟨by decide +kernel, rfl⟩
theorem dX7_dies_39 : dc cX7_dies 39 (.aload_n 0) 1 40 := ⟨by decide +kernel, rfl⟩
theorem dX7_dies_40 : dc cX7_dies 40 (.getfield 13) 3 43 := ⟨by decide +kernel, rfl⟩
theorem dX7_dies_43 : dc cX7_dies 43 (.bipush 94) 2 45 := ⟨by decide +kernel, rfl⟩
theorem dX7_dies_45 : dc cX7_dies 45 (.aload_n 0) 1 46 := ⟨by decide +kernel, rfl⟩
theorem dX7_dies_46 : dc cX7_dies 46 (.getfield 13) 3 49 := ⟨by decide +kernel, rfl⟩
theorem dX7_dies_49 : dc cX7_dies 49 (.bipush 94) 2 51 := ⟨by decide +kernel, rfl⟩
theorem dX7_dies_51 : dc cX7_dies 51 (.iaload) 1 52 := ⟨by decide +kernel, rfl⟩
theorem dX7_dies_52 : dc cX7_dies 52 (.iconst 1) 1 53 := ⟨by decide +kernel, rfl⟩
theorem dX7_dies_53 : dc cX7_dies 53 (.iload_n 1) 1 54 := ⟨by decide +kernel, rfl⟩
theorem dX7_dies_54 : dc cX7_dies 54 (.ishl) 1 55 := ⟨by decide +kernel, rfl⟩
theorem dX7_dies_55 : dc cX7_dies 55 (.iconst (-1)) 1 56 := ⟨by decide +kernel, rfl⟩
theorem dX7_dies_56 : dc cX7_dies 56 (.ixor) 1 57 := ⟨by decide +kernel, rfl⟩
theorem dX7_dies_57 : dc cX7_dies 57 (.iand) 1 58 := ⟨by decide +kernel, rfl⟩
theorem dX7_dies_58 : dc cX7_dies 58 (.iconst 1) 1 59 := ⟨by decide +kernel, rfl⟩
theorem dX7_dies_59 : dc cX7_dies 59 (.iload_n 2) 1 60 := ⟨by decide +kernel, rfl⟩
theorem dX7_dies_60 : dc cX7_dies 60 (.ishl) 1 61 := ⟨by decide +kernel, rfl⟩
theorem dX7_dies_61 : dc cX7_dies 61 (.ior) 1 62 := ⟨by decide +kernel, rfl⟩
theorem dX7_dies_62 : dc cX7_dies 62 (.iastore) 1 63 := ⟨by decide +kernel, rfl⟩
theorem dX7_dies_63 : dc cX7_dies 63 (.aload_n 0) 1 64 := ⟨by decide +kernel, rfl⟩
theorem dX7_dies_64 : dc cX7_dies 64 (.getfield 13) 3 67 := ⟨by decide +kernel, rfl⟩
theorem dX7_dies_67 : dc cX7_dies 67 (.iload_n 2) 1 68 := ⟨by decide +kernel, rfl⟩
theorem dX7_dies_68 : dc cX7_dies 68 (.aload_n 0) 1 69 := ⟨by decide +kernel, rfl⟩
theorem dX7_dies_69 : dc cX7_dies 69 (.getfield 13) 3 72 := ⟨by decide +kernel, rfl⟩
theorem dX7_dies_72 : dc cX7_dies 72 (.iload_n 1) 1 73 := ⟨by decide +kernel, rfl⟩
theorem dX7_dies_73 : dc cX7_dies 73 (.iaload) 1 74 := ⟨by decide +kernel, rfl⟩
theorem dX7_dies_74 : dc cX7_dies 74 (.aload_n 0) 1 75 := ⟨by decide +kernel, rfl⟩
theorem dX7_dies_75 : dc cX7_dies 75 (.getfield 13) 3 78 := ⟨by decide +kernel, rfl⟩
theorem dX7_dies_78 : dc cX7_dies 78 (.iload_n 1) 1 79 := ⟨by decide +kernel, rfl⟩
theorem dX7_dies_79 : dc cX7_dies 79 (.iaload) 1 80 := ⟨by decide +kernel, rfl⟩
theorem dX7_dies_80 : dc cX7_dies 80 (.iconst 1) 1 81 := ⟨by decide +kernel, rfl⟩
theorem dX7_dies_81 : dc cX7_dies 81 (.isub) 1 82 := ⟨by decide +kernel, rfl⟩
theorem dX7_dies_82 : dc cX7_dies 82 (.iand) 1 83 := ⟨by decide +kernel, rfl⟩
theorem dX7_dies_83 : dc cX7_dies 83 (.iastore) 1 84 := ⟨by decide +kernel, rfl⟩
theorem dX7_dies_84 : dc cX7_dies 84 (.aload_n 0) 1 85 := ⟨by decide +kernel, rfl⟩
theorem dX7_dies_85 : dc cX7_dies 85 (.getfield 13) 3 88 := ⟨by decide +kernel, rfl⟩
theorem dX7_dies_88 : dc cX7_dies 88 (.bipush 8) 2 90 := ⟨by decide +kernel, rfl⟩
theorem dX7_dies_90 : dc cX7_dies 90 (.iload_n 2) 1 91 := ⟨by decide +kernel, rfl⟩
theorem dX7_dies_91 : dc cX7_dies 91 (.iadd) 1 92 := ⟨by decide +kernel, rfl⟩
theorem dX7_dies_92 : dc cX7_dies 92 (.aload_n 0) 1 93 := ⟨by decide +kernel, rfl⟩
theorem dX7_dies_93 : dc cX7_dies 93 (.getfield 13) 3 96 := ⟨by decide +kernel, rfl⟩
theorem dX7_dies_96 : dc cX7_dies 96 (.bipush 8) 2 98 := ⟨by decide +kernel, rfl⟩
theorem dX7_dies_98 : dc cX7_dies 98 (.iload_n 1) 1 99 := ⟨by decide +kernel, rfl⟩
theorem dX7_dies_99 : dc cX7_dies 99 (.iadd) 1 100 := ⟨by decide +kernel, rfl⟩
theorem dX7_dies_100 : dc cX7_dies 100 (.iaload) 1 101 := ⟨by decide +kernel, rfl⟩
theorem dX7_dies_101 : dc cX7_dies 101 (.iconst 2) 1 102 := ⟨by decide +kernel, rfl⟩
theorem dX7_dies_102 : dc cX7_dies 102 (.idiv) 1 103 := ⟨by decide +kernel, rfl⟩
theorem dX7_dies_103 : dc cX7_dies 103 (.iastore) 1 104 := ⟨by decide +kernel, rfl⟩
theorem dX7_dies_104 : dc cX7_dies 104 (.aload_n 0) 1 105 := ⟨by decide +kernel, rfl⟩
theorem dX7_dies_105 : dc cX7_dies 105 (.getfield 13) 3 108 := ⟨by decide +kernel, rfl⟩
theorem dX7_dies_108 : dc cX7_dies 108 (.bipush 16) 2 110 := ⟨by decide +kernel, rfl⟩
theorem dX7_dies_110 : dc cX7_dies 110 (.iload_n 2) 1 111 := ⟨by decide +kernel, rfl⟩
theorem dX7_dies_111 : dc cX7_dies 111 (.iadd) 1 112 := ⟨by decide +kernel, rfl⟩
theorem dX7_dies_112 : dc cX7_dies 112 (.iload_n 1) 1 113 := ⟨by decide +kernel, rfl⟩
theorem dX7_dies_113 : dc cX7_dies 113 (.iastore) 1 114 := ⟨by decide +kernel, rfl⟩
theorem dX7_dies_114 : dc cX7_dies 114 (.aload_n 0) 1 115 := ⟨by decide +kernel, rfl⟩
theorem dX7_dies_115 : dc cX7_dies 115 (.getfield 13) 3 118 := ⟨by decide +kernel, rfl⟩
theorem dX7_dies_118 : dc cX7_dies 118 (.iload_n 1) 1 119 := ⟨by decide +kernel, rfl⟩
theorem dX7_dies_119 : dc cX7_dies 119 (.iconst 0) 1 120 := ⟨by decide +kernel, rfl⟩
theorem dX7_dies_120 : dc cX7_dies 120 (.iastore) 1 121 := ⟨by decide +kernel, rfl⟩
theorem dX7_dies_121 : dc cX7_dies 121 (.aload_n 0) 1 122 := ⟨by decide +kernel, rfl⟩
theorem dX7_dies_122 : dc cX7_dies 122 (.getfield 13) 3 125 := ⟨by decide +kernel, rfl⟩
theorem dX7_dies_125 : dc cX7_dies 125 (.bipush 8) 2 127 := ⟨by decide +kernel, rfl⟩
theorem dX7_dies_127 : dc cX7_dies 127 (.iload_n 1) 1 128 := ⟨by decide +kernel, rfl⟩
theorem dX7_dies_128 : dc cX7_dies 128 (.iadd) 1 129 := ⟨by decide +kernel, rfl⟩
theorem dX7_dies_129 : dc cX7_dies 129 (.iconst 0) 1 130 := ⟨by decide +kernel, rfl⟩
theorem dX7_dies_130 : dc cX7_dies 130 (.iastore) 1 131 := ⟨by decide +kernel, rfl⟩
theorem dX7_dies_131 : dc cX7_dies 131 (.iconst 0) 1 132 := ⟨by decide +kernel, rfl⟩
theorem dX7_dies_132 : dc cX7_dies 132 (.istore_n 3) 1 133 := ⟨by decide +kernel, rfl⟩
theorem dX7_dies_133 : dc cX7_dies 133 (.iload_n 3) 1 134 := ⟨by decide +kernel, rfl⟩
theorem dX7_dies_134 : dc cX7_dies 134 (.bipush 8) 2 136 := ⟨by decide +kernel, rfl⟩
theorem dX7_dies_136 : dc cX7_dies 136 (.if_icmp .ge 103) 3 139 := ⟨by decide +kernel, rfl⟩
theorem dX7_dies_139 : dc cX7_dies 139 (.aload_n 0) 1 140 := ⟨by decide +kernel, rfl⟩
theorem dX7_dies_140 : dc cX7_dies 140 (.getfield 13) 3 143 := ⟨by decide +kernel, rfl⟩
theorem dX7_dies_143 : dc cX7_dies 143 (.bipush 24) 2 145 := ⟨by decide +kernel, rfl⟩
theorem dX7_dies_145 : dc cX7_dies 145 (.bipush 8) 2 147 := ⟨by decide +kernel, rfl⟩
theorem dX7_dies_147 : dc cX7_dies 147 (.iload_n 1) 1 148 := ⟨by decide +kernel, rfl⟩
theorem dX7_dies_148 : dc cX7_dies 148 (.imul) 1 149 := ⟨by decide +kernel, rfl⟩
theorem dX7_dies_149 : dc cX7_dies 149 (.iadd) 1 150 := ⟨by decide +kernel, rfl⟩
theorem dX7_dies_150 : dc cX7_dies 150 (.iload_n 3) 1 151 := ⟨by decide +kernel, rfl⟩
theorem dX7_dies_151 : dc cX7_dies 151 (.iadd) 1 152 := ⟨by decide +kernel, rfl⟩
theorem dX7_dies_152 : dc cX7_dies 152 (.iaload) 1 153 := ⟨by decide +kernel, rfl⟩
theorem dX7_dies_153 : dc cX7_dies 153 (.istore 4) 2 155 := ⟨by decide +kernel, rfl⟩
theorem dX7_dies_155 : dc cX7_dies 155 (.aload_n 0) 1 156 := ⟨by decide +kernel, rfl⟩
theorem dX7_dies_156 : dc cX7_dies 156 (.getfield 13) 3 159 := ⟨by decide +kernel, rfl⟩
theorem dX7_dies_159 : dc cX7_dies 159 (.bipush 24) 2 161 := ⟨by decide +kernel, rfl⟩
theorem dX7_dies_161 : dc cX7_dies 161 (.bipush 8) 2 163 := ⟨by decide +kernel, rfl⟩
theorem dX7_dies_163 : dc cX7_dies 163 (.iload_n 3) 1 164 := ⟨by decide +kernel, rfl⟩
theorem dX7_dies_164 : dc cX7_dies 164 (.imul) 1 165 := ⟨by decide +kernel, rfl⟩
theorem dX7_dies_165 : dc cX7_dies 165 (.iadd) 1 166 := ⟨by decide +kernel, rfl⟩
theorem dX7_dies_166 : dc cX7_dies 166 (.iload_n 1) 1 167 := ⟨by decide +kernel, rfl⟩
theorem dX7_dies_167 : dc cX7_dies 167 (.iadd) 1 168 := ⟨by decide +kernel, rfl⟩
theorem dX7_dies_168 : dc cX7_dies 168 (.iaload) 1 169 := ⟨by decide +kernel, rfl⟩
theorem dX7_dies_169 : dc cX7_dies 169 (.istore 5) 2 171 := ⟨by decide +kernel, rfl⟩
theorem dX7_dies_171 : dc cX7_dies 171 (.aload_n 0) 1 172 := ⟨by decide +kernel, rfl⟩
theorem dX7_dies_172 : dc cX7_dies 172 (.getfield 13) 3 175 := ⟨by decide +kernel, rfl⟩
theorem dX7_dies_175 : dc cX7_dies 175 (.bipush 24) 2 177 := ⟨by decide +kernel, rfl⟩
theorem dX7_dies_177 : dc cX7_dies 177 (.bipush 8) 2 179 := ⟨by decide +kernel, rfl⟩
theorem dX7_dies_179 : dc cX7_dies 179 (.iload_n 1) 1 180 := ⟨by decide +kernel, rfl⟩
theorem dX7_dies_180 : dc cX7_dies 180 (.imul) 1 181 := ⟨by decide +kernel, rfl⟩
theorem dX7_dies_181 : dc cX7_dies 181 (.iadd) 1 182 := ⟨by decide +kernel, rfl⟩
theorem dX7_dies_182 : dc cX7_dies 182 (.iload_n 3) 1 183 := ⟨by decide +kernel, rfl⟩
theorem dX7_dies_183 : dc cX7_dies 183 (.iadd) 1 184 := ⟨by decide +kernel, rfl⟩
theorem dX7_dies_184 : dc cX7_dies 184 (.iconst 0) 1 185 := ⟨by decide +kernel, rfl⟩
theorem dX7_dies_185 : dc cX7_dies 185 (.iastore) 1 186 := ⟨by decide +kernel, rfl⟩
theorem dX7_dies_186 : dc cX7_dies 186 (.aload_n 0) 1 187 := ⟨by decide +kernel, rfl⟩
theorem dX7_dies_187 : dc cX7_dies 187 (.getfield 13) 3 190 := ⟨by decide +kernel, rfl⟩
theorem dX7_dies_190 : dc cX7_dies 190 (.bipush 24) 2 192 := ⟨by decide +kernel, rfl⟩
theorem dX7_dies_192 : dc cX7_dies 192 (.bipush 8) 2 194 := ⟨by decide +kernel, rfl⟩
theorem dX7_dies_194 : dc cX7_dies 194 (.iload_n 3) 1 195 := ⟨by decide +kernel, rfl⟩
theorem dX7_dies_195 : dc cX7_dies 195 (.imul) 1 196 := ⟨by decide +kernel, rfl⟩
theorem dX7_dies_196 : dc cX7_dies 196 (.iadd) 1 197 := ⟨by decide +kernel, rfl⟩
theorem dX7_dies_197 : dc cX7_dies 197 (.iload_n 1) 1 198 := ⟨by decide +kernel, rfl⟩
theorem dX7_dies_198 : dc cX7_dies 198 (.iadd) 1 199 := ⟨by decide +kernel, rfl⟩
theorem dX7_dies_199 : dc cX7_dies 199 (.iconst 0) 1 200 := ⟨by decide +kernel, rfl⟩
theorem dX7_dies_200 : dc cX7_dies 200 (.iastore) 1 201 := ⟨by decide +kernel, rfl⟩
theorem dX7_dies_201 : dc cX7_dies 201 (.aload_n 0) 1 202 := ⟨by decide +kernel, rfl⟩
theorem dX7_dies_202 : dc cX7_dies 202 (.getfield 13) 3 205 := ⟨by decide +kernel, rfl⟩
theorem dX7_dies_205 : dc cX7_dies 205 (.bipush 24) 2 207 := ⟨by decide +kernel, rfl⟩
theorem dX7_dies_207 : dc cX7_dies 207 (.bipush 8) 2 209 := ⟨by decide +kernel, rfl⟩
theorem dX7_dies_209 : dc cX7_dies 209 (.iload_n 2) 1 210 := ⟨by decide +kernel, rfl⟩
theorem dX7_dies_210 : dc cX7_dies 210 (.imul) 1 211 := ⟨by decide +kernel, rfl⟩
theorem dX7_dies_211 : dc cX7_dies 211 (.iadd) 1 212 := ⟨by decide +kernel, rfl⟩
theorem dX7_dies_212 : dc cX7_dies 212 (.iload_n 3) 1 213 := ⟨by decide +kernel, rfl⟩
theorem dX7_dies_213 : dc cX7_dies 213 (.iadd) 1 214 := ⟨by decide +kernel, rfl⟩
theorem dX7_dies_214 : dc cX7_dies 214 (.iload 4) 2 216 := ⟨by decide +kernel, rfl⟩
theorem dX7_dies_216 : dc cX7_dies 216 (.iastore) 1 217 := ⟨by decide +kernel, rfl⟩
theorem dX7_dies_217 : dc cX7_dies 217 (.aload_n 0) 1 218 := ⟨by decide +kernel, rfl⟩
theorem dX7_dies_218 : dc cX7_dies 218 (.getfield 13) 3 221 := ⟨by decide +kernel, rfl⟩
theorem dX7_dies_221 : dc cX7_dies 221 (.bipush 24) 2 223 := ⟨by decide +kernel, rfl⟩
theorem dX7_dies_223 : dc cX7_dies 223 (.bipush 8) 2 225 := ⟨by decide +kernel, rfl⟩
theorem dX7_dies_225 : dc cX7_dies 225 (.iload_n 3) 1 226 := ⟨by decide +kernel, rfl⟩
theorem dX7_dies_226 : dc cX7_dies 226 (.imul) 1 227 := ⟨by decide +kernel, rfl⟩
theorem dX7_dies_227 : dc cX7_dies 227 (.iadd) 1 228 := ⟨by decide +kernel, rfl⟩
theorem dX7_dies_228 : dc cX7_dies 228 (.iload_n 2) 1 229 := ⟨by decide +kernel, rfl⟩
theorem dX7_dies_229 : dc cX7_dies 229 (.iadd) 1 230 := ⟨by decide +kernel, rfl⟩
theorem dX7_dies_230 : dc cX7_dies 230 (.iload 5) 2 232 := ⟨by decide +kernel, rfl⟩
theorem dX7_dies_232 : dc cX7_dies 232 (.iastore) 1 233 := ⟨by decide +kernel, rfl⟩
theorem dX7_dies_233 : dc cX7_dies 233 (.iinc 3 1) 3 236 := ⟨by decide +kernel, rfl⟩
theorem dX7_dies_236 : dc cX7_dies 236 (.goto (-103)) 3 239 := ⟨by decide +kernel, rfl⟩
theorem dX7_dies_239 : dc cX7_dies 239 (.iconst 0) 1 240 := ⟨by decide +kernel, rfl⟩
theorem dX7_dies_240 : dc cX7_dies 240 (.ireturn) 1 241 := ⟨by decide +kernel, rfl⟩
theorem dX7_lends_0 : dc cX7_lends 0 (.aload_n 0) 1 1 := ⟨by decide +kernel, rfl⟩
theorem dX7_lends_1 : dc cX7_lends 1 (.getfield 13) 3 4 := ⟨by decide +kernel, rfl⟩
theorem dX7_lends_4 : dc cX7_lends 4 (.bipush 94) 2 6 := ⟨by decide +kernel, rfl⟩
theorem dX7_lends_6 : dc cX7_lends 6 (.iaload) 1 7 := ⟨by decide +kernel, rfl⟩
theorem dX7_lends_7 : dc cX7_lends 7 (.iload_n 1) 1 8 := ⟨by decide +kernel, rfl⟩
theorem dX7_lends_8 : dc cX7_lends 8 (.invokestatic 49) 3 11 := ⟨by decide +kernel, rfl⟩
theorem dX7_lends_11 : dc cX7_lends 11 (.ifCond .ne 5) 3 14 := ⟨by decide +kernel, rfl⟩
theorem dX7_lends_14 : dc cX7_lends 14 (.iconst 1) 1 15 := ⟨by decide +kernel, rfl⟩
theorem dX7_lends_15 : dc cX7_lends 15 (.ireturn) 1 16 := ⟨by decide +kernel, rfl⟩
theorem dX7_lends_16 : dc cX7_lends 16 (.iload_n 1) 1 17 := ⟨by decide +kernel, rfl⟩
theorem dX7_lends_17 : dc cX7_lends 17 (.iload_n 3) 1 18 := ⟨by decide +kernel, rfl⟩
theorem dX7_lends_18 : dc cX7_lends 18 (.if_icmp .ne 5) 3 21 := ⟨by decide +kernel, rfl⟩
theorem dX7_lends_21 : dc cX7_lends 21 (.iconst 2) 1 22 := ⟨by decide +kernel, rfl⟩
theorem dX7_lends_22 : dc cX7_lends 22 (.ireturn) 1 23 := ⟨by decide +kernel, rfl⟩
theorem dX7_lends_23 : dc cX7_lends 23 (.aload_n 0) 1 24 := ⟨by decide +kernel, rfl⟩
theorem dX7_lends_24 : dc cX7_lends 24 (.getfield 13) 3 27 := ⟨by decide +kernel, rfl⟩
theorem dX7_lends_27 : dc cX7_lends 27 (.bipush 94) 2 29 := ⟨by decide +kernel, rfl⟩
theorem dX7_lends_29 : dc cX7_lends 29 (.iaload) 1 30 := ⟨by decide +kernel, rfl⟩
theorem dX7_lends_30 : dc cX7_lends 30 (.iload_n 3) 1 31 := ⟨by decide +kernel, rfl⟩
theorem dX7_lends_31 : dc cX7_lends 31 (.invokestatic 49) 3 34 := ⟨by decide +kernel, rfl⟩
theorem dX7_lends_34 : dc cX7_lends 34 (.ifCond .ne 5) 3 37 := ⟨by decide +kernel, rfl⟩
theorem dX7_lends_37 : dc cX7_lends 37 (.iconst 3) 1 38 := ⟨by decide +kernel, rfl⟩
theorem dX7_lends_38 : dc cX7_lends 38 (.ireturn) 1 39 := ⟨by decide +kernel, rfl⟩
theorem dX7_lends_39 : dc cX7_lends 39 (.bipush 24) 2 41 := ⟨by decide +kernel, rfl⟩
theorem dX7_lends_41 : dc cX7_lends 41 (.bipush 8) 2 43 := ⟨by decide +kernel, rfl⟩
theorem dX7_lends_43 : dc cX7_lends 43 (.iload_n 3) 1 44 := ⟨by decide +kernel, rfl⟩
theorem dX7_lends_44 : dc cX7_lends 44 (.imul) 1 45 := ⟨by decide +kernel, rfl⟩
theorem dX7_lends_45 : dc cX7_lends 45 (.iadd) 1 46 := ⟨by decide +kernel, rfl⟩
theorem dX7_lends_46 : dc cX7_lends 46 (.iload_n 1) 1 47 := ⟨by decide +kernel, rfl⟩
theorem dX7_lends_47 : dc cX7_lends 47 (.iadd) 1 48 := ⟨by decide +kernel, rfl⟩
theorem dX7_lends_48 : dc cX7_lends 48 (.istore 4) 2 50 := ⟨by decide +kernel, rfl⟩
theorem dX7_lends_50 : dc cX7_lends 50 (.aload_n 0) 1 51 := ⟨by decide +kernel, rfl⟩
theorem dX7_lends_51 : dc cX7_lends 51 (.getfield 13) 3 54 := ⟨by decide +kernel, rfl⟩
theorem dX7_lends_54 : dc cX7_lends 54 (.bipush 8) 2 56 := ⟨by decide +kernel, rfl⟩
theorem dX7_lends_56 : dc cX7_lends 56 (.iload_n 1) 1 57 := ⟨by decide +kernel, rfl⟩
theorem dX7_lends_57 : dc cX7_lends 57 (.iadd) 1 58 := ⟨by decide +kernel, rfl⟩
theorem dX7_lends_58 : dc cX7_lends 58 (.iaload) 1 59 := ⟨by decide +kernel, rfl⟩
theorem dX7_lends_59 : dc cX7_lends 59 (.iload_n 2) 1 60 := ⟨by decide +kernel, rfl⟩
theorem dX7_lends_60 : dc cX7_lends 60 (.if_icmp .lt 18) 3 63 := ⟨by decide +kernel, rfl⟩
theorem dX7_lends_63 : dc cX7_lends 63 (.aload_n 0) 1 64 := ⟨by decide +kernel, rfl⟩
theorem dX7_lends_64 : dc cX7_lends 64 (.getfield 13) 3 67 := ⟨by decide +kernel, rfl⟩
theorem dX7_lends_67 : dc cX7_lends 67 (.iload 4) 2 69 := ⟨by decide +kernel, rfl⟩
theorem dX7_lends_69 : dc cX7_lends 69 (.iaload) 1 70 := ⟨by decide +kernel, rfl⟩
theorem dX7_lends_70 : dc cX7_lends 70 (.iload_n 2) 1 71 := ⟨by decide +kernel, rfl⟩
theorem dX7_lends_71 : dc cX7_lends 71 (.iadd) 1 72 := ⟨by decide +kernel, rfl⟩
theorem dX7_lends_72 : dc cX7_lends 72 (.sipush 999) 3 75 := ⟨by decide +kernel, rfl⟩
theorem dX7_lends_75 : dc cX7_lends 75 (.if_icmp .le 5) 3 78 := ⟨by decide +kernel, rfl⟩
theorem dX7_lends_78 : dc cX7_lends 78 (.iconst 4) 1 79 := ⟨by decide +kernel, rfl⟩
theorem dX7_lends_79 : dc cX7_lends 79 (.ireturn) 1 80 := ⟨by decide +kernel, rfl⟩
theorem dX7_lends_80 : dc cX7_lends 80 (.aload_n 0) 1 81 := ⟨by decide +kernel, rfl⟩
theorem dX7_lends_81 : dc cX7_lends 81 (.getfield 13) 3 84 := ⟨by decide +kernel, rfl⟩
theorem dX7_lends_84 : dc cX7_lends 84 (.iload 4) 2 86 := ⟨by decide +kernel, rfl⟩
theorem dX7_lends_86 : dc cX7_lends 86 (.dup2) 1 87 := ⟨by decide +kernel, rfl⟩
theorem dX7_lends_87 : dc cX7_lends 87 (.iaload) 1 88 := ⟨by decide +kernel, rfl⟩
theorem dX7_lends_88 : dc cX7_lends 88 (.iload_n 2) 1 89 := ⟨by decide +kernel, rfl⟩
theorem dX7_lends_89 : dc cX7_lends 89 (.iadd) 1 90 := ⟨by decide +kernel, rfl⟩
theorem dX7_lends_90 : dc cX7_lends 90 (.iastore) 1 91 := ⟨by decide +kernel, rfl⟩
theorem dX7_lends_91 : dc cX7_lends 91 (.aload_n 0) 1 92 := ⟨by decide +kernel, rfl⟩
theorem dX7_lends_92 : dc cX7_lends 92 (.getfield 13) 3 95 := ⟨by decide +kernel, rfl⟩
theorem dX7_lends_95 : dc cX7_lends 95 (.bipush 8) 2 97 := ⟨by decide +kernel, rfl⟩
theorem dX7_lends_97 : dc cX7_lends 97 (.iload_n 1) 1 98 := ⟨by decide +kernel, rfl⟩
theorem dX7_lends_98 : dc cX7_lends 98 (.iadd) 1 99 := ⟨by decide +kernel, rfl⟩
theorem dX7_lends_99 : dc cX7_lends 99 (.dup2) 1 100 := ⟨by decide +kernel, rfl⟩
theorem dX7_lends_100 : dc cX7_lends 100 (.iaload) 1 101 := ⟨by decide +kernel, rfl⟩
theorem dX7_lends_101 : dc cX7_lends 101 (.iload_n 2) 1 102 := ⟨by decide +kernel, rfl⟩
theorem dX7_lends_102 : dc cX7_lends 102 (.isub) 1 103 := ⟨by decide +kernel, rfl⟩
theorem dX7_lends_103 : dc cX7_lends 103 (.iastore) 1 104 := ⟨by decide +kernel, rfl⟩
theorem dX7_lends_104 : dc cX7_lends 104 (.aload_n 0) 1 105 := ⟨by decide +kernel, rfl⟩
theorem dX7_lends_105 : dc cX7_lends 105 (.iload_n 3) 1 106 := ⟨by decide +kernel, rfl⟩
theorem dX7_lends_106 : dc cX7_lends 106 (.iload_n 2) 1 107 := ⟨by decide +kernel, rfl⟩
theorem dX7_lends_107 : dc cX7_lends 107 (.invokevirtual 84) 3 110 := ⟨by decide +kernel, rfl⟩
theorem dX7_lends_110 : dc cX7_lends 110 (.iconst 0) 1 111 := ⟨by decide +kernel, rfl⟩
theorem dX7_lends_111 : dc cX7_lends 111 (.ireturn) 1 112 := ⟨by decide +kernel, rfl⟩
theorem dX7_endYear_0 : dc cX7_endYear 0 (.aload_n 0) 1 1 := ⟨by decide +kernel, rfl⟩
theorem dX7_endYear_1 : dc cX7_endYear 1 (.getfield 13) 3 4 := ⟨by decide +kernel, rfl⟩
theorem dX7_endYear_4 : dc cX7_endYear 4 (.bipush 95) 2 6 := ⟨by decide +kernel, rfl⟩
theorem dX7_endYear_6 : dc cX7_endYear 6 (.iaload) 1 7 := ⟨by decide +kernel, rfl⟩
theorem dX7_endYear_7 : dc cX7_endYear 7 (.bipush 99) 2 9 := ⟨by decide +kernel, rfl⟩
theorem dX7_endYear_9 : dc cX7_endYear 9 (.if_icmp .ne 5) 3 12 := ⟨by decide +kernel, rfl⟩
theorem dX7_endYear_12 : dc cX7_endYear 12 (.iconst 5) 1 13 := ⟨by decide +kernel, rfl⟩
theorem dX7_endYear_13 : dc cX7_endYear 13 (.ireturn) 1 14 := ⟨by decide +kernel, rfl⟩
theorem dX7_endYear_14 : dc cX7_endYear 14 (.aload_n 0) 1 15 := ⟨by decide +kernel, rfl⟩
theorem dX7_endYear_15 : dc cX7_endYear 15 (.getfield 13) 3 18 := ⟨by decide +kernel, rfl⟩
theorem dX7_endYear_18 : dc cX7_endYear 18 (.bipush 95) 2 20 := ⟨by decide +kernel, rfl⟩
theorem dX7_endYear_20 : dc cX7_endYear 20 (.dup2) 1 21 := ⟨by decide +kernel, rfl⟩
theorem dX7_endYear_21 : dc cX7_endYear 21 (.iaload) 1 22 := ⟨by decide +kernel, rfl⟩
theorem dX7_endYear_22 : dc cX7_endYear 22 (.iconst 1) 1 23 := ⟨by decide +kernel, rfl⟩
theorem dX7_endYear_23 : dc cX7_endYear 23 (.iadd) 1 24 := ⟨by decide +kernel, rfl⟩
theorem dX7_endYear_24 : dc cX7_endYear 24 (.iastore) 1 25 := ⟨by decide +kernel, rfl⟩
theorem dX7_endYear_25 : dc cX7_endYear 25 (.iconst 0) 1 26 := ⟨by decide +kernel, rfl⟩
theorem dX7_endYear_26 : dc cX7_endYear 26 (.ireturn) 1 27 := ⟨by decide +kernel, rfl⟩
theorem dX7_goYears_0 : dc cX7_goYears 0 (.aload_n 0) 1 1 := ⟨by decide +kernel, rfl⟩
theorem dX7_goYears_1 : dc cX7_goYears 1 (.invokevirtual 88) 3 4 := ⟨by decide +kernel, rfl⟩
theorem dX7_goYears_4 : dc cX7_goYears 4 (.aload_n 0) 1 5 := ⟨by decide +kernel, rfl⟩
theorem dX7_goYears_5 : dc cX7_goYears 5 (.iconst 0) 1 6 := ⟨by decide +kernel, rfl⟩
theorem dX7_goYears_6 : dc cX7_goYears 6 (.putfield 91) 3 9 := ⟨by decide +kernel, rfl⟩
theorem dX7_goYears_9 : dc cX7_goYears 9 (.iconst 0) 1 10 := ⟨by decide +kernel, rfl⟩
theorem dX7_goYears_10 : dc cX7_goYears 10 (.istore_n 1) 1 11 := ⟨by decide +kernel, rfl⟩
theorem dX7_goYears_11 : dc cX7_goYears 11 (.iload_n 1) 1 12 := ⟨by decide +kernel, rfl⟩
theorem dX7_goYears_12 : dc cX7_goYears 12 (.aload_n 0) 1 13 := ⟨by decide +kernel, rfl⟩
theorem dX7_goYears_13 : dc cX7_goYears 13 (.getfield 60) 3 16 := ⟨by decide +kernel, rfl⟩
theorem dX7_goYears_16 : dc cX7_goYears 16 (.if_icmp .ge 197) 3 19 := ⟨by decide +kernel, rfl⟩
theorem dX7_goYears_19 : dc cX7_goYears 19 (.aload_n 0) 1 20 := ⟨by decide +kernel, rfl⟩
theorem dX7_goYears_20 : dc cX7_goYears 20 (.iconst 0) 1 21 := ⟨by decide +kernel, rfl⟩
theorem dX7_goYears_21 : dc cX7_goYears 21 (.putfield 80) 3 24 := ⟨by decide +kernel, rfl⟩
theorem dX7_goYears_24 : dc cX7_goYears 24 (.aload_n 0) 1 25 := ⟨by decide +kernel, rfl⟩
theorem dX7_goYears_25 : dc cX7_goYears 25 (.getfield 25) 3 28 := ⟨by decide +kernel, rfl⟩
theorem dX7_goYears_28 : dc cX7_goYears 28 (.iload_n 1) 1 29 := ⟨by decide +kernel, rfl⟩
theorem dX7_goYears_29 : dc cX7_goYears 29 (.iaload) 1 30 := ⟨by decide +kernel, rfl⟩
theorem dX7_goYears_30 : dc cX7_goYears 30 (.bipush 46) 2 32 := ⟨by decide +kernel, rfl⟩
theorem dX7_goYears_32 : dc cX7_goYears 32 (.if_icmp .ne 17) 3 35 := ⟨by decide +kernel, rfl⟩
theorem dX7_goYears_35 : dc cX7_goYears 35 (.aload_n 0) 1 36 := ⟨by decide +kernel, rfl⟩
theorem dX7_goYears_36 : dc cX7_goYears 36 (.aload_n 0) 1 37 := ⟨by decide +kernel, rfl⟩
theorem dX7_goYears_37 : dc cX7_goYears 37 (.invokevirtual 94) 3 40 := ⟨by decide +kernel, rfl⟩
theorem dX7_goYears_40 : dc cX7_goYears 40 (.putfield 97) 3 43 := ⟨by decide +kernel, rfl⟩
theorem dX7_goYears_43 : dc cX7_goYears 43 (.iinc 1 1) 3 46 := ⟨by decide +kernel, rfl⟩
theorem dX7_goYears_46 : dc cX7_goYears 46 (.goto 113) 3 49 := ⟨by decide +kernel, rfl⟩
theorem dX7_goYears_49 : dc cX7_goYears 49 (.aload_n 0) 1 50 := ⟨by decide +kernel, rfl⟩
theorem dX7_goYears_50 : dc cX7_goYears 50 (.getfield 25) 3 53 := ⟨by decide +kernel, rfl⟩
theorem dX7_goYears_53 : dc cX7_goYears 53 (.iload_n 1) 1 54 := ⟨by decide +kernel, rfl⟩
theorem dX7_goYears_54 : dc cX7_goYears 54 (.iaload) 1 55 := ⟨by decide +kernel, rfl⟩
theorem dX7_goYears_55 : dc cX7_goYears 55 (.bipush 65) 2 57 := ⟨by decide +kernel, rfl⟩
theorem dX7_goYears_57 : dc cX7_goYears 57 (.isub) 1 58 := ⟨by decide +kernel, rfl⟩
theorem dX7_goYears_58 : dc cX7_goYears 58 (.istore_n 2) 1 59 := ⟨by decide +kernel, rfl⟩
theorem dX7_goYears_59 : dc cX7_goYears 59 (.aload_n 0) 1 60 := ⟨by decide +kernel, rfl⟩
theorem dX7_goYears_60 : dc cX7_goYears 60 (.getfield 25) 3 63 := ⟨by decide +kernel, rfl⟩
theorem dX7_goYears_63 : dc cX7_goYears 63 (.iload_n 1) 1 64 := ⟨by decide +kernel, rfl⟩
theorem dX7_goYears_64 : dc cX7_goYears 64 (.iconst 1) 1 65 := ⟨by decide +kernel, rfl⟩
theorem dX7_goYears_65 : dc cX7_goYears 65 (.iadd) 1 66 := ⟨by decide +kernel, rfl⟩
theorem dX7_goYears_66 : dc cX7_goYears 66 (.iaload) 1 67 := ⟨by decide +kernel, rfl⟩
theorem dX7_goYears_67 : dc cX7_goYears 67 (.istore_n 3) 1 68 := ⟨by decide +kernel, rfl⟩
theorem dX7_goYears_68 : dc cX7_goYears 68 (.iload_n 3) 1 69 := ⟨by decide +kernel, rfl⟩
theorem dX7_goYears_69 : dc cX7_goYears 69 (.bipush 62) 2 71 := ⟨by decide +kernel, rfl⟩
theorem dX7_goYears_71 : dc cX7_goYears 71 (.if_icmp .ne 29) 3 74 := ⟨by decide +kernel, rfl⟩
theorem dX7_goYears_74 : dc cX7_goYears 74 (.aload_n 0) 1 75 := ⟨by decide +kernel, rfl⟩
theorem dX7_goYears_75 : dc cX7_goYears 75 (.aload_n 0) 1 76 := ⟨by decide +kernel, rfl⟩
theorem dX7_goYears_76 : dc cX7_goYears 76 (.iload_n 2) 1 77 := ⟨by decide +kernel, rfl⟩
theorem dX7_goYears_77 : dc cX7_goYears 77 (.aload_n 0) 1 78 := ⟨by decide +kernel, rfl⟩
theorem dX7_goYears_78 : dc cX7_goYears 78 (.getfield 25) 3 81 := ⟨by decide +kernel, rfl⟩
theorem dX7_goYears_81 : dc cX7_goYears 81 (.iload_n 1) 1 82 := ⟨by decide +kernel, rfl⟩
theorem dX7_goYears_82 : dc cX7_goYears 82 (.iconst 2) 1 83 := ⟨by decide +kernel, rfl⟩
theorem dX7_goYears_83 : dc cX7_goYears 83 (.iadd) 1 84 := ⟨by decide +kernel, rfl⟩
theorem dX7_goYears_84 : dc cX7_goYears 84 (.iaload) 1 85 := ⟨by decide +kernel, rfl⟩
theorem dX7_goYears_85 : dc cX7_goYears 85 (.bipush 65) 2 87 := ⟨by decide +kernel, rfl⟩
theorem dX7_goYears_87 : dc cX7_goYears 87 (.isub) 1 88 := ⟨by decide +kernel, rfl⟩
theorem dX7_goYears_88 : dc cX7_goYears 88 (.invokevirtual 100) 3 91 := ⟨by decide +kernel, rfl⟩
theorem dX7_goYears_91 : dc cX7_goYears 91 (.putfield 97) 3 94 := ⟨by decide +kernel, rfl⟩
theorem dX7_goYears_94 : dc cX7_goYears 94 (.iinc 1 3) 3 97 := ⟨by decide +kernel, rfl⟩
theorem dX7_goYears_97 : dc cX7_goYears 97 (.goto 62) 3 100 := ⟨by decide +kernel, rfl⟩
theorem dX7_goYears_100 : dc cX7_goYears 100 (.iload_n 3) 1 101 := ⟨by decide +kernel, rfl⟩
theorem dX7_goYears_101 : dc cX7_goYears 101 (.bipush 61) 2 103 := ⟨by decide +kernel, rfl⟩
theorem dX7_goYears_103 : dc cX7_goYears 103 (.if_icmp .ne 40) 3 106 := ⟨by decide +kernel, rfl⟩
theorem dX7_goYears_106 : dc cX7_goYears 106 (.aload_n 0) 1 107 := ⟨by decide +kernel, rfl⟩
theorem dX7_goYears_107 : dc cX7_goYears 107 (.aload_n 0) 1 108 := ⟨by decide +kernel, rfl⟩
theorem dX7_goYears_108 : dc cX7_goYears 108 (.iload_n 2) 1 109 := ⟨by decide +kernel, rfl⟩
theorem dX7_goYears_109 : dc cX7_goYears 109 (.aload_n 0) 1 110 := ⟨by decide +kernel, rfl⟩
theorem dX7_goYears_110 : dc cX7_goYears 110 (.getfield 25) 3 113 := ⟨by decide +kernel, rfl⟩
theorem dX7_goYears_113 : dc cX7_goYears 113 (.iload_n 1) 1 114 := ⟨by decide +kernel, rfl⟩
theorem dX7_goYears_114 : dc cX7_goYears 114 (.iconst 2) 1 115 := ⟨by decide +kernel, rfl⟩
theorem dX7_goYears_115 : dc cX7_goYears 115 (.iadd) 1 116 := ⟨by decide +kernel, rfl⟩
theorem dX7_goYears_116 : dc cX7_goYears 116 (.iaload) 1 117 := ⟨by decide +kernel, rfl⟩
theorem dX7_goYears_117 : dc cX7_goYears 117 (.bipush 48) 2 119 := ⟨by decide +kernel, rfl⟩
theorem dX7_goYears_119 : dc cX7_goYears 119 (.isub) 1 120 := ⟨by decide +kernel, rfl⟩
theorem dX7_goYears_120 : dc cX7_goYears 120 (.aload_n 0) 1 121 := ⟨by decide +kernel, rfl⟩
theorem dX7_goYears_121 : dc cX7_goYears 121 (.getfield 25) 3 124 := ⟨by decide +kernel, rfl⟩
theorem dX7_goYears_124 : dc cX7_goYears 124 (.iload_n 1) 1 125 := ⟨by decide +kernel, rfl⟩
theorem dX7_goYears_125 : dc cX7_goYears 125 (.iconst 3) 1 126 := ⟨by decide +kernel, rfl⟩
theorem dX7_goYears_126 : dc cX7_goYears 126 (.iadd) 1 127 := ⟨by decide +kernel, rfl⟩
theorem dX7_goYears_127 : dc cX7_goYears 127 (.iaload) 1 128 := ⟨by decide +kernel, rfl⟩
theorem dX7_goYears_128 : dc cX7_goYears 128 (.bipush 65) 2 130 := ⟨by decide +kernel, rfl⟩
theorem dX7_goYears_130 : dc cX7_goYears 130 (.isub) 1 131 := ⟨by decide +kernel, rfl⟩
theorem dX7_goYears_131 : dc cX7_goYears 131 (.invokevirtual 104) 3 134 := ⟨by decide +kernel, rfl⟩
theorem dX7_goYears_134 : dc cX7_goYears 134 (.putfield 97) 3 137 := ⟨by decide +kernel, rfl⟩
theorem dX7_goYears_137 : dc cX7_goYears 137 (.iinc 1 4) 3 140 := ⟨by decide +kernel, rfl⟩
theorem dX7_goYears_140 : dc cX7_goYears 140 (.goto 19) 3 143 := ⟨by decide +kernel, rfl⟩
theorem dX7_goYears_143 : dc cX7_goYears 143 (.aload_n 0) 1 144 := ⟨by decide +kernel, rfl⟩
theorem dX7_goYears_144 : dc cX7_goYears 144 (.aload_n 0) 1 145 := ⟨by decide +kernel, rfl⟩
theorem dX7_goYears_145 : dc cX7_goYears 145 (.iload_n 2) 1 146 := ⟨by decide +kernel, rfl⟩
theorem dX7_goYears_146 : dc cX7_goYears 146 (.iload_n 3) 1 147 := ⟨by decide +kernel, rfl⟩
theorem dX7_goYears_147 : dc cX7_goYears 147 (.bipush 48) 2 149 := ⟨by decide +kernel, rfl⟩
theorem dX7_goYears_149 : dc cX7_goYears 149 (.isub) 1 150 := ⟨by decide +kernel, rfl⟩
theorem dX7_goYears_150 : dc cX7_goYears 150 (.invokevirtual 108) 3 153 := ⟨by decide +kernel, rfl⟩
theorem dX7_goYears_153 : dc cX7_goYears 153 (.putfield 97) 3 156 := ⟨by decide +kernel, rfl⟩
theorem dX7_goYears_156 : dc cX7_goYears 156 (.iinc 1 2) 3 159 := ⟨by decide +kernel, rfl⟩
theorem dX7_goYears_159 : dc cX7_goYears 159 (.aload_n 0) 1 160 := ⟨by decide +kernel, rfl⟩
theorem dX7_goYears_160 : dc cX7_goYears 160 (.getfield 97) 3 163 := ⟨by decide +kernel, rfl⟩
theorem dX7_goYears_163 : dc cX7_goYears 163 (.ifCond .le 8) 3 166 := ⟨by decide +kernel, rfl⟩
theorem dX7_goYears_166 : dc cX7_goYears 166 (.aload_n 0) 1 167 := ⟨by decide +kernel, rfl⟩
theorem dX7_goYears_167 : dc cX7_goYears 167 (.getfield 91) 3 170 := ⟨by decide +kernel, rfl⟩
theorem dX7_goYears_170 : dc cX7_goYears 170 (.ireturn) 1 171 := ⟨by decide +kernel, rfl⟩
theorem dX7_goYears_171 : dc cX7_goYears 171 (.aload_n 0) 1 172 := ⟨by decide +kernel, rfl⟩
theorem dX7_goYears_172 : dc cX7_goYears 172 (.aload_n 0) 1 173 := ⟨by decide +kernel, rfl⟩
theorem dX7_goYears_173 : dc cX7_goYears 173 (.getfield 74) 3 176 := ⟨by decide +kernel, rfl⟩
theorem dX7_goYears_176 : dc cX7_goYears 176 (.ifCond .ge 17) 3 179 := ⟨by decide +kernel, rfl⟩
theorem dX7_goYears_179 : dc cX7_goYears 179 (.aload_n 0) 1 180 := ⟨by decide +kernel, rfl⟩
theorem dX7_goYears_180 : dc cX7_goYears 180 (.getfield 80) 3 183 := ⟨by decide +kernel, rfl⟩
theorem dX7_goYears_183 : dc cX7_goYears 183 (.ifCond .eq 10) 3 186 := ⟨by decide +kernel, rfl⟩
theorem dX7_goYears_186 : dc cX7_goYears 186 (.aload_n 0) 1 187 := ⟨by decide +kernel, rfl⟩
theorem dX7_goYears_187 : dc cX7_goYears 187 (.getfield 91) 3 190 := ⟨by decide +kernel, rfl⟩
theorem dX7_goYears_190 : dc cX7_goYears 190 (.goto 7) 3 193 := ⟨by decide +kernel, rfl⟩
theorem dX7_goYears_193 : dc cX7_goYears 193 (.aload_n 0) 1 194 := ⟨by decide +kernel, rfl⟩
theorem dX7_goYears_194 : dc cX7_goYears 194 (.getfield 74) 3 197 := ⟨by decide +kernel, rfl⟩
theorem dX7_goYears_197 : dc cX7_goYears 197 (.putfield 74) 3 200 := ⟨by decide +kernel, rfl⟩
theorem dX7_goYears_200 : dc cX7_goYears 200 (.aload_n 0) 1 201 := ⟨by decide +kernel, rfl⟩
theorem dX7_goYears_201 : dc cX7_goYears 201 (.dup) 1 202 := ⟨by decide +kernel, rfl⟩
theorem dX7_goYears_202 : dc cX7_goYears 202 (.getfield 91) 3 205 := ⟨by decide +kernel, rfl⟩
theorem dX7_goYears_205 : dc cX7_goYears 205 (.iconst 1) 1 206 := ⟨by decide +kernel, rfl⟩
theorem dX7_goYears_206 : dc cX7_goYears 206 (.iadd) 1 207 := ⟨by decide +kernel, rfl⟩
theorem dX7_goYears_207 : dc cX7_goYears 207 (.putfield 91) 3 210 := ⟨by decide +kernel, rfl⟩
theorem dX7_goYears_210 : dc cX7_goYears 210 (.goto (-199)) 3 213 := ⟨by decide +kernel, rfl⟩
theorem dX7_goYears_213 : dc cX7_goYears 213 (.bipush (-6)) 2 215 := ⟨by decide +kernel, rfl⟩
theorem dX7_goYears_215 : dc cX7_goYears 215 (.ireturn) 1 216 := ⟨by decide +kernel, rfl⟩
theorem dX7_judge_0 : dc cX7_judge 0 (.iload_n 1) 1 1 := ⟨by decide +kernel, rfl⟩
theorem dX7_judge_1 : dc cX7_judge 1 (.iconst 0) 1 2 := ⟨by decide +kernel, rfl⟩
theorem dX7_judge_2 : dc cX7_judge 2 (.iconst 1) 1 3 := ⟨by decide +kernel, rfl⟩
theorem dX7_judge_3 : dc cX7_judge 3 (.invokestatic 41) 3 6 := ⟨by decide +kernel, rfl⟩
theorem dX7_judge_6 : dc cX7_judge 6 (.ifCond .ne 6) 3 9 := ⟨by decide +kernel, rfl⟩
theorem dX7_judge_9 : dc cX7_judge 9 (.bipush (-2)) 2 11 := ⟨by decide +kernel, rfl⟩
theorem dX7_judge_11 : dc cX7_judge 11 (.ireturn) 1 12 := ⟨by decide +kernel, rfl⟩
theorem dX7_judge_12 : dc cX7_judge 12 (.aload_n 0) 1 13 := ⟨by decide +kernel, rfl⟩
theorem dX7_judge_13 : dc cX7_judge 13 (.invokevirtual 67) 3 16 := ⟨by decide +kernel, rfl⟩
theorem dX7_judge_16 : dc cX7_judge 16 (.ifCond .lt 6) 3 19 := ⟨by decide +kernel, rfl⟩
theorem dX7_judge_19 : dc cX7_judge 19 (.bipush (-5)) 2 21 := ⟨by decide +kernel, rfl⟩
theorem dX7_judge_21 : dc cX7_judge 21 (.ireturn) 1 22 := ⟨by decide +kernel, rfl⟩
theorem dX7_judge_22 : dc cX7_judge 22 (.aload_n 0) 1 23 := ⟨by decide +kernel, rfl⟩
theorem dX7_judge_23 : dc cX7_judge 23 (.invokevirtual 111) 3 26 := ⟨by decide +kernel, rfl⟩
theorem dX7_judge_26 : dc cX7_judge 26 (.istore_n 2) 1 27 := ⟨by decide +kernel, rfl⟩
theorem dX7_judge_27 : dc cX7_judge 27 (.iload_n 2) 1 28 := ⟨by decide +kernel, rfl⟩
theorem dX7_judge_28 : dc cX7_judge 28 (.ifCond .lt 7) 3 31 := ⟨by decide +kernel, rfl⟩
theorem dX7_judge_31 : dc cX7_judge 31 (.iload_n 1) 1 32 := ⟨by decide +kernel, rfl⟩
theorem dX7_judge_32 : dc cX7_judge 32 (.ifCond .ne 7) 3 35 := ⟨by decide +kernel, rfl⟩
theorem dX7_judge_35 : dc cX7_judge 35 (.iload_n 2) 1 36 := ⟨by decide +kernel, rfl⟩
theorem dX7_judge_36 : dc cX7_judge 36 (.goto 7) 3 39 := ⟨by decide +kernel, rfl⟩
theorem dX7_judge_39 : dc cX7_judge 39 (.aload_n 0) 1 40 := ⟨by decide +kernel, rfl⟩
theorem dX7_judge_40 : dc cX7_judge 40 (.getfield 97) 3 43 := ⟨by decide +kernel, rfl⟩
theorem dX7_judge_43 : dc cX7_judge 43 (.ireturn) 1 44 := ⟨by decide +kernel, rfl⟩
theorem dX7_barOfYears_0 : dc cX7_barOfYears 0 (.aload_n 0) 1 1 := ⟨by decide +kernel, rfl⟩
theorem dX7_barOfYears_1 : dc cX7_barOfYears 1 (.invokevirtual 67) 3 4 := ⟨by decide +kernel, rfl⟩
theorem dX7_barOfYears_4 : dc cX7_barOfYears 4 (.ifCond .ge 10) 3 7 := ⟨by decide +kernel, rfl⟩
theorem dX7_barOfYears_7 : dc cX7_barOfYears 7 (.aload_n 0) 1 8 := ⟨by decide +kernel, rfl⟩
theorem dX7_barOfYears_8 : dc cX7_barOfYears 8 (.invokevirtual 111) 3 11 := ⟨by decide +kernel, rfl⟩
theorem dX7_barOfYears_11 : dc cX7_barOfYears 11 (.ifCond .lt 8) 3 14 := ⟨by decide +kernel, rfl⟩
theorem dX7_barOfYears_14 : dc cX7_barOfYears 14 (.bipush (-5)) 2 16 := ⟨by decide +kernel, rfl⟩
theorem dX7_barOfYears_16 : dc cX7_barOfYears 16 (.goto 4) 3 19 := ⟨by decide +kernel, rfl⟩
theorem dX7_barOfYears_19 : dc cX7_barOfYears 19 (.iconst 0) 1 20 := ⟨by decide +kernel, rfl⟩
theorem dX7_barOfYears_20 : dc cX7_barOfYears 20 (.ireturn) 1 21 := ⟨by decide +kernel, rfl⟩
theorem dX7_done_0 : dc cX7_done 0 (.aload_n 0) 1 1 := ⟨by decide +kernel, rfl⟩
theorem dX7_done_1 : dc cX7_done 1 (.invokevirtual 114) 3 4 := ⟨by decide +kernel, rfl⟩
theorem dX7_done_4 : dc cX7_done 4 (.ifCond .ge 6) 3 7 := ⟨by decide +kernel, rfl⟩
theorem dX7_done_7 : dc cX7_done 7 (.bipush (-5)) 2 9 := ⟨by decide +kernel, rfl⟩
theorem dX7_done_9 : dc cX7_done 9 (.ireturn) 1 10 := ⟨by decide +kernel, rfl⟩
theorem dX7_done_10 : dc cX7_done 10 (.iconst 0) 1 11 := ⟨by decide +kernel, rfl⟩
theorem dX7_done_11 : dc cX7_done 11 (.istore_n 1) 1 12 := ⟨by decide +kernel, rfl⟩
theorem dX7_done_12 : dc cX7_done 12 (.iload_n 1) 1 13 := ⟨by decide +kernel, rfl⟩
theorem dX7_done_13 : dc cX7_done 13 (.bipush 96) 2 15 := ⟨by decide +kernel, rfl⟩
theorem dX7_done_15 : dc cX7_done 15 (.if_icmp .ge 21) 3 18 := ⟨by decide +kernel, rfl⟩
theorem dX7_done_18 : dc cX7_done 18 (.aload_n 0) 1 19 := ⟨by decide +kernel, rfl⟩
theorem dX7_done_19 : dc cX7_done 19 (.getfield 7) 3 22 := ⟨by decide +kernel, rfl⟩
theorem dX7_done_22 : dc cX7_done 22 (.iload_n 1) 1 23 := ⟨by decide +kernel, rfl⟩
theorem dX7_done_23 : dc cX7_done 23 (.aload_n 0) 1 24 := ⟨by decide +kernel, rfl⟩
theorem dX7_done_24 : dc cX7_done 24 (.getfield 13) 3 27 := ⟨by decide +kernel, rfl⟩
theorem dX7_done_27 : dc cX7_done 27 (.iload_n 1) 1 28 := ⟨by decide +kernel, rfl⟩
theorem dX7_done_28 : dc cX7_done 28 (.iaload) 1 29 := ⟨by decide +kernel, rfl⟩
theorem dX7_done_29 : dc cX7_done 29 (.iastore) 1 30 := ⟨by decide +kernel, rfl⟩
theorem dX7_done_30 : dc cX7_done 30 (.iinc 1 1) 3 33 := ⟨by decide +kernel, rfl⟩
theorem dX7_done_33 : dc cX7_done 33 (.goto (-21)) 3 36 := ⟨by decide +kernel, rfl⟩
theorem dX7_done_36 : dc cX7_done 36 (.aload_n 0) 1 37 := ⟨by decide +kernel, rfl⟩
theorem dX7_done_37 : dc cX7_done 37 (.iconst 0) 1 38 := ⟨by decide +kernel, rfl⟩
theorem dX7_done_38 : dc cX7_done 38 (.putfield 60) 3 41 := ⟨by decide +kernel, rfl⟩
theorem dX7_done_41 : dc cX7_done 41 (.aload_n 0) 1 42 := ⟨by decide +kernel, rfl⟩
theorem dX7_done_42 : dc cX7_done 42 (.getfield 91) 3 45 := ⟨by decide +kernel, rfl⟩
theorem dX7_done_45 : dc cX7_done 45 (.ireturn) 1 46 := ⟨by decide +kernel, rfl⟩
theorem dX7_behind_0 : dc cX7_behind 0 (.iload_n 1) 1 1 := ⟨by decide +kernel, rfl⟩
theorem dX7_behind_1 : dc cX7_behind 1 (.invokestatic 45) 3 4 := ⟨by decide +kernel, rfl⟩
theorem dX7_behind_4 : dc cX7_behind 4 (.ifCond .ne 5) 3 7 := ⟨by decide +kernel, rfl⟩
theorem dX7_behind_7 : dc cX7_behind 7 (.iconst (-1)) 1 8 := ⟨by decide +kernel, rfl⟩
theorem dX7_behind_8 : dc cX7_behind 8 (.ireturn) 1 9 := ⟨by decide +kernel, rfl⟩
theorem dX7_behind_9 : dc cX7_behind 9 (.iload_n 2) 1 10 := ⟨by decide +kernel, rfl⟩
theorem dX7_behind_10 : dc cX7_behind 10 (.iconst 0) 1 11 := ⟨by decide +kernel, rfl⟩
theorem dX7_behind_11 : dc cX7_behind 11 (.iconst 3) 1 12 := ⟨by decide +kernel, rfl⟩
theorem dX7_behind_12 : dc cX7_behind 12 (.invokestatic 41) 3 15 := ⟨by decide +kernel, rfl⟩
theorem dX7_behind_15 : dc cX7_behind 15 (.ifCond .ne 6) 3 18 := ⟨by decide +kernel, rfl⟩
theorem dX7_behind_18 : dc cX7_behind 18 (.bipush (-2)) 2 20 := ⟨by decide +kernel, rfl⟩
theorem dX7_behind_20 : dc cX7_behind 20 (.ireturn) 1 21 := ⟨by decide +kernel, rfl⟩
theorem dX7_behind_21 : dc cX7_behind 21 (.aload_n 0) 1 22 := ⟨by decide +kernel, rfl⟩
theorem dX7_behind_22 : dc cX7_behind 22 (.invokevirtual 114) 3 25 := ⟨by decide +kernel, rfl⟩
theorem dX7_behind_25 : dc cX7_behind 25 (.ifCond .ge 6) 3 28 := ⟨by decide +kernel, rfl⟩
theorem dX7_behind_28 : dc cX7_behind 28 (.bipush (-5)) 2 30 := ⟨by decide +kernel, rfl⟩
theorem dX7_behind_30 : dc cX7_behind 30 (.ireturn) 1 31 := ⟨by decide +kernel, rfl⟩
theorem dX7_behind_31 : dc cX7_behind 31 (.iload_n 2) 1 32 := ⟨by decide +kernel, rfl⟩
theorem dX7_behind_32 : dc cX7_behind 32 (.ifCond .ne 17) 3 35 := ⟨by decide +kernel, rfl⟩
theorem dX7_behind_35 : dc cX7_behind 35 (.aload_n 0) 1 36 := ⟨by decide +kernel, rfl⟩
theorem dX7_behind_36 : dc cX7_behind 36 (.getfield 13) 3 39 := ⟨by decide +kernel, rfl⟩
theorem dX7_behind_39 : dc cX7_behind 39 (.bipush 94) 2 41 := ⟨by decide +kernel, rfl⟩
theorem dX7_behind_41 : dc cX7_behind 41 (.iaload) 1 42 := ⟨by decide +kernel, rfl⟩
theorem dX7_behind_42 : dc cX7_behind 42 (.iload_n 1) 1 43 := ⟨by decide +kernel, rfl⟩
theorem dX7_behind_43 : dc cX7_behind 43 (.ishr) 1 44 := ⟨by decide +kernel, rfl⟩
theorem dX7_behind_44 : dc cX7_behind 44 (.iconst 1) 1 45 := ⟨by decide +kernel, rfl⟩
theorem dX7_behind_45 : dc cX7_behind 45 (.iand) 1 46 := ⟨by decide +kernel, rfl⟩
theorem dX7_behind_46 : dc cX7_behind 46 (.goto 17) 3 49 := ⟨by decide +kernel, rfl⟩
theorem dX7_behind_49 : dc cX7_behind 49 (.aload_n 0) 1 50 := ⟨by decide +kernel, rfl⟩
theorem dX7_behind_50 : dc cX7_behind 50 (.getfield 13) 3 53 := ⟨by decide +kernel, rfl⟩
theorem dX7_behind_53 : dc cX7_behind 53 (.bipush 8) 2 55 := ⟨by decide +kernel, rfl⟩
theorem dX7_behind_55 : dc cX7_behind 55 (.iload_n 2) 1 56 := ⟨by decide +kernel, rfl⟩
theorem dX7_behind_56 : dc cX7_behind 56 (.imul) 1 57 := ⟨by decide +kernel, rfl⟩
theorem dX7_behind_57 : dc cX7_behind 57 (.bipush 8) 2 59 := ⟨by decide +kernel, rfl⟩
theorem dX7_behind_59 : dc cX7_behind 59 (.isub) 1 60 := ⟨by decide +kernel, rfl⟩
theorem dX7_behind_60 : dc cX7_behind 60 (.iload_n 1) 1 61 := ⟨by decide +kernel, rfl⟩
theorem dX7_behind_61 : dc cX7_behind 61 (.iadd) 1 62 := ⟨by decide +kernel, rfl⟩
theorem dX7_behind_62 : dc cX7_behind 62 (.iaload) 1 63 := ⟨by decide +kernel, rfl⟩
theorem dX7_behind_63 : dc cX7_behind 63 (.ireturn) 1 64 := ⟨by decide +kernel, rfl⟩
theorem dX7_then_0 : dc cX7_then 0 (.iload_n 1) 1 1 := ⟨by decide +kernel, rfl⟩
theorem dX7_then_1 : dc cX7_then 1 (.iconst 0) 1 2 := ⟨by decide +kernel, rfl⟩
theorem dX7_then_2 : dc cX7_then 2 (.iconst 3) 1 3 := ⟨by decide +kernel, rfl⟩
theorem dX7_then_3 : dc cX7_then 3 (.invokestatic 41) 3 6 := ⟨by decide +kernel, rfl⟩
theorem dX7_then_6 : dc cX7_then 6 (.ifCond .ne 6) 3 9 := ⟨by decide +kernel, rfl⟩
theorem dX7_then_9 : dc cX7_then 9 (.bipush (-2)) 2 11 := ⟨by decide +kernel, rfl⟩
theorem dX7_then_11 : dc cX7_then 11 (.ireturn) 1 12 := ⟨by decide +kernel, rfl⟩
theorem dX7_then_12 : dc cX7_then 12 (.aload_n 0) 1 13 := ⟨by decide +kernel, rfl⟩
theorem dX7_then_13 : dc cX7_then 13 (.invokevirtual 114) 3 16 := ⟨by decide +kernel, rfl⟩
theorem dX7_then_16 : dc cX7_then 16 (.ifCond .ge 6) 3 19 := ⟨by decide +kernel, rfl⟩
theorem dX7_then_19 : dc cX7_then 19 (.bipush (-5)) 2 21 := ⟨by decide +kernel, rfl⟩
theorem dX7_then_21 : dc cX7_then 21 (.ireturn) 1 22 := ⟨by decide +kernel, rfl⟩
theorem dX7_then_22 : dc cX7_then 22 (.iload_n 1) 1 23 := ⟨by decide +kernel, rfl⟩
theorem dX7_then_23 : dc cX7_then 23 (.iconst 2) 1 24 := ⟨by decide +kernel, rfl⟩
theorem dX7_then_24 : dc cX7_then 24 (.if_icmp .ge 15) 3 27 := ⟨by decide +kernel, rfl⟩
theorem dX7_then_27 : dc cX7_then 27 (.aload_n 0) 1 28 := ⟨by decide +kernel, rfl⟩
theorem dX7_then_28 : dc cX7_then 28 (.getfield 13) 3 31 := ⟨by decide +kernel, rfl⟩
theorem dX7_then_31 : dc cX7_then 31 (.bipush 94) 2 33 := ⟨by decide +kernel, rfl⟩
theorem dX7_then_33 : dc cX7_then 33 (.iload_n 1) 1 34 := ⟨by decide +kernel, rfl⟩
theorem dX7_then_34 : dc cX7_then 34 (.iadd) 1 35 := ⟨by decide +kernel, rfl⟩
theorem dX7_then_35 : dc cX7_then 35 (.iaload) 1 36 := ⟨by decide +kernel, rfl⟩
theorem dX7_then_36 : dc cX7_then 36 (.goto 19) 3 39 := ⟨by decide +kernel, rfl⟩
theorem dX7_then_39 : dc cX7_then 39 (.iload_n 1) 1 40 := ⟨by decide +kernel, rfl⟩
theorem dX7_then_40 : dc cX7_then 40 (.iconst 2) 1 41 := ⟨by decide +kernel, rfl⟩
theorem dX7_then_41 : dc cX7_then 41 (.if_icmp .ne 10) 3 44 := ⟨by decide +kernel, rfl⟩
theorem dX7_then_44 : dc cX7_then 44 (.aload_n 0) 1 45 := ⟨by decide +kernel, rfl⟩
theorem dX7_then_45 : dc cX7_then 45 (.getfield 71) 3 48 := ⟨by decide +kernel, rfl⟩
theorem dX7_then_48 : dc cX7_then 48 (.goto 7) 3 51 := ⟨by decide +kernel, rfl⟩
theorem dX7_then_51 : dc cX7_then 51 (.aload_n 0) 1 52 := ⟨by decide +kernel, rfl⟩
theorem dX7_then_52 : dc cX7_then 52 (.getfield 74) 3 55 := ⟨by decide +kernel, rfl⟩
theorem dX7_then_55 : dc cX7_then 55 (.ireturn) 1 56 := ⟨by decide +kernel, rfl⟩
theorem dX7_openSet_0 : dc cX7_openSet 0 (.iconst 0) 1 1 := ⟨by decide +kernel, rfl⟩
theorem dX7_openSet_1 : dc cX7_openSet 1 (.istore_n 2) 1 2 := ⟨by decide +kernel, rfl⟩
theorem dX7_openSet_2 : dc cX7_openSet 2 (.iconst 0) 1 3 := ⟨by decide +kernel, rfl⟩
theorem dX7_openSet_3 : dc cX7_openSet 3 (.istore_n 3) 1 4 := ⟨by decide +kernel, rfl⟩
theorem dX7_openSet_4 : dc cX7_openSet 4 (.iload_n 3) 1 5 := ⟨by decide +kernel, rfl⟩
theorem dX7_openSet_5 : dc cX7_openSet 5 (.bipush 8) 2 7 := ⟨by decide +kernel, rfl⟩
theorem dX7_openSet_7 : dc cX7_openSet 7 (.if_icmp .ge 41) 3 10 := ⟨by decide +kernel, rfl⟩
theorem dX7_openSet_10 : dc cX7_openSet 10 (.iload_n 2) 1 11 := ⟨by decide +kernel, rfl⟩
theorem dX7_openSet_11 : dc cX7_openSet 11 (.aload_n 0) 1 12 := ⟨by decide +kernel, rfl⟩
theorem dX7_openSet_12 : dc cX7_openSet 12 (.iload_n 3) 1 13 := ⟨by decide +kernel, rfl⟩
theorem dX7_openSet_13 : dc cX7_openSet 13 (.invokevirtual 117) 3 16 := ⟨by decide +kernel, rfl⟩
theorem dX7_openSet_16 : dc cX7_openSet 16 (.ifCond .eq 23) 3 19 := ⟨by decide +kernel, rfl⟩
theorem dX7_openSet_19 : dc cX7_openSet 19 (.aload_n 0) 1 20 := ⟨by decide +kernel, rfl⟩
theorem dX7_openSet_20 : dc cX7_openSet 20 (.iload_n 1) 1 21 := ⟨by decide +kernel, rfl⟩
theorem dX7_openSet_21 : dc cX7_openSet 21 (.aload_n 0) 1 22 := ⟨by decide +kernel, rfl⟩
theorem dX7_openSet_22 : dc cX7_openSet 22 (.getfield 7) 3 25 := ⟨by decide +kernel, rfl⟩
theorem dX7_openSet_25 : dc cX7_openSet 25 (.iload_n 3) 1 26 := ⟨by decide +kernel, rfl⟩
theorem dX7_openSet_26 : dc cX7_openSet 26 (.iaload) 1 27 := ⟨by decide +kernel, rfl⟩
theorem dX7_openSet_27 : dc cX7_openSet 27 (.invokevirtual 77) 3 30 := ⟨by decide +kernel, rfl⟩
theorem dX7_openSet_30 : dc cX7_openSet 30 (.ifCond .eq 9) 3 33 := ⟨by decide +kernel, rfl⟩
theorem dX7_openSet_33 : dc cX7_openSet 33 (.iconst 1) 1 34 := ⟨by decide +kernel, rfl⟩
theorem dX7_openSet_34 : dc cX7_openSet 34 (.iload_n 3) 1 35 := ⟨by decide +kernel, rfl⟩
theorem dX7_openSet_35 : dc cX7_openSet 35 (.ishl) 1 36 := ⟨by decide +kernel, rfl⟩
theorem dX7_openSet_36 : dc cX7_openSet 36 (.goto 4) 3 39 := ⟨by decide +kernel, rfl⟩
theorem dX7_openSet_39 : dc cX7_openSet 39 (.iconst 0) 1 40 := ⟨by decide +kernel, rfl⟩
theorem dX7_openSet_40 : dc cX7_openSet 40 (.ior) 1 41 := ⟨by decide +kernel, rfl⟩
theorem dX7_openSet_41 : dc cX7_openSet 41 (.istore_n 2) 1 42 := ⟨by decide +kernel, rfl⟩
theorem dX7_openSet_42 : dc cX7_openSet 42 (.iinc 3 1) 3 45 := ⟨by decide +kernel, rfl⟩
theorem dX7_openSet_45 : dc cX7_openSet 45 (.goto (-41)) 3 48 := ⟨by decide +kernel, rfl⟩
theorem dX7_openSet_48 : dc cX7_openSet 48 (.iload_n 2) 1 49 := ⟨by decide +kernel, rfl⟩
theorem dX7_openSet_49 : dc cX7_openSet 49 (.ireturn) 1 50 := ⟨by decide +kernel, rfl⟩
theorem dX7_opens_0 : dc cX7_opens 0 (.iload_n 1) 1 1 := ⟨by decide +kernel, rfl⟩
theorem dX7_opens_1 : dc cX7_opens 1 (.invokestatic 57) 3 4 := ⟨by decide +kernel, rfl⟩
theorem dX7_opens_4 : dc cX7_opens 4 (.ifCond .eq 11) 3 7 := ⟨by decide +kernel, rfl⟩
theorem dX7_opens_7 : dc cX7_opens 7 (.aload_n 0) 1 8 := ⟨by decide +kernel, rfl⟩
theorem dX7_opens_8 : dc cX7_opens 8 (.iload_n 1) 1 9 := ⟨by decide +kernel, rfl⟩
theorem dX7_opens_9 : dc cX7_opens 9 (.invokevirtual 120) 3 12 := ⟨by decide +kernel, rfl⟩
theorem dX7_opens_12 : dc cX7_opens 12 (.goto 4) 3 15 := ⟨by decide +kernel, rfl⟩
theorem dX7_opens_15 : dc cX7_opens 15 (.iconst (-1)) 1 16 := ⟨by decide +kernel, rfl⟩
theorem dX7_opens_16 : dc cX7_opens 16 (.ireturn) 1 17 := ⟨by decide +kernel, rfl⟩
theorem dX7_two_0 : dc cX7_two 0 (.iconst 0) 1 1 := ⟨by decide +kernel, rfl⟩
theorem dX7_two_1 : dc cX7_two 1 (.istore_n 1) 1 2 := ⟨by decide +kernel, rfl⟩
theorem dX7_two_2 : dc cX7_two 2 (.iconst 0) 1 3 := ⟨by decide +kernel, rfl⟩
theorem dX7_two_3 : dc cX7_two 3 (.istore_n 2) 1 4 := ⟨by decide +kernel, rfl⟩
theorem dX7_two_4 : dc cX7_two 4 (.iload_n 2) 1 5 := ⟨by decide +kernel, rfl⟩
theorem dX7_two_5 : dc cX7_two 5 (.bipush 6) 2 7 := ⟨by decide +kernel, rfl⟩
theorem dX7_two_7 : dc cX7_two 7 (.if_icmp .ge 31) 3 10 := ⟨by decide +kernel, rfl⟩
theorem dX7_two_10 : dc cX7_two 10 (.iload_n 1) 1 11 := ⟨by decide +kernel, rfl⟩
theorem dX7_two_11 : dc cX7_two 11 (.aload_n 0) 1 12 := ⟨by decide +kernel, rfl⟩
theorem dX7_two_12 : dc cX7_two 12 (.iload_n 2) 1 13 := ⟨by decide +kernel, rfl⟩
theorem dX7_two_13 : dc cX7_two 13 (.invokevirtual 120) 3 16 := ⟨by decide +kernel, rfl⟩
theorem dX7_two_16 : dc cX7_two 16 (.invokestatic 53) 3 19 := ⟨by decide +kernel, rfl⟩
theorem dX7_two_19 : dc cX7_two 19 (.iconst 1) 1 20 := ⟨by decide +kernel, rfl⟩
theorem dX7_two_20 : dc cX7_two 20 (.if_icmp .le 9) 3 23 := ⟨by decide +kernel, rfl⟩
theorem dX7_two_23 : dc cX7_two 23 (.iconst 1) 1 24 := ⟨by decide +kernel, rfl⟩
theorem dX7_two_24 : dc cX7_two 24 (.iload_n 2) 1 25 := ⟨by decide +kernel, rfl⟩
theorem dX7_two_25 : dc cX7_two 25 (.ishl) 1 26 := ⟨by decide +kernel, rfl⟩
theorem dX7_two_26 : dc cX7_two 26 (.goto 4) 3 29 := ⟨by decide +kernel, rfl⟩
theorem dX7_two_29 : dc cX7_two 29 (.iconst 0) 1 30 := ⟨by decide +kernel, rfl⟩
theorem dX7_two_30 : dc cX7_two 30 (.ior) 1 31 := ⟨by decide +kernel, rfl⟩
theorem dX7_two_31 : dc cX7_two 31 (.istore_n 1) 1 32 := ⟨by decide +kernel, rfl⟩
theorem dX7_two_32 : dc cX7_two 32 (.iinc 2 1) 3 35 := ⟨by decide +kernel, rfl⟩
theorem dX7_two_35 : dc cX7_two 35 (.goto (-31)) 3 38 := ⟨by decide +kernel, rfl⟩
theorem dX7_two_38 : dc cX7_two 38 (.iload_n 1) 1 39 := ⟨by decide +kernel, rfl⟩
theorem dX7_two_39 : dc cX7_two 39 (.ireturn) 1 40 := ⟨by decide +kernel, rfl⟩
theorem dX7_chain_0 : dc cX7_chain 0 (.iload_n 1) 1 1 := ⟨by decide +kernel, rfl⟩
theorem dX7_chain_1 : dc cX7_chain 1 (.invokestatic 45) 3 4 := ⟨by decide +kernel, rfl⟩
theorem dX7_chain_4 : dc cX7_chain 4 (.ifCond .ne 5) 3 7 := ⟨by decide +kernel, rfl⟩
theorem dX7_chain_7 : dc cX7_chain 7 (.iconst (-1)) 1 8 := ⟨by decide +kernel, rfl⟩
theorem dX7_chain_8 : dc cX7_chain 8 (.ireturn) 1 9 := ⟨by decide +kernel, rfl⟩
theorem dX7_chain_9 : dc cX7_chain 9 (.iload_n 2) 1 10 := ⟨by decide +kernel, rfl⟩
theorem dX7_chain_10 : dc cX7_chain 10 (.iconst 0) 1 11 := ⟨by decide +kernel, rfl⟩
theorem dX7_chain_11 : dc cX7_chain 11 (.iconst 1) 1 12 := ⟨by decide +kernel, rfl⟩
theorem dX7_chain_12 : dc cX7_chain 12 (.invokestatic 41) 3 15 := ⟨by decide +kernel, rfl⟩
theorem dX7_chain_15 : dc cX7_chain 15 (.ifCond .ne 6) 3 18 := ⟨by decide +kernel, rfl⟩
theorem dX7_chain_18 : dc cX7_chain 18 (.bipush (-2)) 2 20 := ⟨by decide +kernel, rfl⟩
theorem dX7_chain_20 : dc cX7_chain 20 (.ireturn) 1 21 := ⟨by decide +kernel, rfl⟩
theorem dX7_chain_21 : dc cX7_chain 21 (.iconst 1) 1 22 := ⟨by decide +kernel, rfl⟩
theorem dX7_chain_22 : dc cX7_chain 22 (.iload_n 1) 1 23 := ⟨by decide +kernel, rfl⟩
theorem dX7_chain_23 : dc cX7_chain 23 (.ishl) 1 24 := ⟨by decide +kernel, rfl⟩
theorem dX7_chain_24 : dc cX7_chain 24 (.istore_n 3) 1 25 := ⟨by decide +kernel, rfl⟩
theorem dX7_chain_25 : dc cX7_chain 25 (.bipush (-6)) 2 27 := ⟨by decide +kernel, rfl⟩
theorem dX7_chain_27 : dc cX7_chain 27 (.istore 4) 2 29 := ⟨by decide +kernel, rfl⟩
theorem dX7_chain_29 : dc cX7_chain 29 (.aload_n 0) 1 30 := ⟨by decide +kernel, rfl⟩
theorem dX7_chain_30 : dc cX7_chain 30 (.getfield 7) 3 33 := ⟨by decide +kernel, rfl⟩
theorem dX7_chain_33 : dc cX7_chain 33 (.bipush 16) 2 35 := ⟨by decide +kernel, rfl⟩
theorem dX7_chain_35 : dc cX7_chain 35 (.iload_n 1) 1 36 := ⟨by decide +kernel, rfl⟩
theorem dX7_chain_36 : dc cX7_chain 36 (.iadd) 1 37 := ⟨by decide +kernel, rfl⟩
theorem dX7_chain_37 : dc cX7_chain 37 (.iaload) 1 38 := ⟨by decide +kernel, rfl⟩
theorem dX7_chain_38 : dc cX7_chain 38 (.istore 5) 2 40 := ⟨by decide +kernel, rfl⟩
theorem dX7_chain_40 : dc cX7_chain 40 (.iload 5) 2 42 := ⟨by decide +kernel, rfl⟩
theorem dX7_chain_42 : dc cX7_chain 42 (.ifCond .lt 38) 3 45 := ⟨by decide +kernel, rfl⟩
theorem dX7_chain_45 : dc cX7_chain 45 (.iload_n 3) 1 46 := ⟨by decide +kernel, rfl⟩
theorem dX7_chain_46 : dc cX7_chain 46 (.iload 5) 2 48 := ⟨by decide +kernel, rfl⟩
theorem dX7_chain_48 : dc cX7_chain 48 (.invokestatic 49) 3 51 := ⟨by decide +kernel, rfl⟩
theorem dX7_chain_51 : dc cX7_chain 51 (.ifCond .ne 29) 3 54 := ⟨by decide +kernel, rfl⟩
theorem dX7_chain_54 : dc cX7_chain 54 (.iload_n 3) 1 55 := ⟨by decide +kernel, rfl⟩
theorem dX7_chain_55 : dc cX7_chain 55 (.iconst 1) 1 56 := ⟨by decide +kernel, rfl⟩
theorem dX7_chain_56 : dc cX7_chain 56 (.iload 5) 2 58 := ⟨by decide +kernel, rfl⟩
theorem dX7_chain_58 : dc cX7_chain 58 (.ishl) 1 59 := ⟨by decide +kernel, rfl⟩
theorem dX7_chain_59 : dc cX7_chain 59 (.ior) 1 60 := ⟨by decide +kernel, rfl⟩
theorem dX7_chain_60 : dc cX7_chain 60 (.istore_n 3) 1 61 := ⟨by decide +kernel, rfl⟩
theorem dX7_chain_61 : dc cX7_chain 61 (.iload 5) 2 63 := ⟨by decide +kernel, rfl⟩
theorem dX7_chain_63 : dc cX7_chain 63 (.istore 4) 2 65 := ⟨by decide +kernel, rfl⟩
theorem dX7_chain_65 : dc cX7_chain 65 (.aload_n 0) 1 66 := ⟨by decide +kernel, rfl⟩
theorem dX7_chain_66 : dc cX7_chain 66 (.getfield 7) 3 69 := ⟨by decide +kernel, rfl⟩
theorem dX7_chain_69 : dc cX7_chain 69 (.bipush 16) 2 71 := ⟨by decide +kernel, rfl⟩
theorem dX7_chain_71 : dc cX7_chain 71 (.iload 5) 2 73 := ⟨by decide +kernel, rfl⟩
theorem dX7_chain_73 : dc cX7_chain 73 (.iadd) 1 74 := ⟨by decide +kernel, rfl⟩
theorem dX7_chain_74 : dc cX7_chain 74 (.iaload) 1 75 := ⟨by decide +kernel, rfl⟩
theorem dX7_chain_75 : dc cX7_chain 75 (.istore 5) 2 77 := ⟨by decide +kernel, rfl⟩
theorem dX7_chain_77 : dc cX7_chain 77 (.goto (-37)) 3 80 := ⟨by decide +kernel, rfl⟩
theorem dX7_chain_80 : dc cX7_chain 80 (.iload_n 2) 1 81 := ⟨by decide +kernel, rfl⟩
theorem dX7_chain_81 : dc cX7_chain 81 (.ifCond .ne 12) 3 84 := ⟨by decide +kernel, rfl⟩
theorem dX7_chain_84 : dc cX7_chain 84 (.iload_n 3) 1 85 := ⟨by decide +kernel, rfl⟩
theorem dX7_chain_85 : dc cX7_chain 85 (.invokestatic 53) 3 88 := ⟨by decide +kernel, rfl⟩
theorem dX7_chain_88 : dc cX7_chain 88 (.iconst 1) 1 89 := ⟨by decide +kernel, rfl⟩
theorem dX7_chain_89 : dc cX7_chain 89 (.isub) 1 90 := ⟨by decide +kernel, rfl⟩
theorem dX7_chain_90 : dc cX7_chain 90 (.goto 5) 3 93 := ⟨by decide +kernel, rfl⟩
theorem dX7_chain_93 : dc cX7_chain 93 (.iload 4) 2 95 := ⟨by decide +kernel, rfl⟩
theorem dX7_chain_95 : dc cX7_chain 95 (.ireturn) 1 96 := ⟨by decide +kernel, rfl⟩
theorem dX7_owes_0 : dc cX7_owes 0 (.iload_n 1) 1 1 := ⟨by decide +kernel, rfl⟩
theorem dX7_owes_1 : dc cX7_owes 1 (.invokestatic 45) 3 4 := ⟨by decide +kernel, rfl⟩
theorem dX7_owes_4 : dc cX7_owes 4 (.ifCond .eq 32) 3 7 := ⟨by decide +kernel, rfl⟩
theorem dX7_owes_7 : dc cX7_owes 7 (.iload_n 2) 1 8 := ⟨by decide +kernel, rfl⟩
theorem dX7_owes_8 : dc cX7_owes 8 (.invokestatic 45) 3 11 := ⟨by decide +kernel, rfl⟩
theorem dX7_owes_11 : dc cX7_owes 11 (.ifCond .eq 25) 3 14 := ⟨by decide +kernel, rfl⟩
theorem dX7_owes_14 : dc cX7_owes 14 (.iload_n 1) 1 15 := ⟨by decide +kernel, rfl⟩
theorem dX7_owes_15 : dc cX7_owes 15 (.iload_n 2) 1 16 := ⟨by decide +kernel, rfl⟩
theorem dX7_owes_16 : dc cX7_owes 16 (.if_icmp .eq 20) 3 19 := ⟨by decide +kernel, rfl⟩
theorem dX7_owes_19 : dc cX7_owes 19 (.aload_n 0) 1 20 := ⟨by decide +kernel, rfl⟩
theorem dX7_owes_20 : dc cX7_owes 20 (.getfield 7) 3 23 := ⟨by decide +kernel, rfl⟩
theorem dX7_owes_23 : dc cX7_owes 23 (.bipush 24) 2 25 := ⟨by decide +kernel, rfl⟩
theorem dX7_owes_25 : dc cX7_owes 25 (.bipush 8) 2 27 := ⟨by decide +kernel, rfl⟩
theorem dX7_owes_27 : dc cX7_owes 27 (.iload_n 1) 1 28 := ⟨by decide +kernel, rfl⟩
theorem dX7_owes_28 : dc cX7_owes 28 (.imul) 1 29 := ⟨by decide +kernel, rfl⟩
theorem dX7_owes_29 : dc cX7_owes 29 (.iadd) 1 30 := ⟨by decide +kernel, rfl⟩
theorem dX7_owes_30 : dc cX7_owes 30 (.iload_n 2) 1 31 := ⟨by decide +kernel, rfl⟩
theorem dX7_owes_31 : dc cX7_owes 31 (.iadd) 1 32 := ⟨by decide +kernel, rfl⟩
theorem dX7_owes_32 : dc cX7_owes 32 (.iaload) 1 33 := ⟨by decide +kernel, rfl⟩
theorem dX7_owes_33 : dc cX7_owes 33 (.goto 4) 3 36 := ⟨by decide +kernel, rfl⟩
theorem dX7_owes_36 : dc cX7_owes 36 (.iconst (-1)) 1 37 := ⟨by decide +kernel, rfl⟩
theorem dX7_owes_37 : dc cX7_owes 37 (.ireturn) 1 38 := ⟨by decide +kernel, rfl⟩
theorem dX7_netted_0 : dc cX7_netted 0 (.iload_n 1) 1 1 := ⟨by decide +kernel, rfl⟩
theorem dX7_netted_1 : dc cX7_netted 1 (.invokestatic 45) 3 4 := ⟨by decide +kernel, rfl⟩
theorem dX7_netted_4 : dc cX7_netted 4 (.ifCond .ne 5) 3 7 := ⟨by decide +kernel, rfl⟩
theorem dX7_netted_7 : dc cX7_netted 7 (.iconst (-1)) 1 8 := ⟨by decide +kernel, rfl⟩
theorem dX7_netted_8 : dc cX7_netted 8 (.ireturn) 1 9 := ⟨by decide +kernel, rfl⟩
theorem dX7_netted_9 : dc cX7_netted 9 (.sipush 10000) 3 12 := ⟨by decide +kernel, rfl⟩
theorem dX7_netted_12 : dc cX7_netted 12 (.istore_n 2) 1 13 := ⟨by decide +kernel, rfl⟩
theorem dX7_netted_13 : dc cX7_netted 13 (.iconst 0) 1 14 := ⟨by decide +kernel, rfl⟩
theorem dX7_netted_14 : dc cX7_netted 14 (.istore_n 3) 1 15 := ⟨by decide +kernel, rfl⟩
theorem dX7_netted_15 : dc cX7_netted 15 (.iload_n 3) 1 16 := ⟨by decide +kernel, rfl⟩
theorem dX7_netted_16 : dc cX7_netted 16 (.bipush 8) 2 18 := ⟨by decide +kernel, rfl⟩
theorem dX7_netted_18 : dc cX7_netted 18 (.if_icmp .ge 41) 3 21 := ⟨by decide +kernel, rfl⟩
theorem dX7_netted_21 : dc cX7_netted 21 (.iload_n 2) 1 22 := ⟨by decide +kernel, rfl⟩
theorem dX7_netted_22 : dc cX7_netted 22 (.aload_n 0) 1 23 := ⟨by decide +kernel, rfl⟩
theorem dX7_netted_23 : dc cX7_netted 23 (.getfield 7) 3 26 := ⟨by decide +kernel, rfl⟩
theorem dX7_netted_26 : dc cX7_netted 26 (.bipush 24) 2 28 := ⟨by decide +kernel, rfl⟩
theorem dX7_netted_28 : dc cX7_netted 28 (.bipush 8) 2 30 := ⟨by decide +kernel, rfl⟩
theorem dX7_netted_30 : dc cX7_netted 30 (.iload_n 3) 1 31 := ⟨by decide +kernel, rfl⟩
theorem dX7_netted_31 : dc cX7_netted 31 (.imul) 1 32 := ⟨by decide +kernel, rfl⟩
theorem dX7_netted_32 : dc cX7_netted 32 (.iadd) 1 33 := ⟨by decide +kernel, rfl⟩
theorem dX7_netted_33 : dc cX7_netted 33 (.iload_n 1) 1 34 := ⟨by decide +kernel, rfl⟩
theorem dX7_netted_34 : dc cX7_netted 34 (.iadd) 1 35 := ⟨by decide +kernel, rfl⟩
theorem dX7_netted_35 : dc cX7_netted 35 (.iaload) 1 36 := ⟨by decide +kernel, rfl⟩
theorem dX7_netted_36 : dc cX7_netted 36 (.aload_n 0) 1 37 := ⟨by decide +kernel, rfl⟩
theorem dX7_netted_37 : dc cX7_netted 37 (.getfield 7) 3 40 := ⟨by decide +kernel, rfl⟩
theorem dX7_netted_40 : dc cX7_netted 40 (.bipush 24) 2 42 := ⟨by decide +kernel, rfl⟩
theorem dX7_netted_42 : dc cX7_netted 42 (.bipush 8) 2 44 := ⟨by decide +kernel, rfl⟩
theorem dX7_netted_44 : dc cX7_netted 44 (.iload_n 1) 1 45 := ⟨by decide +kernel, rfl⟩
theorem dX7_netted_45 : dc cX7_netted 45 (.imul) 1 46 := ⟨by decide +kernel, rfl⟩
theorem dX7_netted_46 : dc cX7_netted 46 (.iadd) 1 47 := ⟨by decide +kernel, rfl⟩
theorem dX7_netted_47 : dc cX7_netted 47 (.iload_n 3) 1 48 := ⟨by decide +kernel, rfl⟩
theorem dX7_netted_48 : dc cX7_netted 48 (.iadd) 1 49 := ⟨by decide +kernel, rfl⟩
theorem dX7_netted_49 : dc cX7_netted 49 (.iaload) 1 50 := ⟨by decide +kernel, rfl⟩
theorem dX7_netted_50 : dc cX7_netted 50 (.isub) 1 51 := ⟨by decide +kernel, rfl⟩
theorem dX7_netted_51 : dc cX7_netted 51 (.iadd) 1 52 := ⟨by decide +kernel, rfl⟩
theorem dX7_netted_52 : dc cX7_netted 52 (.istore_n 2) 1 53 := ⟨by decide +kernel, rfl⟩
theorem dX7_netted_53 : dc cX7_netted 53 (.iinc 3 1) 3 56 := ⟨by decide +kernel, rfl⟩
theorem dX7_netted_56 : dc cX7_netted 56 (.goto (-41)) 3 59 := ⟨by decide +kernel, rfl⟩
theorem dX7_netted_59 : dc cX7_netted 59 (.iload_n 2) 1 60 := ⟨by decide +kernel, rfl⟩
theorem dX7_netted_60 : dc cX7_netted 60 (.ireturn) 1 61 := ⟨by decide +kernel, rfl⟩
theorem dX7_rings_0 : dc cX7_rings 0 (.iconst 0) 1 1 := ⟨by decide +kernel, rfl⟩
theorem dX7_rings_1 : dc cX7_rings 1 (.istore_n 1) 1 2 := ⟨by decide +kernel, rfl⟩
theorem dX7_rings_2 : dc cX7_rings 2 (.iconst 0) 1 3 := ⟨by decide +kernel, rfl⟩
theorem dX7_rings_3 : dc cX7_rings 3 (.istore_n 2) 1 4 := ⟨by decide +kernel, rfl⟩
theorem dX7_rings_4 : dc cX7_rings 4 (.iload_n 2) 1 5 := ⟨by decide +kernel, rfl⟩
theorem dX7_rings_5 : dc cX7_rings 5 (.bipush 8) 2 7 := ⟨by decide +kernel, rfl⟩
theorem dX7_rings_7 : dc cX7_rings 7 (.if_icmp .ge 134) 3 10 := ⟨by decide +kernel, rfl⟩
theorem dX7_rings_10 : dc cX7_rings 10 (.iconst 0) 1 11 := ⟨by decide +kernel, rfl⟩
theorem dX7_rings_11 : dc cX7_rings 11 (.istore_n 3) 1 12 := ⟨by decide +kernel, rfl⟩
theorem dX7_rings_12 : dc cX7_rings 12 (.iconst 0) 1 13 := ⟨by decide +kernel, rfl⟩
theorem dX7_rings_13 : dc cX7_rings 13 (.istore 4) 2 15 := ⟨by decide +kernel, rfl⟩
theorem dX7_rings_15 : dc cX7_rings 15 (.iload 4) 2 17 := ⟨by decide +kernel, rfl⟩
theorem dX7_rings_17 : dc cX7_rings 17 (.bipush 8) 2 19 := ⟨by decide +kernel, rfl⟩
theorem dX7_rings_19 : dc cX7_rings 19 (.if_icmp .ge 98) 3 22 := ⟨by decide +kernel, rfl⟩
theorem dX7_rings_22 : dc cX7_rings 22 (.iconst 0) 1 23 := ⟨by decide +kernel, rfl⟩
theorem dX7_rings_23 : dc cX7_rings 23 (.istore 5) 2 25 := ⟨by decide +kernel, rfl⟩
theorem dX7_rings_25 : dc cX7_rings 25 (.iload 5) 2 27 := ⟨by decide +kernel, rfl⟩
theorem dX7_rings_27 : dc cX7_rings 27 (.bipush 8) 2 29 := ⟨by decide +kernel, rfl⟩
theorem dX7_rings_29 : dc cX7_rings 29 (.if_icmp .ge 82) 3 32 := ⟨by decide +kernel, rfl⟩
theorem dX7_rings_32 : dc cX7_rings 32 (.iconst 0) 1 33 := ⟨by decide +kernel, rfl⟩
theorem dX7_rings_33 : dc cX7_rings 33 (.istore 6) 2 35 := ⟨by decide +kernel, rfl⟩
theorem dX7_rings_35 : dc cX7_rings 35 (.iload 6) 2 37 := ⟨by decide +kernel, rfl⟩
theorem dX7_rings_37 : dc cX7_rings 37 (.bipush 8) 2 39 := ⟨by decide +kernel, rfl⟩
theorem dX7_rings_39 : dc cX7_rings 39 (.if_icmp .ge 66) 3 42 := ⟨by decide +kernel, rfl⟩
theorem dX7_rings_42 : dc cX7_rings 42 (.iload 5) 2 44 := ⟨by decide +kernel, rfl⟩
theorem dX7_rings_44 : dc cX7_rings 44 (.iload_n 2) 1 45 := ⟨by decide +kernel, rfl⟩
theorem dX7_rings_45 : dc cX7_rings 45 (.if_icmp .eq 12) 3 48 := ⟨by decide +kernel, rfl⟩
theorem dX7_rings_48 : dc cX7_rings 48 (.iload_n 3) 1 49 := ⟨by decide +kernel, rfl⟩
theorem dX7_rings_49 : dc cX7_rings 49 (.iload 5) 2 51 := ⟨by decide +kernel, rfl⟩
theorem dX7_rings_51 : dc cX7_rings 51 (.invokestatic 49) 3 54 := ⟨by decide +kernel, rfl⟩
theorem dX7_rings_54 : dc cX7_rings 54 (.ifCond .eq 7) 3 57 := ⟨by decide +kernel, rfl⟩
theorem dX7_rings_57 : dc cX7_rings 57 (.iconst 1) 1 58 := ⟨by decide +kernel, rfl⟩
theorem dX7_rings_58 : dc cX7_rings 58 (.goto 4) 3 61 := ⟨by decide +kernel, rfl⟩
theorem dX7_rings_61 : dc cX7_rings 61 (.iconst 0) 1 62 := ⟨by decide +kernel, rfl⟩
theorem dX7_rings_62 : dc cX7_rings 62 (.istore 7) 2 64 := ⟨by decide +kernel, rfl⟩
theorem dX7_rings_64 : dc cX7_rings 64 (.iload_n 3) 1 65 := ⟨by decide +kernel, rfl⟩
theorem dX7_rings_65 : dc cX7_rings 65 (.iload 7) 2 67 := ⟨by decide +kernel, rfl⟩
theorem dX7_rings_67 : dc cX7_rings 67 (.ifCond .eq 29) 3 70 := ⟨by decide +kernel, rfl⟩
theorem dX7_rings_70 : dc cX7_rings 70 (.aload_n 0) 1 71 := ⟨by decide +kernel, rfl⟩
theorem dX7_rings_71 : dc cX7_rings 71 (.getfield 7) 3 74 := ⟨by decide +kernel, rfl⟩
theorem dX7_rings_74 : dc cX7_rings 74 (.bipush 24) 2 76 := ⟨by decide +kernel, rfl⟩
theorem dX7_rings_76 : dc cX7_rings 76 (.bipush 8) 2 78 := ⟨by decide +kernel, rfl⟩
theorem dX7_rings_78 : dc cX7_rings 78 (.iload 5) 2 80 := ⟨by decide +kernel, rfl⟩
theorem dX7_rings_80 : dc cX7_rings 80 (.imul) 1 81 := ⟨by decide +kernel, rfl⟩
theorem dX7_rings_81 : dc cX7_rings 81 (.iadd) 1 82 := ⟨by decide +kernel, rfl⟩
theorem dX7_rings_82 : dc cX7_rings 82 (.iload 6) 2 84 := ⟨by decide +kernel, rfl⟩
theorem dX7_rings_84 : dc cX7_rings 84 (.iadd) 1 85 := ⟨by decide +kernel, rfl⟩
theorem dX7_rings_85 : dc cX7_rings 85 (.iaload) 1 86 := ⟨by decide +kernel, rfl⟩
theorem dX7_rings_86 : dc cX7_rings 86 (.ifCond .le 10) 3 89 := ⟨by decide +kernel, rfl⟩
theorem dX7_rings_89 : dc cX7_rings 89 (.iconst 1) 1 90 := ⟨by decide +kernel, rfl⟩
theorem dX7_rings_90 : dc cX7_rings 90 (.iload 6) 2 92 := ⟨by decide +kernel, rfl⟩
theorem dX7_rings_92 : dc cX7_rings 92 (.ishl) 1 93 := ⟨by decide +kernel, rfl⟩
theorem dX7_rings_93 : dc cX7_rings 93 (.goto 4) 3 96 := ⟨by decide +kernel, rfl⟩
theorem dX7_rings_96 : dc cX7_rings 96 (.iconst 0) 1 97 := ⟨by decide +kernel, rfl⟩
theorem dX7_rings_97 : dc cX7_rings 97 (.ior) 1 98 := ⟨by decide +kernel, rfl⟩
theorem dX7_rings_98 : dc cX7_rings 98 (.istore_n 3) 1 99 := ⟨by decide +kernel, rfl⟩
theorem dX7_rings_99 : dc cX7_rings 99 (.iinc 6 1) 3 102 := ⟨by decide +kernel, rfl⟩
theorem dX7_rings_102 : dc cX7_rings 102 (.goto (-67)) 3 105 := ⟨by decide +kernel, rfl⟩
theorem dX7_rings_105 : dc cX7_rings 105 (.iinc 5 1) 3 108 := ⟨by decide +kernel, rfl⟩
theorem dX7_rings_108 : dc cX7_rings 108 (.goto (-83)) 3 111 := ⟨by decide +kernel, rfl⟩
theorem dX7_rings_111 : dc cX7_rings 111 (.iinc 4 1) 3 114 := ⟨by decide +kernel, rfl⟩
theorem dX7_rings_114 : dc cX7_rings 114 (.goto (-99)) 3 117 := ⟨by decide +kernel, rfl⟩
theorem dX7_rings_117 : dc cX7_rings 117 (.iload_n 1) 1 118 := ⟨by decide +kernel, rfl⟩
theorem dX7_rings_118 : dc cX7_rings 118 (.iload_n 3) 1 119 := ⟨by decide +kernel, rfl⟩
theorem dX7_rings_119 : dc cX7_rings 119 (.iload_n 2) 1 120 := ⟨by decide +kernel, rfl⟩
theorem dX7_rings_120 : dc cX7_rings 120 (.invokestatic 49) 3 123 := ⟨by decide +kernel, rfl⟩
theorem dX7_rings_123 : dc cX7_rings 123 (.ifCond .eq 9) 3 126 := ⟨by decide +kernel, rfl⟩
theorem dX7_rings_126 : dc cX7_rings 126 (.iconst 1) 1 127 := ⟨by decide +kernel, rfl⟩
theorem dX7_rings_127 : dc cX7_rings 127 (.iload_n 2) 1 128 := ⟨by decide +kernel, rfl⟩
theorem dX7_rings_128 : dc cX7_rings 128 (.ishl) 1 129 := ⟨by decide +kernel, rfl⟩
theorem dX7_rings_129 : dc cX7_rings 129 (.goto 4) 3 132 := ⟨by decide +kernel, rfl⟩
theorem dX7_rings_132 : dc cX7_rings 132 (.iconst 0) 1 133 := ⟨by decide +kernel, rfl⟩
theorem dX7_rings_133 : dc cX7_rings 133 (.ior) 1 134 := ⟨by decide +kernel, rfl⟩
theorem dX7_rings_134 : dc cX7_rings 134 (.istore_n 1) 1 135 := ⟨by decide +kernel, rfl⟩
theorem dX7_rings_135 : dc cX7_rings 135 (.iinc 2 1) 3 138 := ⟨by decide +kernel, rfl⟩
theorem dX7_rings_138 : dc cX7_rings 138 (.goto (-134)) 3 141 := ⟨by decide +kernel, rfl⟩
theorem dX7_rings_141 : dc cX7_rings 141 (.iload_n 1) 1 142 := ⟨by decide +kernel, rfl⟩
theorem dX7_rings_142 : dc cX7_rings 142 (.ireturn) 1 143 := ⟨by decide +kernel, rfl⟩
theorem dX7_note_0 : dc cX7_note 0 (.aload_n 0) 1 1 := ⟨by decide +kernel, rfl⟩
theorem dX7_note_1 : dc cX7_note 1 (.iload_n 1) 1 2 := ⟨by decide +kernel, rfl⟩
theorem dX7_note_2 : dc cX7_note 2 (.invokevirtual 117) 3 5 := ⟨by decide +kernel, rfl⟩
theorem dX7_note_5 : dc cX7_note 5 (.ifCond .ne 5) 3 8 := ⟨by decide +kernel, rfl⟩
theorem dX7_note_8 : dc cX7_note 8 (.iconst (-1)) 1 9 := ⟨by decide +kernel, rfl⟩
theorem dX7_note_9 : dc cX7_note 9 (.ireturn) 1 10 := ⟨by decide +kernel, rfl⟩
theorem dX7_note_10 : dc cX7_note 10 (.iload_n 2) 1 11 := ⟨by decide +kernel, rfl⟩
theorem dX7_note_11 : dc cX7_note 11 (.iconst 0) 1 12 := ⟨by decide +kernel, rfl⟩
theorem dX7_note_12 : dc cX7_note 12 (.iconst 1) 1 13 := ⟨by decide +kernel, rfl⟩
theorem dX7_note_13 : dc cX7_note 13 (.invokestatic 41) 3 16 := ⟨by decide +kernel, rfl⟩
theorem dX7_note_16 : dc cX7_note 16 (.ifCond .ne 6) 3 19 := ⟨by decide +kernel, rfl⟩
theorem dX7_note_19 : dc cX7_note 19 (.bipush (-2)) 2 21 := ⟨by decide +kernel, rfl⟩
theorem dX7_note_21 : dc cX7_note 21 (.ireturn) 1 22 := ⟨by decide +kernel, rfl⟩
theorem dX7_note_22 : dc cX7_note 22 (.bipush (-6)) 2 24 := ⟨by decide +kernel, rfl⟩
theorem dX7_note_24 : dc cX7_note 24 (.istore_n 3) 1 25 := ⟨by decide +kernel, rfl⟩
theorem dX7_note_25 : dc cX7_note 25 (.iconst 0) 1 26 := ⟨by decide +kernel, rfl⟩
theorem dX7_note_26 : dc cX7_note 26 (.istore 4) 2 28 := ⟨by decide +kernel, rfl⟩
theorem dX7_note_28 : dc cX7_note 28 (.iload 4) 2 30 := ⟨by decide +kernel, rfl⟩
theorem dX7_note_30 : dc cX7_note 30 (.sipush 256) 3 33 := ⟨by decide +kernel, rfl⟩
theorem dX7_note_33 : dc cX7_note 33 (.if_icmp .ge 116) 3 36 := ⟨by decide +kernel, rfl⟩
theorem dX7_note_36 : dc cX7_note 36 (.iload 4) 2 38 := ⟨by decide +kernel, rfl⟩
theorem dX7_note_38 : dc cX7_note 38 (.aload_n 0) 1 39 := ⟨by decide +kernel, rfl⟩
theorem dX7_note_39 : dc cX7_note 39 (.getfield 7) 3 42 := ⟨by decide +kernel, rfl⟩
theorem dX7_note_42 : dc cX7_note 42 (.iload_n 1) 1 43 := ⟨by decide +kernel, rfl⟩
theorem dX7_note_43 : dc cX7_note 43 (.iaload) 1 44 := ⟨by decide +kernel, rfl⟩
theorem dX7_note_44 : dc cX7_note 44 (.iconst (-1)) 1 45 := ⟨by decide +kernel, rfl⟩
theorem dX7_note_45 : dc cX7_note 45 (.ixor) 1 46 := ⟨by decide +kernel, rfl⟩
theorem dX7_note_46 : dc cX7_note 46 (.iand) 1 47 := ⟨by decide +kernel, rfl⟩
theorem dX7_note_47 : dc cX7_note 47 (.ifCond .ne 23) 3 50 := ⟨by decide +kernel, rfl⟩
theorem dX7_note_50 : dc cX7_note 50 (.iload_n 3) 1 51 := ⟨by decide +kernel, rfl⟩
theorem dX7_note_51 : dc cX7_note 51 (.ifCond .lt 15) 3 54 := ⟨by decide +kernel, rfl⟩
theorem dX7_note_54 : dc cX7_note 54 (.iload 4) 2 56 := ⟨by decide +kernel, rfl⟩
theorem dX7_note_56 : dc cX7_note 56 (.invokestatic 53) 3 59 := ⟨by decide +kernel, rfl⟩
theorem dX7_note_59 : dc cX7_note 59 (.iload_n 3) 1 60 := ⟨by decide +kernel, rfl⟩
theorem dX7_note_60 : dc cX7_note 60 (.invokestatic 53) 3 63 := ⟨by decide +kernel, rfl⟩
theorem dX7_note_63 : dc cX7_note 63 (.if_icmp .ge 7) 3 66 := ⟨by decide +kernel, rfl⟩
theorem dX7_note_66 : dc cX7_note 66 (.iconst 1) 1 67 := ⟨by decide +kernel, rfl⟩
theorem dX7_note_67 : dc cX7_note 67 (.goto 4) 3 70 := ⟨by decide +kernel, rfl⟩
theorem dX7_note_70 : dc cX7_note 70 (.iconst 0) 1 71 := ⟨by decide +kernel, rfl⟩
theorem dX7_note_71 : dc cX7_note 71 (.istore 5) 2 73 := ⟨by decide +kernel, rfl⟩
theorem dX7_note_73 : dc cX7_note 73 (.iconst 0) 1 74 := ⟨by decide +kernel, rfl⟩
theorem dX7_note_74 : dc cX7_note 74 (.istore 6) 2 76 := ⟨by decide +kernel, rfl⟩
theorem dX7_note_76 : dc cX7_note 76 (.iload 6) 2 78 := ⟨by decide +kernel, rfl⟩
theorem dX7_note_78 : dc cX7_note 78 (.bipush 8) 2 80 := ⟨by decide +kernel, rfl⟩
theorem dX7_note_80 : dc cX7_note 80 (.if_icmp .ge 51) 3 83 := ⟨by decide +kernel, rfl⟩
theorem dX7_note_83 : dc cX7_note 83 (.iload 5) 2 85 := ⟨by decide +kernel, rfl⟩
theorem dX7_note_85 : dc cX7_note 85 (.ifCond .eq 37) 3 88 := ⟨by decide +kernel, rfl⟩
theorem dX7_note_88 : dc cX7_note 88 (.iload 6) 2 90 := ⟨by decide +kernel, rfl⟩
theorem dX7_note_90 : dc cX7_note 90 (.iload_n 1) 1 91 := ⟨by decide +kernel, rfl⟩
theorem dX7_note_91 : dc cX7_note 91 (.if_icmp .eq 27) 3 94 := ⟨by decide +kernel, rfl⟩
theorem dX7_note_94 : dc cX7_note 94 (.aload_n 0) 1 95 := ⟨by decide +kernel, rfl⟩
theorem dX7_note_95 : dc cX7_note 95 (.iload 6) 2 97 := ⟨by decide +kernel, rfl⟩
theorem dX7_note_97 : dc cX7_note 97 (.invokevirtual 117) 3 100 := ⟨by decide +kernel, rfl⟩
theorem dX7_note_100 : dc cX7_note 100 (.ifCond .eq 18) 3 103 := ⟨by decide +kernel, rfl⟩
theorem dX7_note_103 : dc cX7_note 103 (.iload 4) 2 105 := ⟨by decide +kernel, rfl⟩
theorem dX7_note_105 : dc cX7_note 105 (.aload_n 0) 1 106 := ⟨by decide +kernel, rfl⟩
theorem dX7_note_106 : dc cX7_note 106 (.getfield 7) 3 109 := ⟨by decide +kernel, rfl⟩
theorem dX7_note_109 : dc cX7_note 109 (.iload 6) 2 111 := ⟨by decide +kernel, rfl⟩
theorem dX7_note_111 : dc cX7_note 111 (.iaload) 1 112 := ⟨by decide +kernel, rfl⟩
theorem dX7_note_112 : dc cX7_note 112 (.iconst (-1)) 1 113 := ⟨by decide +kernel, rfl⟩
theorem dX7_note_113 : dc cX7_note 113 (.ixor) 1 114 := ⟨by decide +kernel, rfl⟩
theorem dX7_note_114 : dc cX7_note 114 (.iand) 1 115 := ⟨by decide +kernel, rfl⟩
theorem dX7_note_115 : dc cX7_note 115 (.ifCond .eq 7) 3 118 := ⟨by decide +kernel, rfl⟩
theorem dX7_note_118 : dc cX7_note 118 (.iconst 1) 1 119 := ⟨by decide +kernel, rfl⟩
theorem dX7_note_119 : dc cX7_note 119 (.goto 4) 3 122 := ⟨by decide +kernel, rfl⟩
theorem dX7_note_122 : dc cX7_note 122 (.iconst 0) 1 123 := ⟨by decide +kernel, rfl⟩
theorem dX7_note_123 : dc cX7_note 123 (.istore 5) 2 125 := ⟨by decide +kernel, rfl⟩
theorem dX7_note_125 : dc cX7_note 125 (.iinc 6 1) 3 128 := ⟨by decide +kernel, rfl⟩
theorem dX7_note_128 : dc cX7_note 128 (.goto (-52)) 3 131 := ⟨by decide +kernel, rfl⟩
theorem dX7_note_131 : dc cX7_note 131 (.iload 5) 2 133 := ⟨by decide +kernel, rfl⟩
theorem dX7_note_133 : dc cX7_note 133 (.ifCond .eq 8) 3 136 := ⟨by decide +kernel, rfl⟩
theorem dX7_note_136 : dc cX7_note 136 (.iload 4) 2 138 := ⟨by decide +kernel, rfl⟩
theorem dX7_note_138 : dc cX7_note 138 (.goto 4) 3 141 := ⟨by decide +kernel, rfl⟩
theorem dX7_note_141 : dc cX7_note 141 (.iload_n 3) 1 142 := ⟨by decide +kernel, rfl⟩
theorem dX7_note_142 : dc cX7_note 142 (.istore_n 3) 1 143 := ⟨by decide +kernel, rfl⟩
theorem dX7_note_143 : dc cX7_note 143 (.iinc 4 1) 3 146 := ⟨by decide +kernel, rfl⟩
theorem dX7_note_146 : dc cX7_note 146 (.goto (-118)) 3 149 := ⟨by decide +kernel, rfl⟩
theorem dX7_note_149 : dc cX7_note 149 (.iload_n 3) 1 150 := ⟨by decide +kernel, rfl⟩
theorem dX7_note_150 : dc cX7_note 150 (.ifCond .lt 8) 3 153 := ⟨by decide +kernel, rfl⟩
theorem dX7_note_153 : dc cX7_note 153 (.iload_n 2) 1 154 := ⟨by decide +kernel, rfl⟩
theorem dX7_note_154 : dc cX7_note 154 (.iconst 1) 1 155 := ⟨by decide +kernel, rfl⟩
theorem dX7_note_155 : dc cX7_note 155 (.if_icmp .ne 7) 3 158 := ⟨by decide +kernel, rfl⟩
theorem dX7_note_158 : dc cX7_note 158 (.iload_n 3) 1 159 := ⟨by decide +kernel, rfl⟩
theorem dX7_note_159 : dc cX7_note 159 (.goto 7) 3 162 := ⟨by decide +kernel, rfl⟩
theorem dX7_note_162 : dc cX7_note 162 (.iload_n 3) 1 163 := ⟨by decide +kernel, rfl⟩
theorem dX7_note_163 : dc cX7_note 163 (.invokestatic 53) 3 166 := ⟨by decide +kernel, rfl⟩
theorem dX7_note_166 : dc cX7_note 166 (.ireturn) 1 167 := ⟨by decide +kernel, rfl⟩
theorem dX7_only_0 : dc cX7_only 0 (.iload_n 1) 1 1 := ⟨by decide +kernel, rfl⟩
theorem dX7_only_1 : dc cX7_only 1 (.invokestatic 57) 3 4 := ⟨by decide +kernel, rfl⟩
theorem dX7_only_4 : dc cX7_only 4 (.ifCond .eq 11) 3 7 := ⟨by decide +kernel, rfl⟩
theorem dX7_only_7 : dc cX7_only 7 (.aload_n 0) 1 8 := ⟨by decide +kernel, rfl⟩
theorem dX7_only_8 : dc cX7_only 8 (.iload_n 2) 1 9 := ⟨by decide +kernel, rfl⟩
theorem dX7_only_9 : dc cX7_only 9 (.invokevirtual 117) 3 12 := ⟨by decide +kernel, rfl⟩
theorem dX7_only_12 : dc cX7_only 12 (.ifCond .ne 5) 3 15 := ⟨by decide +kernel, rfl⟩
theorem dX7_only_15 : dc cX7_only 15 (.iconst (-1)) 1 16 := ⟨by decide +kernel, rfl⟩
theorem dX7_only_16 : dc cX7_only 16 (.ireturn) 1 17 := ⟨by decide +kernel, rfl⟩
theorem dX7_only_17 : dc cX7_only 17 (.iconst 0) 1 18 := ⟨by decide +kernel, rfl⟩
theorem dX7_only_18 : dc cX7_only 18 (.istore_n 3) 1 19 := ⟨by decide +kernel, rfl⟩
theorem dX7_only_19 : dc cX7_only 19 (.iload_n 3) 1 20 := ⟨by decide +kernel, rfl⟩
theorem dX7_only_20 : dc cX7_only 20 (.bipush 9) 2 22 := ⟨by decide +kernel, rfl⟩
theorem dX7_only_22 : dc cX7_only 22 (.if_icmp .ge 107) 3 25 := ⟨by decide +kernel, rfl⟩
theorem dX7_only_25 : dc cX7_only 25 (.aload_n 0) 1 26 := ⟨by decide +kernel, rfl⟩
theorem dX7_only_26 : dc cX7_only 26 (.getfield 7) 3 29 := ⟨by decide +kernel, rfl⟩
theorem dX7_only_29 : dc cX7_only 29 (.iload_n 2) 1 30 := ⟨by decide +kernel, rfl⟩
theorem dX7_only_30 : dc cX7_only 30 (.iaload) 1 31 := ⟨by decide +kernel, rfl⟩
theorem dX7_only_31 : dc cX7_only 31 (.aload_n 0) 1 32 := ⟨by decide +kernel, rfl⟩
theorem dX7_only_32 : dc cX7_only 32 (.getfield 16) 3 35 := ⟨by decide +kernel, rfl⟩
theorem dX7_only_35 : dc cX7_only 35 (.iload_n 1) 1 36 := ⟨by decide +kernel, rfl⟩
theorem dX7_only_36 : dc cX7_only 36 (.iaload) 1 37 := ⟨by decide +kernel, rfl⟩
theorem dX7_only_37 : dc cX7_only 37 (.iand) 1 38 := ⟨by decide +kernel, rfl⟩
theorem dX7_only_38 : dc cX7_only 38 (.invokestatic 53) 3 41 := ⟨by decide +kernel, rfl⟩
theorem dX7_only_41 : dc cX7_only 41 (.iload_n 3) 1 42 := ⟨by decide +kernel, rfl⟩
theorem dX7_only_42 : dc cX7_only 42 (.if_icmp .lt 7) 3 45 := ⟨by decide +kernel, rfl⟩
theorem dX7_only_45 : dc cX7_only 45 (.iconst 1) 1 46 := ⟨by decide +kernel, rfl⟩
theorem dX7_only_46 : dc cX7_only 46 (.goto 4) 3 49 := ⟨by decide +kernel, rfl⟩
theorem dX7_only_49 : dc cX7_only 49 (.iconst 0) 1 50 := ⟨by decide +kernel, rfl⟩
theorem dX7_only_50 : dc cX7_only 50 (.istore 4) 2 52 := ⟨by decide +kernel, rfl⟩
theorem dX7_only_52 : dc cX7_only 52 (.iconst 0) 1 53 := ⟨by decide +kernel, rfl⟩
theorem dX7_only_53 : dc cX7_only 53 (.istore 5) 2 55 := ⟨by decide +kernel, rfl⟩
theorem dX7_only_55 : dc cX7_only 55 (.iload 5) 2 57 := ⟨by decide +kernel, rfl⟩
theorem dX7_only_57 : dc cX7_only 57 (.bipush 8) 2 59 := ⟨by decide +kernel, rfl⟩
theorem dX7_only_59 : dc cX7_only 59 (.if_icmp .ge 57) 3 62 := ⟨by decide +kernel, rfl⟩
theorem dX7_only_62 : dc cX7_only 62 (.iload 4) 2 64 := ⟨by decide +kernel, rfl⟩
theorem dX7_only_64 : dc cX7_only 64 (.ifCond .eq 43) 3 67 := ⟨by decide +kernel, rfl⟩
theorem dX7_only_67 : dc cX7_only 67 (.iload 5) 2 69 := ⟨by decide +kernel, rfl⟩
theorem dX7_only_69 : dc cX7_only 69 (.iload_n 2) 1 70 := ⟨by decide +kernel, rfl⟩
theorem dX7_only_70 : dc cX7_only 70 (.if_icmp .eq 33) 3 73 := ⟨by decide +kernel, rfl⟩
theorem dX7_only_73 : dc cX7_only 73 (.aload_n 0) 1 74 := ⟨by decide +kernel, rfl⟩
theorem dX7_only_74 : dc cX7_only 74 (.iload 5) 2 76 := ⟨by decide +kernel, rfl⟩
theorem dX7_only_76 : dc cX7_only 76 (.invokevirtual 117) 3 79 := ⟨by decide +kernel, rfl⟩
theorem dX7_only_79 : dc cX7_only 79 (.ifCond .eq 24) 3 82 := ⟨by decide +kernel, rfl⟩
theorem dX7_only_82 : dc cX7_only 82 (.aload_n 0) 1 83 := ⟨by decide +kernel, rfl⟩
theorem dX7_only_83 : dc cX7_only 83 (.getfield 7) 3 86 := ⟨by decide +kernel, rfl⟩
theorem dX7_only_86 : dc cX7_only 86 (.iload 5) 2 88 := ⟨by decide +kernel, rfl⟩
theorem dX7_only_88 : dc cX7_only 88 (.iaload) 1 89 := ⟨by decide +kernel, rfl⟩
theorem dX7_only_89 : dc cX7_only 89 (.aload_n 0) 1 90 := ⟨by decide +kernel, rfl⟩
theorem dX7_only_90 : dc cX7_only 90 (.getfield 16) 3 93 := ⟨by decide +kernel, rfl⟩
theorem dX7_only_93 : dc cX7_only 93 (.iload_n 1) 1 94 := ⟨by decide +kernel, rfl⟩
theorem dX7_only_94 : dc cX7_only 94 (.iaload) 1 95 := ⟨by decide +kernel, rfl⟩
theorem dX7_only_95 : dc cX7_only 95 (.iand) 1 96 := ⟨by decide +kernel, rfl⟩
theorem dX7_only_96 : dc cX7_only 96 (.invokestatic 53) 3 99 := ⟨by decide +kernel, rfl⟩
theorem dX7_only_99 : dc cX7_only 99 (.iload_n 3) 1 100 := ⟨by decide +kernel, rfl⟩
theorem dX7_only_100 : dc cX7_only 100 (.if_icmp .ge 7) 3 103 := ⟨by decide +kernel, rfl⟩
theorem dX7_only_103 : dc cX7_only 103 (.iconst 1) 1 104 := ⟨by decide +kernel, rfl⟩
theorem dX7_only_104 : dc cX7_only 104 (.goto 4) 3 107 := ⟨by decide +kernel, rfl⟩
theorem dX7_only_107 : dc cX7_only 107 (.iconst 0) 1 108 := ⟨by decide +kernel, rfl⟩
theorem dX7_only_108 : dc cX7_only 108 (.istore 4) 2 110 := ⟨by decide +kernel, rfl⟩
theorem dX7_only_110 : dc cX7_only 110 (.iinc 5 1) 3 113 := ⟨by decide +kernel, rfl⟩
theorem dX7_only_113 : dc cX7_only 113 (.goto (-58)) 3 116 := ⟨by decide +kernel, rfl⟩
theorem dX7_only_116 : dc cX7_only 116 (.iload 4) 2 118 := ⟨by decide +kernel, rfl⟩
theorem dX7_only_118 : dc cX7_only 118 (.ifCond .eq 5) 3 121 := ⟨by decide +kernel, rfl⟩
theorem dX7_only_121 : dc cX7_only 121 (.iload_n 3) 1 122 := ⟨by decide +kernel, rfl⟩
theorem dX7_only_122 : dc cX7_only 122 (.ireturn) 1 123 := ⟨by decide +kernel, rfl⟩
theorem dX7_only_123 : dc cX7_only 123 (.iinc 3 1) 3 126 := ⟨by decide +kernel, rfl⟩
theorem dX7_only_126 : dc cX7_only 126 (.goto (-107)) 3 129 := ⟨by decide +kernel, rfl⟩
theorem dX7_only_129 : dc cX7_only 129 (.bipush (-6)) 2 131 := ⟨by decide +kernel, rfl⟩
theorem dX7_only_131 : dc cX7_only 131 (.ireturn) 1 132 := ⟨by decide +kernel, rfl⟩
theorem dX7_feels_0 : dc cX7_feels 0 (.aload_n 0) 1 1 := ⟨by decide +kernel, rfl⟩
theorem dX7_feels_1 : dc cX7_feels 1 (.iload_n 2) 1 2 := ⟨by decide +kernel, rfl⟩
theorem dX7_feels_2 : dc cX7_feels 2 (.invokevirtual 117) 3 5 := ⟨by decide +kernel, rfl⟩
theorem dX7_feels_5 : dc cX7_feels 5 (.ifCond .eq 22) 3 8 := ⟨by decide +kernel, rfl⟩
theorem dX7_feels_8 : dc cX7_feels 8 (.aload_n 0) 1 9 := ⟨by decide +kernel, rfl⟩
theorem dX7_feels_9 : dc cX7_feels 9 (.getfield 7) 3 12 := ⟨by decide +kernel, rfl⟩
theorem dX7_feels_12 : dc cX7_feels 12 (.iload_n 2) 1 13 := ⟨by decide +kernel, rfl⟩
theorem dX7_feels_13 : dc cX7_feels 13 (.iaload) 1 14 := ⟨by decide +kernel, rfl⟩
theorem dX7_feels_14 : dc cX7_feels 14 (.aload_n 0) 1 15 := ⟨by decide +kernel, rfl⟩
theorem dX7_feels_15 : dc cX7_feels 15 (.getfield 16) 3 18 := ⟨by decide +kernel, rfl⟩
theorem dX7_feels_18 : dc cX7_feels 18 (.iload_n 1) 1 19 := ⟨by decide +kernel, rfl⟩
theorem dX7_feels_19 : dc cX7_feels 19 (.iaload) 1 20 := ⟨by decide +kernel, rfl⟩
theorem dX7_feels_20 : dc cX7_feels 20 (.iand) 1 21 := ⟨by decide +kernel, rfl⟩
theorem dX7_feels_21 : dc cX7_feels 21 (.invokestatic 53) 3 24 := ⟨by decide +kernel, rfl⟩
theorem dX7_feels_24 : dc cX7_feels 24 (.goto 4) 3 27 := ⟨by decide +kernel, rfl⟩
theorem dX7_feels_27 : dc cX7_feels 27 (.iconst 0) 1 28 := ⟨by decide +kernel, rfl⟩
theorem dX7_feels_28 : dc cX7_feels 28 (.ireturn) 1 29 := ⟨by decide +kernel, rfl⟩
theorem dX7_share_0 : dc cX7_share 0 (.iload_n 1) 1 1 := ⟨by decide +kernel, rfl⟩
theorem dX7_share_1 : dc cX7_share 1 (.invokestatic 57) 3 4 := ⟨by decide +kernel, rfl⟩
theorem dX7_share_4 : dc cX7_share 4 (.ifCond .eq 11) 3 7 := ⟨by decide +kernel, rfl⟩
theorem dX7_share_7 : dc cX7_share 7 (.aload_n 0) 1 8 := ⟨by decide +kernel, rfl⟩
theorem dX7_share_8 : dc cX7_share 8 (.iload_n 2) 1 9 := ⟨by decide +kernel, rfl⟩
theorem dX7_share_9 : dc cX7_share 9 (.invokevirtual 117) 3 12 := ⟨by decide +kernel, rfl⟩
theorem dX7_share_12 : dc cX7_share 12 (.ifCond .ne 5) 3 15 := ⟨by decide +kernel, rfl⟩
theorem dX7_share_15 : dc cX7_share 15 (.iconst (-1)) 1 16 := ⟨by decide +kernel, rfl⟩
theorem dX7_share_16 : dc cX7_share 16 (.ireturn) 1 17 := ⟨by decide +kernel, rfl⟩
theorem dX7_share_17 : dc cX7_share 17 (.aload_n 0) 1 18 := ⟨by decide +kernel, rfl⟩
theorem dX7_share_18 : dc cX7_share 18 (.getfield 7) 3 21 := ⟨by decide +kernel, rfl⟩
theorem dX7_share_21 : dc cX7_share 21 (.bipush 88) 2 23 := ⟨by decide +kernel, rfl⟩
theorem dX7_share_23 : dc cX7_share 23 (.iload_n 1) 1 24 := ⟨by decide +kernel, rfl⟩
theorem dX7_share_24 : dc cX7_share 24 (.iadd) 1 25 := ⟨by decide +kernel, rfl⟩
theorem dX7_share_25 : dc cX7_share 25 (.iaload) 1 26 := ⟨by decide +kernel, rfl⟩
theorem dX7_share_26 : dc cX7_share 26 (.istore_n 3) 1 27 := ⟨by decide +kernel, rfl⟩
theorem dX7_share_27 : dc cX7_share 27 (.iconst 0) 1 28 := ⟨by decide +kernel, rfl⟩
theorem dX7_share_28 : dc cX7_share 28 (.istore 4) 2 30 := ⟨by decide +kernel, rfl⟩
theorem dX7_share_30 : dc cX7_share 30 (.iconst 0) 1 31 := ⟨by decide +kernel, rfl⟩
theorem dX7_share_31 : dc cX7_share 31 (.istore 5) 2 33 := ⟨by decide +kernel, rfl⟩
theorem dX7_share_33 : dc cX7_share 33 (.iload 5) 2 35 := ⟨by decide +kernel, rfl⟩
theorem dX7_share_35 : dc cX7_share 35 (.bipush 8) 2 37 := ⟨by decide +kernel, rfl⟩
theorem dX7_share_37 : dc cX7_share 37 (.if_icmp .ge 21) 3 40 := ⟨by decide +kernel, rfl⟩
theorem dX7_share_40 : dc cX7_share 40 (.iload 4) 2 42 := ⟨by decide +kernel, rfl⟩
theorem dX7_share_42 : dc cX7_share 42 (.aload_n 0) 1 43 := ⟨by decide +kernel, rfl⟩
theorem dX7_share_43 : dc cX7_share 43 (.iload_n 1) 1 44 := ⟨by decide +kernel, rfl⟩
theorem dX7_share_44 : dc cX7_share 44 (.iload 5) 2 46 := ⟨by decide +kernel, rfl⟩
theorem dX7_share_46 : dc cX7_share 46 (.invokevirtual 123) 3 49 := ⟨by decide +kernel, rfl⟩
theorem dX7_share_49 : dc cX7_share 49 (.iadd) 1 50 := ⟨by decide +kernel, rfl⟩
theorem dX7_share_50 : dc cX7_share 50 (.istore 4) 2 52 := ⟨by decide +kernel, rfl⟩
theorem dX7_share_52 : dc cX7_share 52 (.iinc 5 1) 3 55 := ⟨by decide +kernel, rfl⟩
theorem dX7_share_55 : dc cX7_share 55 (.goto (-22)) 3 58 := ⟨by decide +kernel, rfl⟩
theorem dX7_share_58 : dc cX7_share 58 (.aload_n 0) 1 59 := ⟨by decide +kernel, rfl⟩
theorem dX7_share_59 : dc cX7_share 59 (.iload_n 1) 1 60 := ⟨by decide +kernel, rfl⟩
theorem dX7_share_60 : dc cX7_share 60 (.iload_n 2) 1 61 := ⟨by decide +kernel, rfl⟩
theorem dX7_share_61 : dc cX7_share 61 (.invokevirtual 123) 3 64 := ⟨by decide +kernel, rfl⟩
theorem dX7_share_64 : dc cX7_share 64 (.ifCond .ne 5) 3 67 := ⟨by decide +kernel, rfl⟩
theorem dX7_share_67 : dc cX7_share 67 (.iconst 0) 1 68 := ⟨by decide +kernel, rfl⟩
theorem dX7_share_68 : dc cX7_share 68 (.ireturn) 1 69 := ⟨by decide +kernel, rfl⟩
theorem dX7_share_69 : dc cX7_share 69 (.iload_n 3) 1 70 := ⟨by decide +kernel, rfl⟩
theorem dX7_share_70 : dc cX7_share 70 (.istore 5) 2 72 := ⟨by decide +kernel, rfl⟩
theorem dX7_share_72 : dc cX7_share 72 (.iconst 0) 1 73 := ⟨by decide +kernel, rfl⟩
theorem dX7_share_73 : dc cX7_share 73 (.istore 6) 2 75 := ⟨by decide +kernel, rfl⟩
theorem dX7_share_75 : dc cX7_share 75 (.iconst 0) 1 76 := ⟨by decide +kernel, rfl⟩
theorem dX7_share_76 : dc cX7_share 76 (.istore 7) 2 78 := ⟨by decide +kernel, rfl⟩
theorem dX7_share_78 : dc cX7_share 78 (.iload 7) 2 80 := ⟨by decide +kernel, rfl⟩
theorem dX7_share_80 : dc cX7_share 80 (.bipush 8) 2 82 := ⟨by decide +kernel, rfl⟩
theorem dX7_share_82 : dc cX7_share 82 (.if_icmp .ge 86) 3 85 := ⟨by decide +kernel, rfl⟩
theorem dX7_share_85 : dc cX7_share 85 (.iload 5) 2 87 := ⟨by decide +kernel, rfl⟩
theorem dX7_share_87 : dc cX7_share 87 (.iload_n 3) 1 88 := ⟨by decide +kernel, rfl⟩
theorem dX7_share_88 : dc cX7_share 88 (.aload_n 0) 1 89 := ⟨by decide +kernel, rfl⟩
theorem dX7_share_89 : dc cX7_share 89 (.iload_n 1) 1 90 := ⟨by decide +kernel, rfl⟩
theorem dX7_share_90 : dc cX7_share 90 (.iload 7) 2 92 := ⟨by decide +kernel, rfl⟩
theorem dX7_share_92 : dc cX7_share 92 (.invokevirtual 123) 3 95 := ⟨by decide +kernel, rfl⟩
theorem dX7_share_95 : dc cX7_share 95 (.imul) 1 96 := ⟨by decide +kernel, rfl⟩
theorem dX7_share_96 : dc cX7_share 96 (.iload 4) 2 98 := ⟨by decide +kernel, rfl⟩
theorem dX7_share_98 : dc cX7_share 98 (.idiv) 1 99 := ⟨by decide +kernel, rfl⟩
theorem dX7_share_99 : dc cX7_share 99 (.isub) 1 100 := ⟨by decide +kernel, rfl⟩
theorem dX7_share_100 : dc cX7_share 100 (.istore 5) 2 102 := ⟨by decide +kernel, rfl⟩
theorem dX7_share_102 : dc cX7_share 102 (.aload_n 0) 1 103 := ⟨by decide +kernel, rfl⟩
theorem dX7_share_103 : dc cX7_share 103 (.iload_n 1) 1 104 := ⟨by decide +kernel, rfl⟩
theorem dX7_share_104 : dc cX7_share 104 (.iload 7) 2 106 := ⟨by decide +kernel, rfl⟩
theorem dX7_share_106 : dc cX7_share 106 (.invokevirtual 123) 3 109 := ⟨by decide +kernel, rfl⟩
theorem dX7_share_109 : dc cX7_share 109 (.aload_n 0) 1 110 := ⟨by decide +kernel, rfl⟩
theorem dX7_share_110 : dc cX7_share 110 (.iload_n 1) 1 111 := ⟨by decide +kernel, rfl⟩
theorem dX7_share_111 : dc cX7_share 111 (.iload_n 2) 1 112 := ⟨by decide +kernel, rfl⟩
theorem dX7_share_112 : dc cX7_share 112 (.invokevirtual 123) 3 115 := ⟨by decide +kernel, rfl⟩
theorem dX7_share_115 : dc cX7_share 115 (.if_icmp .gt 25) 3 118 := ⟨by decide +kernel, rfl⟩
theorem dX7_share_118 : dc cX7_share 118 (.aload_n 0) 1 119 := ⟨by decide +kernel, rfl⟩
theorem dX7_share_119 : dc cX7_share 119 (.iload_n 1) 1 120 := ⟨by decide +kernel, rfl⟩
theorem dX7_share_120 : dc cX7_share 120 (.iload 7) 2 122 := ⟨by decide +kernel, rfl⟩
theorem dX7_share_122 : dc cX7_share 122 (.invokevirtual 123) 3 125 := ⟨by decide +kernel, rfl⟩
theorem dX7_share_125 : dc cX7_share 125 (.aload_n 0) 1 126 := ⟨by decide +kernel, rfl⟩
theorem dX7_share_126 : dc cX7_share 126 (.iload_n 1) 1 127 := ⟨by decide +kernel, rfl⟩
theorem dX7_share_127 : dc cX7_share 127 (.iload_n 2) 1 128 := ⟨by decide +kernel, rfl⟩
theorem dX7_share_128 : dc cX7_share 128 (.invokevirtual 123) 3 131 := ⟨by decide +kernel, rfl⟩
theorem dX7_share_131 : dc cX7_share 131 (.if_icmp .ne 13) 3 134 := ⟨by decide +kernel, rfl⟩
theorem dX7_share_134 : dc cX7_share 134 (.iload 7) 2 136 := ⟨by decide +kernel, rfl⟩
theorem dX7_share_136 : dc cX7_share 136 (.iload_n 2) 1 137 := ⟨by decide +kernel, rfl⟩
theorem dX7_share_137 : dc cX7_share 137 (.if_icmp .ge 7) 3 140 := ⟨by decide +kernel, rfl⟩
theorem dX7_share_140 : dc cX7_share 140 (.iconst 1) 1 141 := ⟨by decide +kernel, rfl⟩
theorem dX7_share_141 : dc cX7_share 141 (.goto 4) 3 144 := ⟨by decide +kernel, rfl⟩
theorem dX7_share_144 : dc cX7_share 144 (.iconst 0) 1 145 := ⟨by decide +kernel, rfl⟩
theorem dX7_share_145 : dc cX7_share 145 (.istore 8) 2 147 := ⟨by decide +kernel, rfl⟩
theorem dX7_share_147 : dc cX7_share 147 (.iload 6) 2 149 := ⟨by decide +kernel, rfl⟩
theorem dX7_share_149 : dc cX7_share 149 (.iload 8) 2 151 := ⟨by decide +kernel, rfl⟩
theorem dX7_share_151 : dc cX7_share 151 (.ifCond .eq 7) 3 154 := ⟨by decide +kernel, rfl⟩
theorem dX7_share_154 : dc cX7_share 154 (.iconst 1) 1 155 := ⟨by decide +kernel, rfl⟩
theorem dX7_share_155 : dc cX7_share 155 (.goto 4) 3 158 := ⟨by decide +kernel, rfl⟩
theorem dX7_share_158 : dc cX7_share 158 (.iconst 0) 1 159 := ⟨by decide +kernel, rfl⟩
theorem dX7_share_159 : dc cX7_share 159 (.iadd) 1 160 := ⟨by decide +kernel, rfl⟩
theorem dX7_share_160 : dc cX7_share 160 (.istore 6) 2 162 := ⟨by decide +kernel, rfl⟩
theorem dX7_share_162 : dc cX7_share 162 (.iinc 7 1) 3 165 := ⟨by decide +kernel, rfl⟩
theorem dX7_share_165 : dc cX7_share 165 (.goto (-87)) 3 168 := ⟨by decide +kernel, rfl⟩
theorem dX7_share_168 : dc cX7_share 168 (.iload_n 3) 1 169 := ⟨by decide +kernel, rfl⟩
theorem dX7_share_169 : dc cX7_share 169 (.aload_n 0) 1 170 := ⟨by decide +kernel, rfl⟩
theorem dX7_share_170 : dc cX7_share 170 (.iload_n 1) 1 171 := ⟨by decide +kernel, rfl⟩
theorem dX7_share_171 : dc cX7_share 171 (.iload_n 2) 1 172 := ⟨by decide +kernel, rfl⟩
theorem dX7_share_172 : dc cX7_share 172 (.invokevirtual 123) 3 175 := ⟨by decide +kernel, rfl⟩
theorem dX7_share_175 : dc cX7_share 175 (.imul) 1 176 := ⟨by decide +kernel, rfl⟩
theorem dX7_share_176 : dc cX7_share 176 (.iload 4) 2 178 := ⟨by decide +kernel, rfl⟩
theorem dX7_share_178 : dc cX7_share 178 (.idiv) 1 179 := ⟨by decide +kernel, rfl⟩
theorem dX7_share_179 : dc cX7_share 179 (.iload 6) 2 181 := ⟨by decide +kernel, rfl⟩
theorem dX7_share_181 : dc cX7_share 181 (.iload 5) 2 183 := ⟨by decide +kernel, rfl⟩
theorem dX7_share_183 : dc cX7_share 183 (.if_icmp .ge 7) 3 186 := ⟨by decide +kernel, rfl⟩
theorem dX7_share_186 : dc cX7_share 186 (.iconst 1) 1 187 := ⟨by decide +kernel, rfl⟩
theorem dX7_share_187 : dc cX7_share 187 (.goto 4) 3 190 := ⟨by decide +kernel, rfl⟩
theorem dX7_share_190 : dc cX7_share 190 (.iconst 0) 1 191 := ⟨by decide +kernel, rfl⟩
theorem dX7_share_191 : dc cX7_share 191 (.iadd) 1 192 := ⟨by decide +kernel, rfl⟩
theorem dX7_share_192 : dc cX7_share 192 (.ireturn) 1 193 := ⟨by decide +kernel, rfl⟩
theorem dX7_layMatch_0 : dc cX7_layMatch 0 (.bipush 7) 2 2 := ⟨by decide +kernel, rfl⟩
theorem dX7_layMatch_2 : dc cX7_layMatch 2 (.istore_n 1) 1 3 := ⟨by decide +kernel, rfl⟩
theorem dX7_layMatch_3 : dc cX7_layMatch 3 (.iload_n 1) 1 4 := ⟨by decide +kernel, rfl⟩
theorem dX7_layMatch_4 : dc cX7_layMatch 4 (.ifCond .lt 143) 3 7 := ⟨by decide +kernel, rfl⟩
theorem dX7_layMatch_7 : dc cX7_layMatch 7 (.iconst 0) 1 8 := ⟨by decide +kernel, rfl⟩
theorem dX7_layMatch_8 : dc cX7_layMatch 8 (.istore_n 2) 1 9 := ⟨by decide +kernel, rfl⟩
theorem dX7_layMatch_9 : dc cX7_layMatch 9 (.iload_n 2) 1 10 := ⟨by decide +kernel, rfl⟩
theorem dX7_layMatch_10 : dc cX7_layMatch 10 (.bipush 64) 2 12 := ⟨by decide +kernel, rfl⟩
theorem dX7_layMatch_12 : dc cX7_layMatch 12 (.if_icmp .ge 129) 3 15 := ⟨by decide +kernel, rfl⟩
theorem dX7_layMatch_15 : dc cX7_layMatch 15 (.aload_n 0) 1 16 := ⟨by decide +kernel, rfl⟩
theorem dX7_layMatch_16 : dc cX7_layMatch 16 (.getfield 28) 3 19 := ⟨by decide +kernel, rfl⟩
theorem dX7_layMatch_19 : dc cX7_layMatch 19 (.bipush 64) 2 21 := ⟨by decide +kernel, rfl⟩
theorem dX7_layMatch_21 : dc cX7_layMatch 21 (.iload_n 1) 1 22 := ⟨by decide +kernel, rfl⟩
theorem dX7_layMatch_22 : dc cX7_layMatch 22 (.imul) 1 23 := ⟨by decide +kernel, rfl⟩
theorem dX7_layMatch_23 : dc cX7_layMatch 23 (.bipush 64) 2 25 := ⟨by decide +kernel, rfl⟩
theorem dX7_layMatch_25 : dc cX7_layMatch 25 (.iadd) 1 26 := ⟨by decide +kernel, rfl⟩
theorem dX7_layMatch_26 : dc cX7_layMatch 26 (.iload_n 2) 1 27 := ⟨by decide +kernel, rfl⟩
theorem dX7_layMatch_27 : dc cX7_layMatch 27 (.iadd) 1 28 := ⟨by decide +kernel, rfl⟩
theorem dX7_layMatch_28 : dc cX7_layMatch 28 (.iaload) 1 29 := ⟨by decide +kernel, rfl⟩
theorem dX7_layMatch_29 : dc cX7_layMatch 29 (.istore_n 3) 1 30 := ⟨by decide +kernel, rfl⟩
theorem dX7_layMatch_30 : dc cX7_layMatch 30 (.iconst 0) 1 31 := ⟨by decide +kernel, rfl⟩
theorem dX7_layMatch_31 : dc cX7_layMatch 31 (.istore 4) 2 33 := ⟨by decide +kernel, rfl⟩
theorem dX7_layMatch_33 : dc cX7_layMatch 33 (.iload 4) 2 35 := ⟨by decide +kernel, rfl⟩
theorem dX7_layMatch_35 : dc cX7_layMatch 35 (.bipush 6) 2 37 := ⟨by decide +kernel, rfl⟩
theorem dX7_layMatch_37 : dc cX7_layMatch 37 (.if_icmp .ge 86) 3 40 := ⟨by decide +kernel, rfl⟩
theorem dX7_layMatch_40 : dc cX7_layMatch 40 (.aload_n 0) 1 41 := ⟨by decide +kernel, rfl⟩
theorem dX7_layMatch_41 : dc cX7_layMatch 41 (.iload_n 1) 1 42 := ⟨by decide +kernel, rfl⟩
theorem dX7_layMatch_42 : dc cX7_layMatch 42 (.invokevirtual 117) 3 45 := ⟨by decide +kernel, rfl⟩
theorem dX7_layMatch_45 : dc cX7_layMatch 45 (.ifCond .eq 72) 3 48 := ⟨by decide +kernel, rfl⟩
theorem dX7_layMatch_48 : dc cX7_layMatch 48 (.iload_n 2) 1 49 := ⟨by decide +kernel, rfl⟩
theorem dX7_layMatch_49 : dc cX7_layMatch 49 (.iload 4) 2 51 := ⟨by decide +kernel, rfl⟩
theorem dX7_layMatch_51 : dc cX7_layMatch 51 (.invokestatic 49) 3 54 := ⟨by decide +kernel, rfl⟩
theorem dX7_layMatch_54 : dc cX7_layMatch 54 (.ifCond .ne 63) 3 57 := ⟨by decide +kernel, rfl⟩
theorem dX7_layMatch_57 : dc cX7_layMatch 57 (.aload_n 0) 1 58 := ⟨by decide +kernel, rfl⟩
theorem dX7_layMatch_58 : dc cX7_layMatch 58 (.iload 4) 2 60 := ⟨by decide +kernel, rfl⟩
theorem dX7_layMatch_60 : dc cX7_layMatch 60 (.aload_n 0) 1 61 := ⟨by decide +kernel, rfl⟩
theorem dX7_layMatch_61 : dc cX7_layMatch 61 (.getfield 7) 3 64 := ⟨by decide +kernel, rfl⟩
theorem dX7_layMatch_64 : dc cX7_layMatch 64 (.iload_n 1) 1 65 := ⟨by decide +kernel, rfl⟩
theorem dX7_layMatch_65 : dc cX7_layMatch 65 (.iaload) 1 66 := ⟨by decide +kernel, rfl⟩
theorem dX7_layMatch_66 : dc cX7_layMatch 66 (.invokevirtual 77) 3 69 := ⟨by decide +kernel, rfl⟩
theorem dX7_layMatch_69 : dc cX7_layMatch 69 (.ifCond .eq 48) 3 72 := ⟨by decide +kernel, rfl⟩
theorem dX7_layMatch_72 : dc cX7_layMatch 72 (.aload_n 0) 1 73 := ⟨by decide +kernel, rfl⟩
theorem dX7_layMatch_73 : dc cX7_layMatch 73 (.getfield 7) 3 76 := ⟨by decide +kernel, rfl⟩
theorem dX7_layMatch_76 : dc cX7_layMatch 76 (.bipush 88) 2 78 := ⟨by decide +kernel, rfl⟩
theorem dX7_layMatch_78 : dc cX7_layMatch 78 (.iload 4) 2 80 := ⟨by decide +kernel, rfl⟩
theorem dX7_layMatch_80 : dc cX7_layMatch 80 (.iadd) 1 81 := ⟨by decide +kernel, rfl⟩
theorem dX7_layMatch_81 : dc cX7_layMatch 81 (.iaload) 1 82 := ⟨by decide +kernel, rfl⟩
theorem dX7_layMatch_82 : dc cX7_layMatch 82 (.aload_n 0) 1 83 := ⟨by decide +kernel, rfl⟩
theorem dX7_layMatch_83 : dc cX7_layMatch 83 (.getfield 28) 3 86 := ⟨by decide +kernel, rfl⟩
theorem dX7_layMatch_86 : dc cX7_layMatch 86 (.bipush 64) 2 88 := ⟨by decide +kernel, rfl⟩
theorem dX7_layMatch_88 : dc cX7_layMatch 88 (.iload_n 1) 1 89 := ⟨by decide +kernel, rfl⟩
theorem dX7_layMatch_89 : dc cX7_layMatch 89 (.imul) 1 90 := ⟨by decide +kernel, rfl⟩
theorem dX7_layMatch_90 : dc cX7_layMatch 90 (.bipush 64) 2 92 := ⟨by decide +kernel, rfl⟩
theorem dX7_layMatch_92 : dc cX7_layMatch 92 (.iadd) 1 93 := ⟨by decide +kernel, rfl⟩
theorem dX7_layMatch_93 : dc cX7_layMatch 93 (.iload_n 2) 1 94 := ⟨by decide +kernel, rfl⟩
theorem dX7_layMatch_94 : dc cX7_layMatch 94 (.iconst 1) 1 95 := ⟨by decide +kernel, rfl⟩
theorem dX7_layMatch_95 : dc cX7_layMatch 95 (.iload 4) 2 97 := ⟨by decide +kernel, rfl⟩
theorem dX7_layMatch_97 : dc cX7_layMatch 97 (.ishl) 1 98 := ⟨by decide +kernel, rfl⟩
theorem dX7_layMatch_98 : dc cX7_layMatch 98 (.ior) 1 99 := ⟨by decide +kernel, rfl⟩
theorem dX7_layMatch_99 : dc cX7_layMatch 99 (.iadd) 1 100 := ⟨by decide +kernel, rfl⟩
theorem dX7_layMatch_100 : dc cX7_layMatch 100 (.iaload) 1 101 := ⟨by decide +kernel, rfl⟩
theorem dX7_layMatch_101 : dc cX7_layMatch 101 (.iadd) 1 102 := ⟨by decide +kernel, rfl⟩
theorem dX7_layMatch_102 : dc cX7_layMatch 102 (.istore 5) 2 104 := ⟨by decide +kernel, rfl⟩
theorem dX7_layMatch_104 : dc cX7_layMatch 104 (.iload 5) 2 106 := ⟨by decide +kernel, rfl⟩
theorem dX7_layMatch_106 : dc cX7_layMatch 106 (.iload_n 3) 1 107 := ⟨by decide +kernel, rfl⟩
theorem dX7_layMatch_107 : dc cX7_layMatch 107 (.if_icmp .le 8) 3 110 := ⟨by decide +kernel, rfl⟩
theorem dX7_layMatch_110 : dc cX7_layMatch 110 (.iload 5) 2 112 := ⟨by decide +kernel, rfl⟩
theorem dX7_layMatch_112 : dc cX7_layMatch 112 (.goto 4) 3 115 := ⟨by decide +kernel, rfl⟩
theorem dX7_layMatch_115 : dc cX7_layMatch 115 (.iload_n 3) 1 116 := ⟨by decide +kernel, rfl⟩
theorem dX7_layMatch_116 : dc cX7_layMatch 116 (.istore_n 3) 1 117 := ⟨by decide +kernel, rfl⟩
theorem dX7_layMatch_117 : dc cX7_layMatch 117 (.iinc 4 1) 3 120 := ⟨by decide +kernel, rfl⟩
theorem dX7_layMatch_120 : dc cX7_layMatch 120 (.goto (-87)) 3 123 := ⟨by decide +kernel, rfl⟩
theorem dX7_layMatch_123 : dc cX7_layMatch 123 (.aload_n 0) 1 124 := ⟨by decide +kernel, rfl⟩
theorem dX7_layMatch_124 : dc cX7_layMatch 124 (.getfield 28) 3 127 := ⟨by decide +kernel, rfl⟩
theorem dX7_layMatch_127 : dc cX7_layMatch 127 (.bipush 64) 2 129 := ⟨by decide +kernel, rfl⟩
theorem dX7_layMatch_129 : dc cX7_layMatch 129 (.iload_n 1) 1 130 := ⟨by decide +kernel, rfl⟩
theorem dX7_layMatch_130 : dc cX7_layMatch 130 (.imul) 1 131 := ⟨by decide +kernel, rfl⟩
theorem dX7_layMatch_131 : dc cX7_layMatch 131 (.iload_n 2) 1 132 := ⟨by decide +kernel, rfl⟩
theorem dX7_layMatch_132 : dc cX7_layMatch 132 (.iadd) 1 133 := ⟨by decide +kernel, rfl⟩
theorem dX7_layMatch_133 : dc cX7_layMatch 133 (.iload_n 3) 1 134 := ⟨by decide +kernel, rfl⟩
theorem dX7_layMatch_134 : dc cX7_layMatch 134 (.iastore) 1 135 := ⟨by decide +kernel, rfl⟩
theorem dX7_layMatch_135 : dc cX7_layMatch 135 (.iinc 2 1) 3 138 := ⟨by decide +kernel, rfl⟩
theorem dX7_layMatch_138 : dc cX7_layMatch 138 (.goto (-129)) 3 141 := ⟨by decide +kernel, rfl⟩
theorem dX7_layMatch_141 : dc cX7_layMatch 141 (.iinc 1 (-1)) 3 144 := ⟨by decide +kernel, rfl⟩
theorem dX7_layMatch_144 : dc cX7_layMatch 144 (.goto (-141)) 3 147 := ⟨by decide +kernel, rfl⟩
theorem dX7_layMatch_147 : dc cX7_layMatch 147 (.return_) 1 148 := ⟨by decide +kernel, rfl⟩
theorem dX7_match_0 : dc cX7_match 0 (.iload_n 1) 1 1 := ⟨by decide +kernel, rfl⟩
theorem dX7_match_1 : dc cX7_match 1 (.iconst (-1)) 1 2 := ⟨by decide +kernel, rfl⟩
theorem dX7_match_2 : dc cX7_match 2 (.if_icmp .eq 13) 3 5 := ⟨by decide +kernel, rfl⟩
theorem dX7_match_5 : dc cX7_match 5 (.aload_n 0) 1 6 := ⟨by decide +kernel, rfl⟩
theorem dX7_match_6 : dc cX7_match 6 (.iload_n 1) 1 7 := ⟨by decide +kernel, rfl⟩
theorem dX7_match_7 : dc cX7_match 7 (.invokevirtual 117) 3 10 := ⟨by decide +kernel, rfl⟩
theorem dX7_match_10 : dc cX7_match 10 (.ifCond .ne 5) 3 13 := ⟨by decide +kernel, rfl⟩
theorem dX7_match_13 : dc cX7_match 13 (.iconst (-1)) 1 14 := ⟨by decide +kernel, rfl⟩
theorem dX7_match_14 : dc cX7_match 14 (.ireturn) 1 15 := ⟨by decide +kernel, rfl⟩
theorem dX7_match_15 : dc cX7_match 15 (.aload_n 0) 1 16 := ⟨by decide +kernel, rfl⟩
theorem dX7_match_16 : dc cX7_match 16 (.invokevirtual 126) 3 19 := ⟨by decide +kernel, rfl⟩
theorem dX7_match_19 : dc cX7_match 19 (.iconst 0) 1 20 := ⟨by decide +kernel, rfl⟩
theorem dX7_match_20 : dc cX7_match 20 (.istore_n 2) 1 21 := ⟨by decide +kernel, rfl⟩
theorem dX7_match_21 : dc cX7_match 21 (.aload_n 0) 1 22 := ⟨by decide +kernel, rfl⟩
theorem dX7_match_22 : dc cX7_match 22 (.getfield 28) 3 25 := ⟨by decide +kernel, rfl⟩
theorem dX7_match_25 : dc cX7_match 25 (.iconst 0) 1 26 := ⟨by decide +kernel, rfl⟩
theorem dX7_match_26 : dc cX7_match 26 (.iaload) 1 27 := ⟨by decide +kernel, rfl⟩
theorem dX7_match_27 : dc cX7_match 27 (.istore_n 3) 1 28 := ⟨by decide +kernel, rfl⟩
theorem dX7_match_28 : dc cX7_match 28 (.iconst 0) 1 29 := ⟨by decide +kernel, rfl⟩
theorem dX7_match_29 : dc cX7_match 29 (.istore 4) 2 31 := ⟨by decide +kernel, rfl⟩
theorem dX7_match_31 : dc cX7_match 31 (.iload 4) 2 33 := ⟨by decide +kernel, rfl⟩
theorem dX7_match_33 : dc cX7_match 33 (.iload_n 1) 1 34 := ⟨by decide +kernel, rfl⟩
theorem dX7_match_34 : dc cX7_match 34 (.if_icmp .gt 139) 3 37 := ⟨by decide +kernel, rfl⟩
theorem dX7_match_37 : dc cX7_match 37 (.bipush (-6)) 2 39 := ⟨by decide +kernel, rfl⟩
theorem dX7_match_39 : dc cX7_match 39 (.istore_n 3) 1 40 := ⟨by decide +kernel, rfl⟩
theorem dX7_match_40 : dc cX7_match 40 (.iconst 5) 1 41 := ⟨by decide +kernel, rfl⟩
theorem dX7_match_41 : dc cX7_match 41 (.istore 5) 2 43 := ⟨by decide +kernel, rfl⟩
theorem dX7_match_43 : dc cX7_match 43 (.iload 5) 2 45 := ⟨by decide +kernel, rfl⟩
theorem dX7_match_45 : dc cX7_match 45 (.ifCond .lt 108) 3 48 := ⟨by decide +kernel, rfl⟩
theorem dX7_match_48 : dc cX7_match 48 (.aload_n 0) 1 49 := ⟨by decide +kernel, rfl⟩
theorem dX7_match_49 : dc cX7_match 49 (.iload 4) 2 51 := ⟨by decide +kernel, rfl⟩
theorem dX7_match_51 : dc cX7_match 51 (.invokevirtual 117) 3 54 := ⟨by decide +kernel, rfl⟩
theorem dX7_match_54 : dc cX7_match 54 (.ifCond .eq 32) 3 57 := ⟨by decide +kernel, rfl⟩
theorem dX7_match_57 : dc cX7_match 57 (.iload_n 2) 1 58 := ⟨by decide +kernel, rfl⟩
theorem dX7_match_58 : dc cX7_match 58 (.iload 5) 2 60 := ⟨by decide +kernel, rfl⟩
theorem dX7_match_60 : dc cX7_match 60 (.invokestatic 49) 3 63 := ⟨by decide +kernel, rfl⟩
theorem dX7_match_63 : dc cX7_match 63 (.ifCond .ne 23) 3 66 := ⟨by decide +kernel, rfl⟩
theorem dX7_match_66 : dc cX7_match 66 (.aload_n 0) 1 67 := ⟨by decide +kernel, rfl⟩
theorem dX7_match_67 : dc cX7_match 67 (.iload 5) 2 69 := ⟨by decide +kernel, rfl⟩
theorem dX7_match_69 : dc cX7_match 69 (.aload_n 0) 1 70 := ⟨by decide +kernel, rfl⟩
theorem dX7_match_70 : dc cX7_match 70 (.getfield 7) 3 73 := ⟨by decide +kernel, rfl⟩
theorem dX7_match_73 : dc cX7_match 73 (.iload 4) 2 75 := ⟨by decide +kernel, rfl⟩
theorem dX7_match_75 : dc cX7_match 75 (.iaload) 1 76 := ⟨by decide +kernel, rfl⟩
theorem dX7_match_76 : dc cX7_match 76 (.invokevirtual 77) 3 79 := ⟨by decide +kernel, rfl⟩
theorem dX7_match_79 : dc cX7_match 79 (.ifCond .eq 7) 3 82 := ⟨by decide +kernel, rfl⟩
theorem dX7_match_82 : dc cX7_match 82 (.iconst 1) 1 83 := ⟨by decide +kernel, rfl⟩
theorem dX7_match_83 : dc cX7_match 83 (.goto 4) 3 86 := ⟨by decide +kernel, rfl⟩
theorem dX7_match_86 : dc cX7_match 86 (.iconst 0) 1 87 := ⟨by decide +kernel, rfl⟩
theorem dX7_match_87 : dc cX7_match 87 (.istore 6) 2 89 := ⟨by decide +kernel, rfl⟩
theorem dX7_match_89 : dc cX7_match 89 (.iload 6) 2 91 := ⟨by decide +kernel, rfl⟩
theorem dX7_match_91 : dc cX7_match 91 (.ifCond .eq 54) 3 94 := ⟨by decide +kernel, rfl⟩
theorem dX7_match_94 : dc cX7_match 94 (.aload_n 0) 1 95 := ⟨by decide +kernel, rfl⟩
theorem dX7_match_95 : dc cX7_match 95 (.getfield 7) 3 98 := ⟨by decide +kernel, rfl⟩
theorem dX7_match_98 : dc cX7_match 98 (.bipush 88) 2 100 := ⟨by decide +kernel, rfl⟩
theorem dX7_match_100 : dc cX7_match 100 (.iload 5) 2 102 := ⟨by decide +kernel, rfl⟩
theorem dX7_match_102 : dc cX7_match 102 (.iadd) 1 103 := ⟨by decide +kernel, rfl⟩
theorem dX7_match_103 : dc cX7_match 103 (.iaload) 1 104 := ⟨by decide +kernel, rfl⟩
theorem dX7_match_104 : dc cX7_match 104 (.aload_n 0) 1 105 := ⟨by decide +kernel, rfl⟩
theorem dX7_match_105 : dc cX7_match 105 (.getfield 28) 3 108 := ⟨by decide +kernel, rfl⟩
theorem dX7_match_108 : dc cX7_match 108 (.bipush 64) 2 110 := ⟨by decide +kernel, rfl⟩
theorem dX7_match_110 : dc cX7_match 110 (.iload 4) 2 112 := ⟨by decide +kernel, rfl⟩
theorem dX7_match_112 : dc cX7_match 112 (.imul) 1 113 := ⟨by decide +kernel, rfl⟩
theorem dX7_match_113 : dc cX7_match 113 (.bipush 64) 2 115 := ⟨by decide +kernel, rfl⟩
theorem dX7_match_115 : dc cX7_match 115 (.iadd) 1 116 := ⟨by decide +kernel, rfl⟩
theorem dX7_match_116 : dc cX7_match 116 (.iload_n 2) 1 117 := ⟨by decide +kernel, rfl⟩
theorem dX7_match_117 : dc cX7_match 117 (.iconst 1) 1 118 := ⟨by decide +kernel, rfl⟩
theorem dX7_match_118 : dc cX7_match 118 (.iload 5) 2 120 := ⟨by decide +kernel, rfl⟩
theorem dX7_match_120 : dc cX7_match 120 (.ishl) 1 121 := ⟨by decide +kernel, rfl⟩
theorem dX7_match_121 : dc cX7_match 121 (.ior) 1 122 := ⟨by decide +kernel, rfl⟩
theorem dX7_match_122 : dc cX7_match 122 (.iadd) 1 123 := ⟨by decide +kernel, rfl⟩
theorem dX7_match_123 : dc cX7_match 123 (.iaload) 1 124 := ⟨by decide +kernel, rfl⟩
theorem dX7_match_124 : dc cX7_match 124 (.iadd) 1 125 := ⟨by decide +kernel, rfl⟩
theorem dX7_match_125 : dc cX7_match 125 (.aload_n 0) 1 126 := ⟨by decide +kernel, rfl⟩
theorem dX7_match_126 : dc cX7_match 126 (.getfield 28) 3 129 := ⟨by decide +kernel, rfl⟩
theorem dX7_match_129 : dc cX7_match 129 (.bipush 64) 2 131 := ⟨by decide +kernel, rfl⟩
theorem dX7_match_131 : dc cX7_match 131 (.iload 4) 2 133 := ⟨by decide +kernel, rfl⟩
theorem dX7_match_133 : dc cX7_match 133 (.imul) 1 134 := ⟨by decide +kernel, rfl⟩
theorem dX7_match_134 : dc cX7_match 134 (.iload_n 2) 1 135 := ⟨by decide +kernel, rfl⟩
theorem dX7_match_135 : dc cX7_match 135 (.iadd) 1 136 := ⟨by decide +kernel, rfl⟩
theorem dX7_match_136 : dc cX7_match 136 (.iaload) 1 137 := ⟨by decide +kernel, rfl⟩
theorem dX7_match_137 : dc cX7_match 137 (.if_icmp .ne 8) 3 140 := ⟨by decide +kernel, rfl⟩
theorem dX7_match_140 : dc cX7_match 140 (.iload 5) 2 142 := ⟨by decide +kernel, rfl⟩
theorem dX7_match_142 : dc cX7_match 142 (.goto 4) 3 145 := ⟨by decide +kernel, rfl⟩
theorem dX7_match_145 : dc cX7_match 145 (.iload_n 3) 1 146 := ⟨by decide +kernel, rfl⟩
theorem dX7_match_146 : dc cX7_match 146 (.istore_n 3) 1 147 := ⟨by decide +kernel, rfl⟩
theorem dX7_match_147 : dc cX7_match 147 (.iinc 5 (-1)) 3 150 := ⟨by decide +kernel, rfl⟩
theorem dX7_match_150 : dc cX7_match 150 (.goto (-107)) 3 153 := ⟨by decide +kernel, rfl⟩
theorem dX7_match_153 : dc cX7_match 153 (.iload_n 2) 1 154 := ⟨by decide +kernel, rfl⟩
theorem dX7_match_154 : dc cX7_match 154 (.iload_n 3) 1 155 := ⟨by decide +kernel, rfl⟩
theorem dX7_match_155 : dc cX7_match 155 (.ifCond .ge 7) 3 158 := ⟨by decide +kernel, rfl⟩
theorem dX7_match_158 : dc cX7_match 158 (.iconst 0) 1 159 := ⟨by decide +kernel, rfl⟩
theorem dX7_match_159 : dc cX7_match 159 (.goto 6) 3 162 := ⟨by decide +kernel, rfl⟩
theorem dX7_match_162 : dc cX7_match 162 (.iconst 1) 1 163 := ⟨by decide +kernel, rfl⟩
theorem dX7_match_163 : dc cX7_match 163 (.iload_n 3) 1 164 := ⟨by decide +kernel, rfl⟩
theorem dX7_match_164 : dc cX7_match 164 (.ishl) 1 165 := ⟨by decide +kernel, rfl⟩
theorem dX7_match_165 : dc cX7_match 165 (.ior) 1 166 := ⟨by decide +kernel, rfl⟩
theorem dX7_match_166 : dc cX7_match 166 (.istore_n 2) 1 167 := ⟨by decide +kernel, rfl⟩
theorem dX7_match_167 : dc cX7_match 167 (.iinc 4 1) 3 170 := ⟨by decide +kernel, rfl⟩
theorem dX7_match_170 : dc cX7_match 170 (.goto (-139)) 3 173 := ⟨by decide +kernel, rfl⟩
theorem dX7_match_173 : dc cX7_match 173 (.iload_n 3) 1 174 := ⟨by decide +kernel, rfl⟩
theorem dX7_match_174 : dc cX7_match 174 (.ireturn) 1 175 := ⟨by decide +kernel, rfl⟩
theorem dX7_seen_0 : dc cX7_seen 0 (.iload_n 1) 1 1 := ⟨by decide +kernel, rfl⟩
theorem dX7_seen_1 : dc cX7_seen 1 (.iconst 0) 1 2 := ⟨by decide +kernel, rfl⟩
theorem dX7_seen_2 : dc cX7_seen 2 (.sipush 255) 3 5 := ⟨by decide +kernel, rfl⟩
theorem dX7_seen_5 : dc cX7_seen 5 (.invokestatic 41) 3 8 := ⟨by decide +kernel, rfl⟩
theorem dX7_seen_8 : dc cX7_seen 8 (.ifCond .ne 6) 3 11 := ⟨by decide +kernel, rfl⟩
theorem dX7_seen_11 : dc cX7_seen 11 (.bipush (-2)) 2 13 := ⟨by decide +kernel, rfl⟩
theorem dX7_seen_13 : dc cX7_seen 13 (.ireturn) 1 14 := ⟨by decide +kernel, rfl⟩
theorem dX7_seen_14 : dc cX7_seen 14 (.aload_n 0) 1 15 := ⟨by decide +kernel, rfl⟩
theorem dX7_seen_15 : dc cX7_seen 15 (.getfield 129) 3 18 := ⟨by decide +kernel, rfl⟩
theorem dX7_seen_18 : dc cX7_seen 18 (.bipush 8) 2 20 := ⟨by decide +kernel, rfl⟩
theorem dX7_seen_20 : dc cX7_seen 20 (.if_icmp .ne 6) 3 23 := ⟨by decide +kernel, rfl⟩
theorem dX7_seen_23 : dc cX7_seen 23 (.bipush (-4)) 2 25 := ⟨by decide +kernel, rfl⟩
theorem dX7_seen_25 : dc cX7_seen 25 (.ireturn) 1 26 := ⟨by decide +kernel, rfl⟩
theorem dX7_seen_26 : dc cX7_seen 26 (.aload_n 0) 1 27 := ⟨by decide +kernel, rfl⟩
theorem dX7_seen_27 : dc cX7_seen 27 (.getfield 22) 3 30 := ⟨by decide +kernel, rfl⟩
theorem dX7_seen_30 : dc cX7_seen 30 (.iconst 2) 1 31 := ⟨by decide +kernel, rfl⟩
theorem dX7_seen_31 : dc cX7_seen 31 (.aload_n 0) 1 32 := ⟨by decide +kernel, rfl⟩
theorem dX7_seen_32 : dc cX7_seen 32 (.getfield 129) 3 35 := ⟨by decide +kernel, rfl⟩
theorem dX7_seen_35 : dc cX7_seen 35 (.imul) 1 36 := ⟨by decide +kernel, rfl⟩
theorem dX7_seen_36 : dc cX7_seen 36 (.iload_n 1) 1 37 := ⟨by decide +kernel, rfl⟩
theorem dX7_seen_37 : dc cX7_seen 37 (.iastore) 1 38 := ⟨by decide +kernel, rfl⟩
theorem dX7_seen_38 : dc cX7_seen 38 (.aload_n 0) 1 39 := ⟨by decide +kernel, rfl⟩
theorem dX7_seen_39 : dc cX7_seen 39 (.getfield 22) 3 42 := ⟨by decide +kernel, rfl⟩
theorem dX7_seen_42 : dc cX7_seen 42 (.iconst 2) 1 43 := ⟨by decide +kernel, rfl⟩
theorem dX7_seen_43 : dc cX7_seen 43 (.aload_n 0) 1 44 := ⟨by decide +kernel, rfl⟩
theorem dX7_seen_44 : dc cX7_seen 44 (.getfield 129) 3 47 := ⟨by decide +kernel, rfl⟩
theorem dX7_seen_47 : dc cX7_seen 47 (.imul) 1 48 := ⟨by decide +kernel, rfl⟩
theorem dX7_seen_48 : dc cX7_seen 48 (.iconst 1) 1 49 := ⟨by decide +kernel, rfl⟩
theorem dX7_seen_49 : dc cX7_seen 49 (.iadd) 1 50 := ⟨by decide +kernel, rfl⟩
theorem dX7_seen_50 : dc cX7_seen 50 (.iload_n 2) 1 51 := ⟨by decide +kernel, rfl⟩
theorem dX7_seen_51 : dc cX7_seen 51 (.ifCond .eq 7) 3 54 := ⟨by decide +kernel, rfl⟩
theorem dX7_seen_54 : dc cX7_seen 54 (.iconst 1) 1 55 := ⟨by decide +kernel, rfl⟩
theorem dX7_seen_55 : dc cX7_seen 55 (.goto 4) 3 58 := ⟨by decide +kernel, rfl⟩
theorem dX7_seen_58 : dc cX7_seen 58 (.iconst 0) 1 59 := ⟨by decide +kernel, rfl⟩
theorem dX7_seen_59 : dc cX7_seen 59 (.iastore) 1 60 := ⟨by decide +kernel, rfl⟩
theorem dX7_seen_60 : dc cX7_seen 60 (.aload_n 0) 1 61 := ⟨by decide +kernel, rfl⟩
theorem dX7_seen_61 : dc cX7_seen 61 (.dup) 1 62 := ⟨by decide +kernel, rfl⟩
theorem dX7_seen_62 : dc cX7_seen 62 (.getfield 129) 3 65 := ⟨by decide +kernel, rfl⟩
theorem dX7_seen_65 : dc cX7_seen 65 (.iconst 1) 1 66 := ⟨by decide +kernel, rfl⟩
theorem dX7_seen_66 : dc cX7_seen 66 (.iadd) 1 67 := ⟨by decide +kernel, rfl⟩
theorem dX7_seen_67 : dc cX7_seen 67 (.putfield 129) 3 70 := ⟨by decide +kernel, rfl⟩
theorem dX7_seen_70 : dc cX7_seen 70 (.aload_n 0) 1 71 := ⟨by decide +kernel, rfl⟩
theorem dX7_seen_71 : dc cX7_seen 71 (.getfield 129) 3 74 := ⟨by decide +kernel, rfl⟩
theorem dX7_seen_74 : dc cX7_seen 74 (.ireturn) 1 75 := ⟨by decide +kernel, rfl⟩
theorem dX7_forget_0 : dc cX7_forget 0 (.aload_n 0) 1 1 := ⟨by decide +kernel, rfl⟩
theorem dX7_forget_1 : dc cX7_forget 1 (.getfield 129) 3 4 := ⟨by decide +kernel, rfl⟩
theorem dX7_forget_4 : dc cX7_forget 4 (.istore_n 1) 1 5 := ⟨by decide +kernel, rfl⟩
theorem dX7_forget_5 : dc cX7_forget 5 (.aload_n 0) 1 6 := ⟨by decide +kernel, rfl⟩
theorem dX7_forget_6 : dc cX7_forget 6 (.iconst 0) 1 7 := ⟨by decide +kernel, rfl⟩
theorem dX7_forget_7 : dc cX7_forget 7 (.putfield 129) 3 10 := ⟨by decide +kernel, rfl⟩
theorem dX7_forget_10 : dc cX7_forget 10 (.iload_n 1) 1 11 := ⟨by decide +kernel, rfl⟩
theorem dX7_forget_11 : dc cX7_forget 11 (.ireturn) 1 12 := ⟨by decide +kernel, rfl⟩
theorem dX7_isLaw_0 : dc cX7_isLaw 0 (.iload_n 2) 1 1 := ⟨by decide +kernel, rfl⟩
theorem dX7_isLaw_1 : dc cX7_isLaw 1 (.iconst 1) 1 2 := ⟨by decide +kernel, rfl⟩
theorem dX7_isLaw_2 : dc cX7_isLaw 2 (.iload_n 1) 1 3 := ⟨by decide +kernel, rfl⟩
theorem dX7_isLaw_3 : dc cX7_isLaw 3 (.invokestatic 53) 3 6 := ⟨by decide +kernel, rfl⟩
theorem dX7_isLaw_6 : dc cX7_isLaw 6 (.invokestatic 41) 3 9 := ⟨by decide +kernel, rfl⟩
theorem dX7_isLaw_9 : dc cX7_isLaw 9 (.istore_n 3) 1 10 := ⟨by decide +kernel, rfl⟩
theorem dX7_isLaw_10 : dc cX7_isLaw 10 (.iconst 0) 1 11 := ⟨by decide +kernel, rfl⟩
theorem dX7_isLaw_11 : dc cX7_isLaw 11 (.istore 4) 2 13 := ⟨by decide +kernel, rfl⟩
theorem dX7_isLaw_13 : dc cX7_isLaw 13 (.iload 4) 2 15 := ⟨by decide +kernel, rfl⟩
theorem dX7_isLaw_15 : dc cX7_isLaw 15 (.aload_n 0) 1 16 := ⟨by decide +kernel, rfl⟩
theorem dX7_isLaw_16 : dc cX7_isLaw 16 (.getfield 129) 3 19 := ⟨by decide +kernel, rfl⟩
theorem dX7_isLaw_19 : dc cX7_isLaw 19 (.if_icmp .ge 65) 3 22 := ⟨by decide +kernel, rfl⟩
theorem dX7_isLaw_22 : dc cX7_isLaw 22 (.iload_n 3) 1 23 := ⟨by decide +kernel, rfl⟩
theorem dX7_isLaw_23 : dc cX7_isLaw 23 (.ifCond .eq 61) 3 26 := ⟨by decide +kernel, rfl⟩
theorem dX7_isLaw_26 : dc cX7_isLaw 26 (.aload_n 0) 1 27 := ⟨by decide +kernel, rfl⟩
theorem dX7_isLaw_27 : dc cX7_isLaw 27 (.getfield 22) 3 30 := ⟨by decide +kernel, rfl⟩
theorem dX7_isLaw_30 : dc cX7_isLaw 30 (.iconst 2) 1 31 := ⟨by decide +kernel, rfl⟩
theorem dX7_isLaw_31 : dc cX7_isLaw 31 (.iload 4) 2 33 := ⟨by decide +kernel, rfl⟩
theorem dX7_isLaw_33 : dc cX7_isLaw 33 (.imul) 1 34 := ⟨by decide +kernel, rfl⟩
theorem dX7_isLaw_34 : dc cX7_isLaw 34 (.iaload) 1 35 := ⟨by decide +kernel, rfl⟩
theorem dX7_isLaw_35 : dc cX7_isLaw 35 (.iload_n 1) 1 36 := ⟨by decide +kernel, rfl⟩
theorem dX7_isLaw_36 : dc cX7_isLaw 36 (.iand) 1 37 := ⟨by decide +kernel, rfl⟩
theorem dX7_isLaw_37 : dc cX7_isLaw 37 (.invokestatic 53) 3 40 := ⟨by decide +kernel, rfl⟩
theorem dX7_isLaw_40 : dc cX7_isLaw 40 (.iload_n 2) 1 41 := ⟨by decide +kernel, rfl⟩
theorem dX7_isLaw_41 : dc cX7_isLaw 41 (.if_icmp .lt 7) 3 44 := ⟨by decide +kernel, rfl⟩
theorem dX7_isLaw_44 : dc cX7_isLaw 44 (.iconst 1) 1 45 := ⟨by decide +kernel, rfl⟩
theorem dX7_isLaw_45 : dc cX7_isLaw 45 (.goto 4) 3 48 := ⟨by decide +kernel, rfl⟩
theorem dX7_isLaw_48 : dc cX7_isLaw 48 (.iconst 0) 1 49 := ⟨by decide +kernel, rfl⟩
theorem dX7_isLaw_49 : dc cX7_isLaw 49 (.aload_n 0) 1 50 := ⟨by decide +kernel, rfl⟩
theorem dX7_isLaw_50 : dc cX7_isLaw 50 (.getfield 22) 3 53 := ⟨by decide +kernel, rfl⟩
theorem dX7_isLaw_53 : dc cX7_isLaw 53 (.iconst 2) 1 54 := ⟨by decide +kernel, rfl⟩
theorem dX7_isLaw_54 : dc cX7_isLaw 54 (.iload 4) 2 56 := ⟨by decide +kernel, rfl⟩
theorem dX7_isLaw_56 : dc cX7_isLaw 56 (.imul) 1 57 := ⟨by decide +kernel, rfl⟩
theorem dX7_isLaw_57 : dc cX7_isLaw 57 (.iconst 1) 1 58 := ⟨by decide +kernel, rfl⟩
theorem dX7_isLaw_58 : dc cX7_isLaw 58 (.iadd) 1 59 := ⟨by decide +kernel, rfl⟩
theorem dX7_isLaw_59 : dc cX7_isLaw 59 (.iaload) 1 60 := ⟨by decide +kernel, rfl⟩
theorem dX7_isLaw_60 : dc cX7_isLaw 60 (.iconst 1) 1 61 := ⟨by decide +kernel, rfl⟩
theorem dX7_isLaw_61 : dc cX7_isLaw 61 (.if_icmp .ne 7) 3 64 := ⟨by decide +kernel, rfl⟩
theorem dX7_isLaw_64 : dc cX7_isLaw 64 (.iconst 1) 1 65 := ⟨by decide +kernel, rfl⟩
theorem dX7_isLaw_65 : dc cX7_isLaw 65 (.goto 4) 3 68 := ⟨by decide +kernel, rfl⟩
theorem dX7_isLaw_68 : dc cX7_isLaw 68 (.iconst 0) 1 69 := ⟨by decide +kernel, rfl⟩
theorem dX7_isLaw_69 : dc cX7_isLaw 69 (.if_icmp .ne 7) 3 72 := ⟨by decide +kernel, rfl⟩
theorem dX7_isLaw_72 : dc cX7_isLaw 72 (.iconst 1) 1 73 := ⟨by decide +kernel, rfl⟩
theorem dX7_isLaw_73 : dc cX7_isLaw 73 (.goto 4) 3 76 := ⟨by decide +kernel, rfl⟩
theorem dX7_isLaw_76 : dc cX7_isLaw 76 (.iconst 0) 1 77 := ⟨by decide +kernel, rfl⟩
theorem dX7_isLaw_77 : dc cX7_isLaw 77 (.istore_n 3) 1 78 := ⟨by decide +kernel, rfl⟩
theorem dX7_isLaw_78 : dc cX7_isLaw 78 (.iinc 4 1) 3 81 := ⟨by decide +kernel, rfl⟩
theorem dX7_isLaw_81 : dc cX7_isLaw 81 (.goto (-68)) 3 84 := ⟨by decide +kernel, rfl⟩
theorem dX7_isLaw_84 : dc cX7_isLaw 84 (.iload_n 3) 1 85 := ⟨by decide +kernel, rfl⟩
theorem dX7_isLaw_85 : dc cX7_isLaw 85 (.ireturn) 1 86 := ⟨by decide +kernel, rfl⟩
theorem dX7_laws_0 : dc cX7_laws 0 (.iconst 0) 1 1 := ⟨by decide +kernel, rfl⟩
theorem dX7_laws_1 : dc cX7_laws 1 (.istore_n 2) 1 2 := ⟨by decide +kernel, rfl⟩
theorem dX7_laws_2 : dc cX7_laws 2 (.iconst 1) 1 3 := ⟨by decide +kernel, rfl⟩
theorem dX7_laws_3 : dc cX7_laws 3 (.istore_n 3) 1 4 := ⟨by decide +kernel, rfl⟩
theorem dX7_laws_4 : dc cX7_laws 4 (.iload_n 3) 1 5 := ⟨by decide +kernel, rfl⟩
theorem dX7_laws_5 : dc cX7_laws 5 (.sipush 256) 3 8 := ⟨by decide +kernel, rfl⟩
theorem dX7_laws_8 : dc cX7_laws 8 (.if_icmp .ge 51) 3 11 := ⟨by decide +kernel, rfl⟩
theorem dX7_laws_11 : dc cX7_laws 11 (.iconst 1) 1 12 := ⟨by decide +kernel, rfl⟩
theorem dX7_laws_12 : dc cX7_laws 12 (.istore 4) 2 14 := ⟨by decide +kernel, rfl⟩
theorem dX7_laws_14 : dc cX7_laws 14 (.iload 4) 2 16 := ⟨by decide +kernel, rfl⟩
theorem dX7_laws_16 : dc cX7_laws 16 (.bipush 9) 2 18 := ⟨by decide +kernel, rfl⟩
theorem dX7_laws_18 : dc cX7_laws 18 (.if_icmp .ge 35) 3 21 := ⟨by decide +kernel, rfl⟩
theorem dX7_laws_21 : dc cX7_laws 21 (.aload_n 0) 1 22 := ⟨by decide +kernel, rfl⟩
theorem dX7_laws_22 : dc cX7_laws 22 (.iload_n 3) 1 23 := ⟨by decide +kernel, rfl⟩
theorem dX7_laws_23 : dc cX7_laws 23 (.iload 4) 2 25 := ⟨by decide +kernel, rfl⟩
theorem dX7_laws_25 : dc cX7_laws 25 (.invokevirtual 132) 3 28 := ⟨by decide +kernel, rfl⟩
theorem dX7_laws_28 : dc cX7_laws 28 (.ifCond .eq 19) 3 31 := ⟨by decide +kernel, rfl⟩
theorem dX7_laws_31 : dc cX7_laws 31 (.iload_n 2) 1 32 := ⟨by decide +kernel, rfl⟩
theorem dX7_laws_32 : dc cX7_laws 32 (.iload_n 1) 1 33 := ⟨by decide +kernel, rfl⟩
theorem dX7_laws_33 : dc cX7_laws 33 (.if_icmp .ne 11) 3 36 := ⟨by decide +kernel, rfl⟩
theorem dX7_laws_36 : dc cX7_laws 36 (.bipush 10) 2 38 := ⟨by decide +kernel, rfl⟩
theorem dX7_laws_38 : dc cX7_laws 38 (.iload_n 3) 1 39 := ⟨by decide +kernel, rfl⟩
theorem dX7_laws_39 : dc cX7_laws 39 (.imul) 1 40 := ⟨by decide +kernel, rfl⟩
theorem dX7_laws_40 : dc cX7_laws 40 (.iload 4) 2 42 := ⟨by decide +kernel, rfl⟩
theorem dX7_laws_42 : dc cX7_laws 42 (.iadd) 1 43 := ⟨by decide +kernel, rfl⟩
theorem dX7_laws_43 : dc cX7_laws 43 (.ireturn) 1 44 := ⟨by decide +kernel, rfl⟩
theorem dX7_laws_44 : dc cX7_laws 44 (.iinc 2 1) 3 47 := ⟨by decide +kernel, rfl⟩
theorem dX7_laws_47 : dc cX7_laws 47 (.iinc 4 1) 3 50 := ⟨by decide +kernel, rfl⟩
theorem dX7_laws_50 : dc cX7_laws 50 (.goto (-36)) 3 53 := ⟨by decide +kernel, rfl⟩
theorem dX7_laws_53 : dc cX7_laws 53 (.iinc 3 1) 3 56 := ⟨by decide +kernel, rfl⟩
theorem dX7_laws_56 : dc cX7_laws 56 (.goto (-52)) 3 59 := ⟨by decide +kernel, rfl⟩
theorem dX7_laws_59 : dc cX7_laws 59 (.iload_n 1) 1 60 := ⟨by decide +kernel, rfl⟩
theorem dX7_laws_60 : dc cX7_laws 60 (.iconst (-1)) 1 61 := ⟨by decide +kernel, rfl⟩
theorem dX7_laws_61 : dc cX7_laws 61 (.if_icmp .ne 7) 3 64 := ⟨by decide +kernel, rfl⟩
theorem dX7_laws_64 : dc cX7_laws 64 (.iload_n 2) 1 65 := ⟨by decide +kernel, rfl⟩
theorem dX7_laws_65 : dc cX7_laws 65 (.goto 5) 3 68 := ⟨by decide +kernel, rfl⟩
theorem dX7_laws_68 : dc cX7_laws 68 (.bipush (-6)) 2 70 := ⟨by decide +kernel, rfl⟩
theorem dX7_laws_70 : dc cX7_laws 70 (.ireturn) 1 71 := ⟨by decide +kernel, rfl⟩
theorem dX7_next_0 : dc cX7_next 0 (.iload_n 1) 1 1 := ⟨by decide +kernel, rfl⟩
theorem dX7_next_1 : dc cX7_next 1 (.iconst 0) 1 2 := ⟨by decide +kernel, rfl⟩
theorem dX7_next_2 : dc cX7_next 2 (.iconst 1) 1 3 := ⟨by decide +kernel, rfl⟩
theorem dX7_next_3 : dc cX7_next 3 (.invokestatic 41) 3 6 := ⟨by decide +kernel, rfl⟩
theorem dX7_next_6 : dc cX7_next 6 (.ifCond .ne 6) 3 9 := ⟨by decide +kernel, rfl⟩
theorem dX7_next_9 : dc cX7_next 9 (.bipush (-2)) 2 11 := ⟨by decide +kernel, rfl⟩
theorem dX7_next_11 : dc cX7_next 11 (.ireturn) 1 12 := ⟨by decide +kernel, rfl⟩
theorem dX7_next_12 : dc cX7_next 12 (.iconst 0) 1 13 := ⟨by decide +kernel, rfl⟩
theorem dX7_next_13 : dc cX7_next 13 (.istore_n 2) 1 14 := ⟨by decide +kernel, rfl⟩
theorem dX7_next_14 : dc cX7_next 14 (.iconst 0) 1 15 := ⟨by decide +kernel, rfl⟩
theorem dX7_next_15 : dc cX7_next 15 (.istore_n 3) 1 16 := ⟨by decide +kernel, rfl⟩
theorem dX7_next_16 : dc cX7_next 16 (.iload_n 3) 1 17 := ⟨by decide +kernel, rfl⟩
theorem dX7_next_17 : dc cX7_next 17 (.bipush 8) 2 19 := ⟨by decide +kernel, rfl⟩
theorem dX7_next_19 : dc cX7_next 19 (.if_icmp .ge 16) 3 22 := ⟨by decide +kernel, rfl⟩
theorem dX7_next_22 : dc cX7_next 22 (.aload_n 0) 1 23 := ⟨by decide +kernel, rfl⟩
theorem dX7_next_23 : dc cX7_next 23 (.getfield 31) 3 26 := ⟨by decide +kernel, rfl⟩
theorem dX7_next_26 : dc cX7_next 26 (.iload_n 3) 1 27 := ⟨by decide +kernel, rfl⟩
theorem dX7_next_27 : dc cX7_next 27 (.iconst 0) 1 28 := ⟨by decide +kernel, rfl⟩
theorem dX7_next_28 : dc cX7_next 28 (.iastore) 1 29 := ⟨by decide +kernel, rfl⟩
theorem dX7_next_29 : dc cX7_next 29 (.iinc 3 1) 3 32 := ⟨by decide +kernel, rfl⟩
theorem dX7_next_32 : dc cX7_next 32 (.goto (-16)) 3 35 := ⟨by decide +kernel, rfl⟩
theorem dX7_next_35 : dc cX7_next 35 (.iconst 1) 1 36 := ⟨by decide +kernel, rfl⟩
theorem dX7_next_36 : dc cX7_next 36 (.istore_n 3) 1 37 := ⟨by decide +kernel, rfl⟩
theorem dX7_next_37 : dc cX7_next 37 (.iload_n 3) 1 38 := ⟨by decide +kernel, rfl⟩
theorem dX7_next_38 : dc cX7_next 38 (.sipush 256) 3 41 := ⟨by decide +kernel, rfl⟩
theorem dX7_next_41 : dc cX7_next 41 (.if_icmp .ge 95) 3 44 := ⟨by decide +kernel, rfl⟩
theorem dX7_next_44 : dc cX7_next 44 (.iconst 1) 1 45 := ⟨by decide +kernel, rfl⟩
theorem dX7_next_45 : dc cX7_next 45 (.istore 4) 2 47 := ⟨by decide +kernel, rfl⟩
theorem dX7_next_47 : dc cX7_next 47 (.iload 4) 2 49 := ⟨by decide +kernel, rfl⟩
theorem dX7_next_49 : dc cX7_next 49 (.bipush 9) 2 51 := ⟨by decide +kernel, rfl⟩
theorem dX7_next_51 : dc cX7_next 51 (.if_icmp .ge 79) 3 54 := ⟨by decide +kernel, rfl⟩
theorem dX7_next_54 : dc cX7_next 54 (.aload_n 0) 1 55 := ⟨by decide +kernel, rfl⟩
theorem dX7_next_55 : dc cX7_next 55 (.iload_n 3) 1 56 := ⟨by decide +kernel, rfl⟩
theorem dX7_next_56 : dc cX7_next 56 (.iload 4) 2 58 := ⟨by decide +kernel, rfl⟩
theorem dX7_next_58 : dc cX7_next 58 (.invokevirtual 132) 3 61 := ⟨by decide +kernel, rfl⟩
theorem dX7_next_61 : dc cX7_next 61 (.ifCond .eq 63) 3 64 := ⟨by decide +kernel, rfl⟩
theorem dX7_next_64 : dc cX7_next 64 (.iinc 2 1) 3 67 := ⟨by decide +kernel, rfl⟩
theorem dX7_next_67 : dc cX7_next 67 (.iconst 0) 1 68 := ⟨by decide +kernel, rfl⟩
theorem dX7_next_68 : dc cX7_next 68 (.istore 5) 2 70 := ⟨by decide +kernel, rfl⟩
theorem dX7_next_70 : dc cX7_next 70 (.iload 5) 2 72 := ⟨by decide +kernel, rfl⟩
theorem dX7_next_72 : dc cX7_next 72 (.bipush 8) 2 74 := ⟨by decide +kernel, rfl⟩
theorem dX7_next_74 : dc cX7_next 74 (.if_icmp .ge 50) 3 77 := ⟨by decide +kernel, rfl⟩
theorem dX7_next_77 : dc cX7_next 77 (.aload_n 0) 1 78 := ⟨by decide +kernel, rfl⟩
theorem dX7_next_78 : dc cX7_next 78 (.getfield 31) 3 81 := ⟨by decide +kernel, rfl⟩
theorem dX7_next_81 : dc cX7_next 81 (.iload 5) 2 83 := ⟨by decide +kernel, rfl⟩
theorem dX7_next_83 : dc cX7_next 83 (.dup2) 1 84 := ⟨by decide +kernel, rfl⟩
theorem dX7_next_84 : dc cX7_next 84 (.iaload) 1 85 := ⟨by decide +kernel, rfl⟩
theorem dX7_next_85 : dc cX7_next 85 (.aload_n 0) 1 86 := ⟨by decide +kernel, rfl⟩
theorem dX7_next_86 : dc cX7_next 86 (.iload 5) 2 88 := ⟨by decide +kernel, rfl⟩
theorem dX7_next_88 : dc cX7_next 88 (.invokevirtual 117) 3 91 := ⟨by decide +kernel, rfl⟩
theorem dX7_next_91 : dc cX7_next 91 (.ifCond .eq 24) 3 94 := ⟨by decide +kernel, rfl⟩
theorem dX7_next_94 : dc cX7_next 94 (.aload_n 0) 1 95 := ⟨by decide +kernel, rfl⟩
theorem dX7_next_95 : dc cX7_next 95 (.getfield 7) 3 98 := ⟨by decide +kernel, rfl⟩
theorem dX7_next_98 : dc cX7_next 98 (.iload 5) 2 100 := ⟨by decide +kernel, rfl⟩
theorem dX7_next_100 : dc cX7_next 100 (.iaload) 1 101 := ⟨by decide +kernel, rfl⟩
theorem dX7_next_101 : dc cX7_next 101 (.iload_n 3) 1 102 := ⟨by decide +kernel, rfl⟩
theorem dX7_next_102 : dc cX7_next 102 (.iand) 1 103 := ⟨by decide +kernel, rfl⟩
theorem dX7_next_103 : dc cX7_next 103 (.invokestatic 53) 3 106 := ⟨by decide +kernel, rfl⟩
theorem dX7_next_106 : dc cX7_next 106 (.iload 4) 2 108 := ⟨by decide +kernel, rfl⟩
theorem dX7_next_108 : dc cX7_next 108 (.if_icmp .lt 7) 3 111 := ⟨by decide +kernel, rfl⟩
theorem dX7_next_111 : dc cX7_next 111 (.iconst 1) 1 112 := ⟨by decide +kernel, rfl⟩
theorem dX7_next_112 : dc cX7_next 112 (.goto 4) 3 115 := ⟨by decide +kernel, rfl⟩
theorem dX7_next_115 : dc cX7_next 115 (.iconst 0) 1 116 := ⟨by decide +kernel, rfl⟩
theorem dX7_next_116 : dc cX7_next 116 (.iadd) 1 117 := ⟨by decide +kernel, rfl⟩
theorem dX7_next_117 : dc cX7_next 117 (.iastore) 1 118 := ⟨by decide +kernel, rfl⟩
theorem dX7_next_118 : dc cX7_next 118 (.iinc 5 1) 3 121 := ⟨by decide +kernel, rfl⟩
theorem dX7_next_121 : dc cX7_next 121 (.goto (-51)) 3 124 := ⟨by decide +kernel, rfl⟩
theorem dX7_next_124 : dc cX7_next 124 (.iinc 4 1) 3 127 := ⟨by decide +kernel, rfl⟩
theorem dX7_next_127 : dc cX7_next 127 (.goto (-80)) 3 130 := ⟨by decide +kernel, rfl⟩
theorem dX7_next_130 : dc cX7_next 130 (.iinc 3 1) 3 133 := ⟨by decide +kernel, rfl⟩
theorem dX7_next_133 : dc cX7_next 133 (.goto (-96)) 3 136 := ⟨by decide +kernel, rfl⟩
theorem dX7_next_136 : dc cX7_next 136 (.bipush (-6)) 2 138 := ⟨by decide +kernel, rfl⟩
theorem dX7_next_138 : dc cX7_next 138 (.istore_n 3) 1 139 := ⟨by decide +kernel, rfl⟩
theorem dX7_next_139 : dc cX7_next 139 (.ldc 135) 2 141 := ⟨by decide +kernel, rfl⟩
theorem dX7_next_141 : dc cX7_next 141 (.istore 4) 2 143 := ⟨by decide +kernel, rfl⟩
theorem dX7_next_143 : dc cX7_next 143 (.iconst 0) 1 144 := ⟨by decide +kernel, rfl⟩
theorem dX7_next_144 : dc cX7_next 144 (.istore 5) 2 146 := ⟨by decide +kernel, rfl⟩
theorem dX7_next_146 : dc cX7_next 146 (.iload 5) 2 148 := ⟨by decide +kernel, rfl⟩
theorem dX7_next_148 : dc cX7_next 148 (.bipush 8) 2 150 := ⟨by decide +kernel, rfl⟩
theorem dX7_next_150 : dc cX7_next 150 (.if_icmp .ge 92) 3 153 := ⟨by decide +kernel, rfl⟩
theorem dX7_next_153 : dc cX7_next 153 (.iload_n 2) 1 154 := ⟨by decide +kernel, rfl⟩
theorem dX7_next_154 : dc cX7_next 154 (.ifCond .le 88) 3 157 := ⟨by decide +kernel, rfl⟩
theorem dX7_next_157 : dc cX7_next 157 (.aload_n 0) 1 158 := ⟨by decide +kernel, rfl⟩
theorem dX7_next_158 : dc cX7_next 158 (.iload 5) 2 160 := ⟨by decide +kernel, rfl⟩
theorem dX7_next_160 : dc cX7_next 160 (.invokevirtual 117) 3 163 := ⟨by decide +kernel, rfl⟩
theorem dX7_next_163 : dc cX7_next 163 (.ifCond .eq 73) 3 166 := ⟨by decide +kernel, rfl⟩
theorem dX7_next_166 : dc cX7_next 166 (.aload_n 0) 1 167 := ⟨by decide +kernel, rfl⟩
theorem dX7_next_167 : dc cX7_next 167 (.getfield 31) 3 170 := ⟨by decide +kernel, rfl⟩
theorem dX7_next_170 : dc cX7_next 170 (.iload 5) 2 172 := ⟨by decide +kernel, rfl⟩
theorem dX7_next_172 : dc cX7_next 172 (.iaload) 1 173 := ⟨by decide +kernel, rfl⟩
theorem dX7_next_173 : dc cX7_next 173 (.iload_n 2) 1 174 := ⟨by decide +kernel, rfl⟩
theorem dX7_next_174 : dc cX7_next 174 (.aload_n 0) 1 175 := ⟨by decide +kernel, rfl⟩
theorem dX7_next_175 : dc cX7_next 175 (.getfield 31) 3 178 := ⟨by decide +kernel, rfl⟩
theorem dX7_next_178 : dc cX7_next 178 (.iload 5) 2 180 := ⟨by decide +kernel, rfl⟩
theorem dX7_next_180 : dc cX7_next 180 (.iaload) 1 181 := ⟨by decide +kernel, rfl⟩
theorem dX7_next_181 : dc cX7_next 181 (.isub) 1 182 := ⟨by decide +kernel, rfl⟩
theorem dX7_next_182 : dc cX7_next 182 (.if_icmp .le 13) 3 185 := ⟨by decide +kernel, rfl⟩
theorem dX7_next_185 : dc cX7_next 185 (.aload_n 0) 1 186 := ⟨by decide +kernel, rfl⟩
theorem dX7_next_186 : dc cX7_next 186 (.getfield 31) 3 189 := ⟨by decide +kernel, rfl⟩
theorem dX7_next_189 : dc cX7_next 189 (.iload 5) 2 191 := ⟨by decide +kernel, rfl⟩
theorem dX7_next_191 : dc cX7_next 191 (.iaload) 1 192 := ⟨by decide +kernel, rfl⟩
theorem dX7_next_192 : dc cX7_next 192 (.goto 12) 3 195 := ⟨by decide +kernel, rfl⟩
theorem dX7_next_195 : dc cX7_next 195 (.iload_n 2) 1 196 := ⟨by decide +kernel, rfl⟩
theorem dX7_next_196 : dc cX7_next 196 (.aload_n 0) 1 197 := ⟨by decide +kernel, rfl⟩
theorem dX7_next_197 : dc cX7_next 197 (.getfield 31) 3 200 := ⟨by decide +kernel, rfl⟩
theorem dX7_next_200 : dc cX7_next 200 (.iload 5) 2 202 := ⟨by decide +kernel, rfl⟩
theorem dX7_next_202 : dc cX7_next 202 (.iaload) 1 203 := ⟨by decide +kernel, rfl⟩
theorem dX7_next_203 : dc cX7_next 203 (.isub) 1 204 := ⟨by decide +kernel, rfl⟩
theorem dX7_next_204 : dc cX7_next 204 (.istore 6) 2 206 := ⟨by decide +kernel, rfl⟩
theorem dX7_next_206 : dc cX7_next 206 (.iload 6) 2 208 := ⟨by decide +kernel, rfl⟩
theorem dX7_next_208 : dc cX7_next 208 (.iload 4) 2 210 := ⟨by decide +kernel, rfl⟩
theorem dX7_next_210 : dc cX7_next 210 (.if_icmp .ge 8) 3 213 := ⟨by decide +kernel, rfl⟩
theorem dX7_next_213 : dc cX7_next 213 (.iload 5) 2 215 := ⟨by decide +kernel, rfl⟩
theorem dX7_next_215 : dc cX7_next 215 (.goto 4) 3 218 := ⟨by decide +kernel, rfl⟩
theorem dX7_next_218 : dc cX7_next 218 (.iload_n 3) 1 219 := ⟨by decide +kernel, rfl⟩
theorem dX7_next_219 : dc cX7_next 219 (.istore_n 3) 1 220 := ⟨by decide +kernel, rfl⟩
theorem dX7_next_220 : dc cX7_next 220 (.iload 6) 2 222 := ⟨by decide +kernel, rfl⟩
theorem dX7_next_222 : dc cX7_next 222 (.iload 4) 2 224 := ⟨by decide +kernel, rfl⟩
theorem dX7_next_224 : dc cX7_next 224 (.if_icmp .ge 8) 3 227 := ⟨by decide +kernel, rfl⟩
theorem dX7_next_227 : dc cX7_next 227 (.iload 6) 2 229 := ⟨by decide +kernel, rfl⟩
theorem dX7_next_229 : dc cX7_next 229 (.goto 5) 3 232 := ⟨by decide +kernel, rfl⟩
theorem dX7_next_232 : dc cX7_next 232 (.iload 4) 2 234 := ⟨by decide +kernel, rfl⟩
theorem dX7_next_234 : dc cX7_next 234 (.istore 4) 2 236 := ⟨by decide +kernel, rfl⟩
theorem dX7_next_236 : dc cX7_next 236 (.iinc 5 1) 3 239 := ⟨by decide +kernel, rfl⟩
theorem dX7_next_239 : dc cX7_next 239 (.goto (-93)) 3 242 := ⟨by decide +kernel, rfl⟩
theorem dX7_next_242 : dc cX7_next 242 (.iload_n 3) 1 243 := ⟨by decide +kernel, rfl⟩
theorem dX7_next_243 : dc cX7_next 243 (.ifCond .lt 7) 3 246 := ⟨by decide +kernel, rfl⟩
theorem dX7_next_246 : dc cX7_next 246 (.iload_n 1) 1 247 := ⟨by decide +kernel, rfl⟩
theorem dX7_next_247 : dc cX7_next 247 (.ifCond .ne 7) 3 250 := ⟨by decide +kernel, rfl⟩
theorem dX7_next_250 : dc cX7_next 250 (.iload_n 3) 1 251 := ⟨by decide +kernel, rfl⟩
theorem dX7_next_251 : dc cX7_next 251 (.goto 5) 3 254 := ⟨by decide +kernel, rfl⟩
theorem dX7_next_254 : dc cX7_next 254 (.iload 4) 2 256 := ⟨by decide +kernel, rfl⟩
theorem dX7_next_256 : dc cX7_next 256 (.ireturn) 1 257 := ⟨by decide +kernel, rfl⟩
theorem dX7_power_0 : dc cX7_power 0 (.lconst 1) 1 1 := ⟨by decide +kernel, rfl⟩
theorem dX7_power_1 : dc cX7_power 1 (.lstore_n 3) 1 2 := ⟨by decide +kernel, rfl⟩
theorem dX7_power_2 : dc cX7_power 2 (.iconst 0) 1 3 := ⟨by decide +kernel, rfl⟩
theorem dX7_power_3 : dc cX7_power 3 (.istore 5) 2 5 := ⟨by decide +kernel, rfl⟩
theorem dX7_power_5 : dc cX7_power 5 (.iload 5) 2 7 := ⟨by decide +kernel, rfl⟩
theorem dX7_power_7 : dc cX7_power 7 (.iload_n 2) 1 8 := ⟨by decide +kernel, rfl⟩
theorem dX7_power_8 : dc cX7_power 8 (.if_icmp .ge 13) 3 11 := ⟨by decide +kernel, rfl⟩
theorem dX7_power_11 : dc cX7_power 11 (.lload_n 3) 1 12 := ⟨by decide +kernel, rfl⟩
theorem dX7_power_12 : dc cX7_power 12 (.lload_n 0) 1 13 := ⟨by decide +kernel, rfl⟩
theorem dX7_power_13 : dc cX7_power 13 (.lmul) 1 14 := ⟨by decide +kernel, rfl⟩
theorem dX7_power_14 : dc cX7_power 14 (.lstore_n 3) 1 15 := ⟨by decide +kernel, rfl⟩
theorem dX7_power_15 : dc cX7_power 15 (.iinc 5 1) 3 18 := ⟨by decide +kernel, rfl⟩
theorem dX7_power_18 : dc cX7_power 18 (.goto (-13)) 3 21 := ⟨by decide +kernel, rfl⟩
theorem dX7_power_21 : dc cX7_power 21 (.lload_n 3) 1 22 := ⟨by decide +kernel, rfl⟩
theorem dX7_power_22 : dc cX7_power 22 (.lreturn) 1 23 := ⟨by decide +kernel, rfl⟩
theorem dX7_chance_0 : dc cX7_chance 0 (.aload_n 0) 1 1 := ⟨by decide +kernel, rfl⟩
theorem dX7_chance_1 : dc cX7_chance 1 (.iload_n 1) 1 2 := ⟨by decide +kernel, rfl⟩
theorem dX7_chance_2 : dc cX7_chance 2 (.invokevirtual 117) 3 5 := ⟨by decide +kernel, rfl⟩
theorem dX7_chance_5 : dc cX7_chance 5 (.ifCond .eq 10) 3 8 := ⟨by decide +kernel, rfl⟩
theorem dX7_chance_8 : dc cX7_chance 8 (.iload_n 2) 1 9 := ⟨by decide +kernel, rfl⟩
theorem dX7_chance_9 : dc cX7_chance 9 (.invokestatic 57) 3 12 := ⟨by decide +kernel, rfl⟩
theorem dX7_chance_12 : dc cX7_chance 12 (.ifCond .ne 7) 3 15 := ⟨by decide +kernel, rfl⟩
theorem dX7_chance_15 : dc cX7_chance 15 (.ldc2_w 136) 3 18 := ⟨by decide +kernel, rfl⟩
theorem dX7_chance_18 : dc cX7_chance 18 (.lreturn) 1 19 := ⟨by decide +kernel, rfl⟩
theorem dX7_chance_19 : dc cX7_chance 19 (.iload_n 3) 1 20 := ⟨by decide +kernel, rfl⟩
theorem dX7_chance_20 : dc cX7_chance 20 (.iconst 0) 1 21 := ⟨by decide +kernel, rfl⟩
theorem dX7_chance_21 : dc cX7_chance 21 (.iconst 2) 1 22 := ⟨by decide +kernel, rfl⟩
theorem dX7_chance_22 : dc cX7_chance 22 (.invokestatic 41) 3 25 := ⟨by decide +kernel, rfl⟩
theorem dX7_chance_25 : dc cX7_chance 25 (.ifCond .eq 24) 3 28 := ⟨by decide +kernel, rfl⟩
theorem dX7_chance_28 : dc cX7_chance 28 (.iload 4) 2 30 := ⟨by decide +kernel, rfl⟩
theorem dX7_chance_30 : dc cX7_chance 30 (.iconst 0) 1 31 := ⟨by decide +kernel, rfl⟩
theorem dX7_chance_31 : dc cX7_chance 31 (.bipush 10) 2 33 := ⟨by decide +kernel, rfl⟩
theorem dX7_chance_33 : dc cX7_chance 33 (.invokestatic 41) 3 36 := ⟨by decide +kernel, rfl⟩
theorem dX7_chance_36 : dc cX7_chance 36 (.ifCond .eq 13) 3 39 := ⟨by decide +kernel, rfl⟩
theorem dX7_chance_39 : dc cX7_chance 39 (.iload 5) 2 41 := ⟨by decide +kernel, rfl⟩
theorem dX7_chance_41 : dc cX7_chance 41 (.iconst 0) 1 42 := ⟨by decide +kernel, rfl⟩
theorem dX7_chance_42 : dc cX7_chance 42 (.iconst 1) 1 43 := ⟨by decide +kernel, rfl⟩
theorem dX7_chance_43 : dc cX7_chance 43 (.invokestatic 41) 3 46 := ⟨by decide +kernel, rfl⟩
theorem dX7_chance_46 : dc cX7_chance 46 (.ifCond .ne 7) 3 49 := ⟨by decide +kernel, rfl⟩
theorem dX7_chance_49 : dc cX7_chance 49 (.ldc2_w 138) 3 52 := ⟨by decide +kernel, rfl⟩
theorem dX7_chance_52 : dc cX7_chance 52 (.lreturn) 1 53 := ⟨by decide +kernel, rfl⟩
theorem dX7_chance_53 : dc cX7_chance 53 (.aload_n 0) 1 54 := ⟨by decide +kernel, rfl⟩
theorem dX7_chance_54 : dc cX7_chance 54 (.getfield 7) 3 57 := ⟨by decide +kernel, rfl⟩
theorem dX7_chance_57 : dc cX7_chance 57 (.iload_n 1) 1 58 := ⟨by decide +kernel, rfl⟩
theorem dX7_chance_58 : dc cX7_chance 58 (.iaload) 1 59 := ⟨by decide +kernel, rfl⟩
theorem dX7_chance_59 : dc cX7_chance 59 (.aload_n 0) 1 60 := ⟨by decide +kernel, rfl⟩
theorem dX7_chance_60 : dc cX7_chance 60 (.getfield 16) 3 63 := ⟨by decide +kernel, rfl⟩
theorem dX7_chance_63 : dc cX7_chance 63 (.iload_n 2) 1 64 := ⟨by decide +kernel, rfl⟩
theorem dX7_chance_64 : dc cX7_chance 64 (.iaload) 1 65 := ⟨by decide +kernel, rfl⟩
theorem dX7_chance_65 : dc cX7_chance 65 (.iand) 1 66 := ⟨by decide +kernel, rfl⟩
theorem dX7_chance_66 : dc cX7_chance 66 (.invokestatic 53) 3 69 := ⟨by decide +kernel, rfl⟩
theorem dX7_chance_69 : dc cX7_chance 69 (.istore 6) 2 71 := ⟨by decide +kernel, rfl⟩
theorem dX7_chance_71 : dc cX7_chance 71 (.iload 4) 2 73 := ⟨by decide +kernel, rfl⟩
theorem dX7_chance_73 : dc cX7_chance 73 (.i2l) 1 74 := ⟨by decide +kernel, rfl⟩
theorem dX7_chance_74 : dc cX7_chance 74 (.iload_n 3) 1 75 := ⟨by decide +kernel, rfl⟩
theorem dX7_chance_75 : dc cX7_chance 75 (.invokestatic 140) 3 78 := ⟨by decide +kernel, rfl⟩
theorem dX7_chance_78 : dc cX7_chance 78 (.lstore 7) 2 80 := ⟨by decide +kernel, rfl⟩
theorem dX7_chance_80 : dc cX7_chance 80 (.ldc2_w 144) 3 83 := ⟨by decide +kernel, rfl⟩
theorem dX7_chance_83 : dc cX7_chance 83 (.iload_n 3) 1 84 := ⟨by decide +kernel, rfl⟩
theorem dX7_chance_84 : dc cX7_chance 84 (.invokestatic 140) 3 87 := ⟨by decide +kernel, rfl⟩
theorem dX7_chance_87 : dc cX7_chance 87 (.lload 7) 2 89 := ⟨by decide +kernel, rfl⟩
theorem dX7_chance_89 : dc cX7_chance 89 (.lsub) 1 90 := ⟨by decide +kernel, rfl⟩
theorem dX7_chance_90 : dc cX7_chance 90 (.lstore 9) 2 92 := ⟨by decide +kernel, rfl⟩
theorem dX7_chance_92 : dc cX7_chance 92 (.lconst 0) 1 93 := ⟨by decide +kernel, rfl⟩
theorem dX7_chance_93 : dc cX7_chance 93 (.lstore 11) 2 95 := ⟨by decide +kernel, rfl⟩
theorem dX7_chance_95 : dc cX7_chance 95 (.lconst 1) 1 96 := ⟨by decide +kernel, rfl⟩
theorem dX7_chance_96 : dc cX7_chance 96 (.lstore 13) 2 98 := ⟨by decide +kernel, rfl⟩
theorem dX7_chance_98 : dc cX7_chance 98 (.iconst 0) 1 99 := ⟨by decide +kernel, rfl⟩
theorem dX7_chance_99 : dc cX7_chance 99 (.istore 15) 2 101 := ⟨by decide +kernel, rfl⟩
theorem dX7_chance_101 : dc cX7_chance 101 (.iload 15) 2 103 := ⟨by decide +kernel, rfl⟩
theorem dX7_chance_103 : dc cX7_chance 103 (.iload 6) 2 105 := ⟨by decide +kernel, rfl⟩
theorem dX7_chance_105 : dc cX7_chance 105 (.if_icmp .gt 67) 3 108 := ⟨by decide +kernel, rfl⟩
theorem dX7_chance_108 : dc cX7_chance 108 (.lload 11) 2 110 := ⟨by decide +kernel, rfl⟩
theorem dX7_chance_110 : dc cX7_chance 110 (.iload 15) 2 112 := ⟨by decide +kernel, rfl⟩
theorem dX7_chance_112 : dc cX7_chance 112 (.aload_n 0) 1 113 := ⟨by decide +kernel, rfl⟩
theorem dX7_chance_113 : dc cX7_chance 113 (.getfield 19) 3 116 := ⟨by decide +kernel, rfl⟩
theorem dX7_chance_116 : dc cX7_chance 116 (.iload_n 2) 1 117 := ⟨by decide +kernel, rfl⟩
theorem dX7_chance_117 : dc cX7_chance 117 (.iaload) 1 118 := ⟨by decide +kernel, rfl⟩
theorem dX7_chance_118 : dc cX7_chance 118 (.if_icmp .lt 27) 3 121 := ⟨by decide +kernel, rfl⟩
theorem dX7_chance_121 : dc cX7_chance 121 (.lload 13) 2 123 := ⟨by decide +kernel, rfl⟩
theorem dX7_chance_123 : dc cX7_chance 123 (.lload 7) 2 125 := ⟨by decide +kernel, rfl⟩
theorem dX7_chance_125 : dc cX7_chance 125 (.iload 15) 2 127 := ⟨by decide +kernel, rfl⟩
theorem dX7_chance_127 : dc cX7_chance 127 (.invokestatic 140) 3 130 := ⟨by decide +kernel, rfl⟩
theorem dX7_chance_130 : dc cX7_chance 130 (.lmul) 1 131 := ⟨by decide +kernel, rfl⟩
theorem dX7_chance_131 : dc cX7_chance 131 (.lload 9) 2 133 := ⟨by decide +kernel, rfl⟩
theorem dX7_chance_133 : dc cX7_chance 133 (.iload 6) 2 135 := ⟨by decide +kernel, rfl⟩
theorem dX7_chance_135 : dc cX7_chance 135 (.iload 15) 2 137 := ⟨by decide +kernel, rfl⟩
theorem dX7_chance_137 : dc cX7_chance 137 (.isub) 1 138 := ⟨by decide +kernel, rfl⟩
theorem dX7_chance_138 : dc cX7_chance 138 (.invokestatic 140) 3 141 := ⟨by decide +kernel, rfl⟩
theorem dX7_chance_141 : dc cX7_chance 141 (.lmul) 1 142 := ⟨by decide +kernel, rfl⟩
theorem dX7_chance_142 : dc cX7_chance 142 (.goto 4) 3 145 := ⟨by decide +kernel, rfl⟩
theorem dX7_chance_145 : dc cX7_chance 145 (.lconst 0) 1 146 := ⟨by decide +kernel, rfl⟩
theorem dX7_chance_146 : dc cX7_chance 146 (.ladd) 1 147 := ⟨by decide +kernel, rfl⟩
theorem dX7_chance_147 : dc cX7_chance 147 (.lstore 11) 2 149 := ⟨by decide +kernel, rfl⟩
theorem dX7_chance_149 : dc cX7_chance 149 (.lload 13) 2 151 := ⟨by decide +kernel, rfl⟩
theorem dX7_chance_151 : dc cX7_chance 151 (.iload 6) 2 153 := ⟨by decide +kernel, rfl⟩
theorem dX7_chance_153 : dc cX7_chance 153 (.iload 15) 2 155 := ⟨by decide +kernel, rfl⟩
theorem dX7_chance_155 : dc cX7_chance 155 (.isub) 1 156 := ⟨by decide +kernel, rfl⟩
theorem dX7_chance_156 : dc cX7_chance 156 (.i2l) 1 157 := ⟨by decide +kernel, rfl⟩
theorem dX7_chance_157 : dc cX7_chance 157 (.lmul) 1 158 := ⟨by decide +kernel, rfl⟩
theorem dX7_chance_158 : dc cX7_chance 158 (.iload 15) 2 160 := ⟨by decide +kernel, rfl⟩
theorem dX7_chance_160 : dc cX7_chance 160 (.iconst 1) 1 161 := ⟨by decide +kernel, rfl⟩
theorem dX7_chance_161 : dc cX7_chance 161 (.iadd) 1 162 := ⟨by decide +kernel, rfl⟩
theorem dX7_chance_162 : dc cX7_chance 162 (.i2l) 1 163 := ⟨by decide +kernel, rfl⟩
theorem dX7_chance_163 : dc cX7_chance 163 (.ldiv) 1 164 := ⟨by decide +kernel, rfl⟩
theorem dX7_chance_164 : dc cX7_chance 164 (.lstore 13) 2 166 := ⟨by decide +kernel, rfl⟩
theorem dX7_chance_166 : dc cX7_chance 166 (.iinc 15 1) 3 169 := ⟨by decide +kernel, rfl⟩
theorem dX7_chance_169 : dc cX7_chance 169 (.goto (-68)) 3 172 := ⟨by decide +kernel, rfl⟩
theorem dX7_chance_172 : dc cX7_chance 172 (.ldc2_w 144) 3 175 := ⟨by decide +kernel, rfl⟩
theorem dX7_chance_175 : dc cX7_chance 175 (.iload_n 3) 1 176 := ⟨by decide +kernel, rfl⟩
theorem dX7_chance_176 : dc cX7_chance 176 (.invokestatic 140) 3 179 := ⟨by decide +kernel, rfl⟩
theorem dX7_chance_179 : dc cX7_chance 179 (.iload 6) 2 181 := ⟨by decide +kernel, rfl⟩
theorem dX7_chance_181 : dc cX7_chance 181 (.invokestatic 140) 3 184 := ⟨by decide +kernel, rfl⟩
theorem dX7_chance_184 : dc cX7_chance 184 (.lstore 15) 2 186 := ⟨by decide +kernel, rfl⟩
theorem dX7_chance_186 : dc cX7_chance 186 (.lload 11) 2 188 := ⟨by decide +kernel, rfl⟩
theorem dX7_chance_188 : dc cX7_chance 188 (.lstore 17) 2 190 := ⟨by decide +kernel, rfl⟩
theorem dX7_chance_190 : dc cX7_chance 190 (.lload 15) 2 192 := ⟨by decide +kernel, rfl⟩
theorem dX7_chance_192 : dc cX7_chance 192 (.lstore 19) 2 194 := ⟨by decide +kernel, rfl⟩
theorem dX7_chance_194 : dc cX7_chance 194 (.lload 19) 2 196 := ⟨by decide +kernel, rfl⟩
theorem dX7_chance_196 : dc cX7_chance 196 (.lconst 0) 1 197 := ⟨by decide +kernel, rfl⟩
theorem dX7_chance_197 : dc cX7_chance 197 (.lcmp) 1 198 := ⟨by decide +kernel, rfl⟩
theorem dX7_chance_198 : dc cX7_chance 198 (.ifCond .eq 21) 3 201 := ⟨by decide +kernel, rfl⟩
theorem dX7_chance_201 : dc cX7_chance 201 (.lload 17) 2 203 := ⟨by decide +kernel, rfl⟩
theorem dX7_chance_203 : dc cX7_chance 203 (.lload 19) 2 205 := ⟨by decide +kernel, rfl⟩
theorem dX7_chance_205 : dc cX7_chance 205 (.lrem) 1 206 := ⟨by decide +kernel, rfl⟩
theorem dX7_chance_206 : dc cX7_chance 206 (.lstore 21) 2 208 := ⟨by decide +kernel, rfl⟩
theorem dX7_chance_208 : dc cX7_chance 208 (.lload 19) 2 210 := ⟨by decide +kernel, rfl⟩
theorem dX7_chance_210 : dc cX7_chance 210 (.lstore 17) 2 212 := ⟨by decide +kernel, rfl⟩
theorem dX7_chance_212 : dc cX7_chance 212 (.lload 21) 2 214 := ⟨by decide +kernel, rfl⟩
theorem dX7_chance_214 : dc cX7_chance 214 (.lstore 19) 2 216 := ⟨by decide +kernel, rfl⟩
theorem dX7_chance_216 : dc cX7_chance 216 (.goto (-22)) 3 219 := ⟨by decide +kernel, rfl⟩
theorem dX7_chance_219 : dc cX7_chance 219 (.iload 5) 2 221 := ⟨by decide +kernel, rfl⟩
theorem dX7_chance_221 : dc cX7_chance 221 (.ifCond .ne 11) 3 224 := ⟨by decide +kernel, rfl⟩
theorem dX7_chance_224 : dc cX7_chance 224 (.lload 11) 2 226 := ⟨by decide +kernel, rfl⟩
theorem dX7_chance_226 : dc cX7_chance 226 (.lload 17) 2 228 := ⟨by decide +kernel, rfl⟩
theorem dX7_chance_228 : dc cX7_chance 228 (.ldiv) 1 229 := ⟨by decide +kernel, rfl⟩
theorem dX7_chance_229 : dc cX7_chance 229 (.goto 8) 3 232 := ⟨by decide +kernel, rfl⟩
theorem dX7_chance_232 : dc cX7_chance 232 (.lload 15) 2 234 := ⟨by decide +kernel, rfl⟩
theorem dX7_chance_234 : dc cX7_chance 234 (.lload 17) 2 236 := ⟨by decide +kernel, rfl⟩
theorem dX7_chance_236 : dc cX7_chance 236 (.ldiv) 1 237 := ⟨by decide +kernel, rfl⟩
theorem dX7_chance_237 : dc cX7_chance 237 (.lreturn) 1 238 := ⟨by decide +kernel, rfl⟩
theorem dX7_book_0 : dc cX7_book 0 (.iload_n 1) 1 1 := ⟨by decide +kernel, rfl⟩
theorem dX7_book_1 : dc cX7_book 1 (.iconst 0) 1 2 := ⟨by decide +kernel, rfl⟩
theorem dX7_book_2 : dc cX7_book 2 (.sipush 9999) 3 5 := ⟨by decide +kernel, rfl⟩
theorem dX7_book_5 : dc cX7_book 5 (.invokestatic 41) 3 8 := ⟨by decide +kernel, rfl⟩
theorem dX7_book_8 : dc cX7_book 8 (.ifCond .eq 22) 3 11 := ⟨by decide +kernel, rfl⟩
theorem dX7_book_11 : dc cX7_book 11 (.iload_n 2) 1 12 := ⟨by decide +kernel, rfl⟩
theorem dX7_book_12 : dc cX7_book 12 (.iconst 1) 1 13 := ⟨by decide +kernel, rfl⟩
theorem dX7_book_13 : dc cX7_book 13 (.bipush 99) 2 15 := ⟨by decide +kernel, rfl⟩
theorem dX7_book_15 : dc cX7_book 15 (.invokestatic 41) 3 18 := ⟨by decide +kernel, rfl⟩
theorem dX7_book_18 : dc cX7_book 18 (.ifCond .eq 12) 3 21 := ⟨by decide +kernel, rfl⟩
theorem dX7_book_21 : dc cX7_book 21 (.iload_n 3) 1 22 := ⟨by decide +kernel, rfl⟩
theorem dX7_book_22 : dc cX7_book 22 (.iconst 0) 1 23 := ⟨by decide +kernel, rfl⟩
theorem dX7_book_23 : dc cX7_book 23 (.iconst 2) 1 24 := ⟨by decide +kernel, rfl⟩
theorem dX7_book_24 : dc cX7_book 24 (.invokestatic 41) 3 27 := ⟨by decide +kernel, rfl⟩
theorem dX7_book_27 : dc cX7_book 27 (.ifCond .ne 6) 3 30 := ⟨by decide +kernel, rfl⟩
theorem dX7_book_30 : dc cX7_book 30 (.bipush (-2)) 2 32 := ⟨by decide +kernel, rfl⟩
theorem dX7_book_32 : dc cX7_book 32 (.ireturn) 1 33 := ⟨by decide +kernel, rfl⟩
theorem dX7_book_33 : dc cX7_book 33 (.aload_n 0) 1 34 := ⟨by decide +kernel, rfl⟩
theorem dX7_book_34 : dc cX7_book 34 (.invokevirtual 88) 3 37 := ⟨by decide +kernel, rfl⟩
theorem dX7_book_37 : dc cX7_book 37 (.iload_n 1) 1 38 := ⟨by decide +kernel, rfl⟩
theorem dX7_book_38 : dc cX7_book 38 (.istore 4) 2 40 := ⟨by decide +kernel, rfl⟩
theorem dX7_book_40 : dc cX7_book 40 (.iconst 0) 1 41 := ⟨by decide +kernel, rfl⟩
theorem dX7_book_41 : dc cX7_book 41 (.istore 5) 2 43 := ⟨by decide +kernel, rfl⟩
theorem dX7_book_43 : dc cX7_book 43 (.iload 5) 2 45 := ⟨by decide +kernel, rfl⟩
theorem dX7_book_45 : dc cX7_book 45 (.iload_n 2) 1 46 := ⟨by decide +kernel, rfl⟩
theorem dX7_book_46 : dc cX7_book 46 (.if_icmp .ge 124) 3 49 := ⟨by decide +kernel, rfl⟩
theorem dX7_book_49 : dc cX7_book 49 (.bipush 75) 2 51 := ⟨by decide +kernel, rfl⟩
theorem dX7_book_51 : dc cX7_book 51 (.iload 4) 2 53 := ⟨by decide +kernel, rfl⟩
theorem dX7_book_53 : dc cX7_book 53 (.imul) 1 54 := ⟨by decide +kernel, rfl⟩
theorem dX7_book_54 : dc cX7_book 54 (.bipush 74) 2 56 := ⟨by decide +kernel, rfl⟩
theorem dX7_book_56 : dc cX7_book 56 (.iadd) 1 57 := ⟨by decide +kernel, rfl⟩
theorem dX7_book_57 : dc cX7_book 57 (.ldc 146) 2 59 := ⟨by decide +kernel, rfl⟩
theorem dX7_book_59 : dc cX7_book 59 (.irem) 1 60 := ⟨by decide +kernel, rfl⟩
theorem dX7_book_60 : dc cX7_book 60 (.istore 4) 2 62 := ⟨by decide +kernel, rfl⟩
theorem dX7_book_62 : dc cX7_book 62 (.iload 4) 2 64 := ⟨by decide +kernel, rfl⟩
theorem dX7_book_64 : dc cX7_book 64 (.bipush 8) 2 66 := ⟨by decide +kernel, rfl⟩
theorem dX7_book_66 : dc cX7_book 66 (.irem) 1 67 := ⟨by decide +kernel, rfl⟩
theorem dX7_book_67 : dc cX7_book 67 (.istore 6) 2 69 := ⟨by decide +kernel, rfl⟩
theorem dX7_book_69 : dc cX7_book 69 (.iload 4) 2 71 := ⟨by decide +kernel, rfl⟩
theorem dX7_book_71 : dc cX7_book 71 (.bipush 8) 2 73 := ⟨by decide +kernel, rfl⟩
theorem dX7_book_73 : dc cX7_book 73 (.idiv) 1 74 := ⟨by decide +kernel, rfl⟩
theorem dX7_book_74 : dc cX7_book 74 (.bipush 8) 2 76 := ⟨by decide +kernel, rfl⟩
theorem dX7_book_76 : dc cX7_book 76 (.irem) 1 77 := ⟨by decide +kernel, rfl⟩
theorem dX7_book_77 : dc cX7_book 77 (.istore 7) 2 79 := ⟨by decide +kernel, rfl⟩
theorem dX7_book_79 : dc cX7_book 79 (.iload 4) 2 81 := ⟨by decide +kernel, rfl⟩
theorem dX7_book_81 : dc cX7_book 81 (.bipush 64) 2 83 := ⟨by decide +kernel, rfl⟩
theorem dX7_book_83 : dc cX7_book 83 (.idiv) 1 84 := ⟨by decide +kernel, rfl⟩
theorem dX7_book_84 : dc cX7_book 84 (.bipush 8) 2 86 := ⟨by decide +kernel, rfl⟩
theorem dX7_book_86 : dc cX7_book 86 (.irem) 1 87 := ⟨by decide +kernel, rfl⟩
theorem dX7_book_87 : dc cX7_book 87 (.istore 8) 2 89 := ⟨by decide +kernel, rfl⟩
theorem dX7_book_89 : dc cX7_book 89 (.iload 6) 2 91 := ⟨by decide +kernel, rfl⟩
theorem dX7_book_91 : dc cX7_book 91 (.ifCond .ne 11) 3 94 := ⟨by decide +kernel, rfl⟩
theorem dX7_book_94 : dc cX7_book 94 (.aload_n 0) 1 95 := ⟨by decide +kernel, rfl⟩
theorem dX7_book_95 : dc cX7_book 95 (.invokevirtual 94) 3 98 := ⟨by decide +kernel, rfl⟩
theorem dX7_book_98 : dc cX7_book 98 (.pop) 1 99 := ⟨by decide +kernel, rfl⟩
theorem dX7_book_99 : dc cX7_book 99 (.goto 65) 3 102 := ⟨by decide +kernel, rfl⟩
theorem dX7_book_102 : dc cX7_book 102 (.iload 6) 2 104 := ⟨by decide +kernel, rfl⟩
theorem dX7_book_104 : dc cX7_book 104 (.iconst 1) 1 105 := ⟨by decide +kernel, rfl⟩
theorem dX7_book_105 : dc cX7_book 105 (.if_icmp .ne 15) 3 108 := ⟨by decide +kernel, rfl⟩
theorem dX7_book_108 : dc cX7_book 108 (.aload_n 0) 1 109 := ⟨by decide +kernel, rfl⟩
theorem dX7_book_109 : dc cX7_book 109 (.iload 7) 2 111 := ⟨by decide +kernel, rfl⟩
theorem dX7_book_111 : dc cX7_book 111 (.iload 8) 2 113 := ⟨by decide +kernel, rfl⟩
theorem dX7_book_113 : dc cX7_book 113 (.invokevirtual 100) 3 116 := ⟨by decide +kernel, rfl⟩
theorem dX7_book_116 : dc cX7_book 116 (.pop) 1 117 := ⟨by decide +kernel, rfl⟩
theorem dX7_book_117 : dc cX7_book 117 (.goto 47) 3 120 := ⟨by decide +kernel, rfl⟩
theorem dX7_book_120 : dc cX7_book 120 (.iload 6) 2 122 := ⟨by decide +kernel, rfl⟩
theorem dX7_book_122 : dc cX7_book 122 (.iconst 4) 1 123 := ⟨by decide +kernel, rfl⟩
theorem dX7_book_123 : dc cX7_book 123 (.if_icmp .ge 26) 3 126 := ⟨by decide +kernel, rfl⟩
theorem dX7_book_126 : dc cX7_book 126 (.aload_n 0) 1 127 := ⟨by decide +kernel, rfl⟩
theorem dX7_book_127 : dc cX7_book 127 (.iload 7) 2 129 := ⟨by decide +kernel, rfl⟩
theorem dX7_book_129 : dc cX7_book 129 (.iconst 1) 1 130 := ⟨by decide +kernel, rfl⟩
theorem dX7_book_130 : dc cX7_book 130 (.iload 4) 2 132 := ⟨by decide +kernel, rfl⟩
theorem dX7_book_132 : dc cX7_book 132 (.sipush 512) 3 135 := ⟨by decide +kernel, rfl⟩
theorem dX7_book_135 : dc cX7_book 135 (.idiv) 1 136 := ⟨by decide +kernel, rfl⟩
theorem dX7_book_136 : dc cX7_book 136 (.bipush 9) 2 138 := ⟨by decide +kernel, rfl⟩
theorem dX7_book_138 : dc cX7_book 138 (.irem) 1 139 := ⟨by decide +kernel, rfl⟩
theorem dX7_book_139 : dc cX7_book 139 (.iadd) 1 140 := ⟨by decide +kernel, rfl⟩
theorem dX7_book_140 : dc cX7_book 140 (.iload 8) 2 142 := ⟨by decide +kernel, rfl⟩
theorem dX7_book_142 : dc cX7_book 142 (.invokevirtual 104) 3 145 := ⟨by decide +kernel, rfl⟩
theorem dX7_book_145 : dc cX7_book 145 (.pop) 1 146 := ⟨by decide +kernel, rfl⟩
theorem dX7_book_146 : dc cX7_book 146 (.goto 18) 3 149 := ⟨by decide +kernel, rfl⟩
theorem dX7_book_149 : dc cX7_book 149 (.aload_n 0) 1 150 := ⟨by decide +kernel, rfl⟩
theorem dX7_book_150 : dc cX7_book 150 (.iload 7) 2 152 := ⟨by decide +kernel, rfl⟩
theorem dX7_book_152 : dc cX7_book 152 (.iload 4) 2 154 := ⟨by decide +kernel, rfl⟩
theorem dX7_book_154 : dc cX7_book 154 (.bipush 64) 2 156 := ⟨by decide +kernel, rfl⟩
theorem dX7_book_156 : dc cX7_book 156 (.idiv) 1 157 := ⟨by decide +kernel, rfl⟩
theorem dX7_book_157 : dc cX7_book 157 (.bipush 6) 2 159 := ⟨by decide +kernel, rfl⟩
theorem dX7_book_159 : dc cX7_book 159 (.irem) 1 160 := ⟨by decide +kernel, rfl⟩
theorem dX7_book_160 : dc cX7_book 160 (.invokevirtual 108) 3 163 := ⟨by decide +kernel, rfl⟩
theorem dX7_book_163 : dc cX7_book 163 (.pop) 1 164 := ⟨by decide +kernel, rfl⟩
theorem dX7_book_164 : dc cX7_book 164 (.iinc 5 1) 3 167 := ⟨by decide +kernel, rfl⟩
theorem dX7_book_167 : dc cX7_book 167 (.goto (-124)) 3 170 := ⟨by decide +kernel, rfl⟩
theorem dX7_book_170 : dc cX7_book 170 (.iconst 0) 1 171 := ⟨by decide +kernel, rfl⟩
theorem dX7_book_171 : dc cX7_book 171 (.istore 5) 2 173 := ⟨by decide +kernel, rfl⟩
theorem dX7_book_173 : dc cX7_book 173 (.iconst 0) 1 174 := ⟨by decide +kernel, rfl⟩
theorem dX7_book_174 : dc cX7_book 174 (.istore 6) 2 176 := ⟨by decide +kernel, rfl⟩
theorem dX7_book_176 : dc cX7_book 176 (.iconst 0) 1 177 := ⟨by decide +kernel, rfl⟩
theorem dX7_book_177 : dc cX7_book 177 (.istore 7) 2 179 := ⟨by decide +kernel, rfl⟩
theorem dX7_book_179 : dc cX7_book 179 (.iload 7) 2 181 := ⟨by decide +kernel, rfl⟩
theorem dX7_book_181 : dc cX7_book 181 (.bipush 8) 2 183 := ⟨by decide +kernel, rfl⟩
theorem dX7_book_183 : dc cX7_book 183 (.if_icmp .ge 43) 3 186 := ⟨by decide +kernel, rfl⟩
theorem dX7_book_186 : dc cX7_book 186 (.iload 5) 2 188 := ⟨by decide +kernel, rfl⟩
theorem dX7_book_188 : dc cX7_book 188 (.aload_n 0) 1 189 := ⟨by decide +kernel, rfl⟩
theorem dX7_book_189 : dc cX7_book 189 (.getfield 13) 3 192 := ⟨by decide +kernel, rfl⟩
theorem dX7_book_192 : dc cX7_book 192 (.bipush 94) 2 194 := ⟨by decide +kernel, rfl⟩
theorem dX7_book_194 : dc cX7_book 194 (.iaload) 1 195 := ⟨by decide +kernel, rfl⟩
theorem dX7_book_195 : dc cX7_book 195 (.iload 7) 2 197 := ⟨by decide +kernel, rfl⟩
theorem dX7_book_197 : dc cX7_book 197 (.invokestatic 49) 3 200 := ⟨by decide +kernel, rfl⟩
theorem dX7_book_200 : dc cX7_book 200 (.ifCond .eq 16) 3 203 := ⟨by decide +kernel, rfl⟩
theorem dX7_book_203 : dc cX7_book 203 (.aload_n 0) 1 204 := ⟨by decide +kernel, rfl⟩
theorem dX7_book_204 : dc cX7_book 204 (.getfield 13) 3 207 := ⟨by decide +kernel, rfl⟩
theorem dX7_book_207 : dc cX7_book 207 (.bipush 8) 2 209 := ⟨by decide +kernel, rfl⟩
theorem dX7_book_209 : dc cX7_book 209 (.iload 7) 2 211 := ⟨by decide +kernel, rfl⟩
theorem dX7_book_211 : dc cX7_book 211 (.iadd) 1 212 := ⟨by decide +kernel, rfl⟩
theorem dX7_book_212 : dc cX7_book 212 (.iaload) 1 213 := ⟨by decide +kernel, rfl⟩
theorem dX7_book_213 : dc cX7_book 213 (.goto 4) 3 216 := ⟨by decide +kernel, rfl⟩
theorem dX7_book_216 : dc cX7_book 216 (.iconst 0) 1 217 := ⟨by decide +kernel, rfl⟩
theorem dX7_book_217 : dc cX7_book 217 (.iadd) 1 218 := ⟨by decide +kernel, rfl⟩
theorem dX7_book_218 : dc cX7_book 218 (.istore 5) 2 220 := ⟨by decide +kernel, rfl⟩
theorem dX7_book_220 : dc cX7_book 220 (.iinc 7 1) 3 223 := ⟨by decide +kernel, rfl⟩
theorem dX7_book_223 : dc cX7_book 223 (.goto (-44)) 3 226 := ⟨by decide +kernel, rfl⟩
theorem dX7_book_226 : dc cX7_book 226 (.iconst 0) 1 227 := ⟨by decide +kernel, rfl⟩
theorem dX7_book_227 : dc cX7_book 227 (.istore 7) 2 229 := ⟨by decide +kernel, rfl⟩
theorem dX7_book_229 : dc cX7_book 229 (.iload 7) 2 231 := ⟨by decide +kernel, rfl⟩
theorem dX7_book_231 : dc cX7_book 231 (.bipush 6) 2 233 := ⟨by decide +kernel, rfl⟩
theorem dX7_book_233 : dc cX7_book 233 (.if_icmp .ge 24) 3 236 := ⟨by decide +kernel, rfl⟩
theorem dX7_book_236 : dc cX7_book 236 (.iload 6) 2 238 := ⟨by decide +kernel, rfl⟩
theorem dX7_book_238 : dc cX7_book 238 (.aload_n 0) 1 239 := ⟨by decide +kernel, rfl⟩
theorem dX7_book_239 : dc cX7_book 239 (.getfield 13) 3 242 := ⟨by decide +kernel, rfl⟩
theorem dX7_book_242 : dc cX7_book 242 (.bipush 88) 2 244 := ⟨by decide +kernel, rfl⟩
theorem dX7_book_244 : dc cX7_book 244 (.iload 7) 2 246 := ⟨by decide +kernel, rfl⟩
theorem dX7_book_246 : dc cX7_book 246 (.iadd) 1 247 := ⟨by decide +kernel, rfl⟩
theorem dX7_book_247 : dc cX7_book 247 (.iaload) 1 248 := ⟨by decide +kernel, rfl⟩
theorem dX7_book_248 : dc cX7_book 248 (.iadd) 1 249 := ⟨by decide +kernel, rfl⟩
theorem dX7_book_249 : dc cX7_book 249 (.istore 6) 2 251 := ⟨by decide +kernel, rfl⟩
theorem dX7_book_251 : dc cX7_book 251 (.iinc 7 1) 3 254 := ⟨by decide +kernel, rfl⟩
theorem dX7_book_254 : dc cX7_book 254 (.goto (-25)) 3 257 := ⟨by decide +kernel, rfl⟩
theorem dX7_book_257 : dc cX7_book 257 (.iload_n 3) 1 258 := ⟨by decide +kernel, rfl⟩
theorem dX7_book_258 : dc cX7_book 258 (.ifCond .ne 16) 3 261 := ⟨by decide +kernel, rfl⟩
theorem dX7_book_261 : dc cX7_book 261 (.aload_n 0) 1 262 := ⟨by decide +kernel, rfl⟩
theorem dX7_book_262 : dc cX7_book 262 (.getfield 13) 3 265 := ⟨by decide +kernel, rfl⟩
theorem dX7_book_265 : dc cX7_book 265 (.bipush 94) 2 267 := ⟨by decide +kernel, rfl⟩
theorem dX7_book_267 : dc cX7_book 267 (.iaload) 1 268 := ⟨by decide +kernel, rfl⟩
theorem dX7_book_268 : dc cX7_book 268 (.invokestatic 53) 3 271 := ⟨by decide +kernel, rfl⟩
theorem dX7_book_271 : dc cX7_book 271 (.goto 15) 3 274 := ⟨by decide +kernel, rfl⟩
theorem dX7_book_274 : dc cX7_book 274 (.iload_n 3) 1 275 := ⟨by decide +kernel, rfl⟩
theorem dX7_book_275 : dc cX7_book 275 (.iconst 1) 1 276 := ⟨by decide +kernel, rfl⟩
theorem dX7_book_276 : dc cX7_book 276 (.if_icmp .ne 8) 3 279 := ⟨by decide +kernel, rfl⟩
theorem dX7_book_279 : dc cX7_book 279 (.iload 5) 2 281 := ⟨by decide +kernel, rfl⟩
theorem dX7_book_281 : dc cX7_book 281 (.goto 5) 3 284 := ⟨by decide +kernel, rfl⟩
theorem dX7_book_284 : dc cX7_book 284 (.iload 6) 2 286 := ⟨by decide +kernel, rfl⟩
theorem dX7_book_286 : dc cX7_book 286 (.ireturn) 1 287 := ⟨by decide +kernel, rfl⟩
theorem dX7_image_0 : dc cX7_image 0 (.iload_n 1) 1 1 := ⟨by decide +kernel, rfl⟩
theorem dX7_image_1 : dc cX7_image 1 (.iconst 0) 1 2 := ⟨by decide +kernel, rfl⟩
theorem dX7_image_2 : dc cX7_image 2 (.iconst 1) 1 3 := ⟨by decide +kernel, rfl⟩
theorem dX7_image_3 : dc cX7_image 3 (.invokestatic 41) 3 6 := ⟨by decide +kernel, rfl⟩
theorem dX7_image_6 : dc cX7_image 6 (.ifCond .ne 6) 3 9 := ⟨by decide +kernel, rfl⟩
theorem dX7_image_9 : dc cX7_image 9 (.bipush (-2)) 2 11 := ⟨by decide +kernel, rfl⟩
theorem dX7_image_11 : dc cX7_image 11 (.ireturn) 1 12 := ⟨by decide +kernel, rfl⟩
theorem dX7_image_12 : dc cX7_image 12 (.sipush 130) 3 15 := ⟨by decide +kernel, rfl⟩
theorem dX7_image_15 : dc cX7_image 15 (.iload_n 1) 1 16 := ⟨by decide +kernel, rfl⟩
theorem dX7_image_16 : dc cX7_image 16 (.imul) 1 17 := ⟨by decide +kernel, rfl⟩
theorem dX7_image_17 : dc cX7_image 17 (.istore_n 2) 1 18 := ⟨by decide +kernel, rfl⟩
theorem dX7_image_18 : dc cX7_image 18 (.iconst 0) 1 19 := ⟨by decide +kernel, rfl⟩
theorem dX7_image_19 : dc cX7_image 19 (.istore_n 3) 1 20 := ⟨by decide +kernel, rfl⟩
theorem dX7_image_20 : dc cX7_image 20 (.iload_n 3) 1 21 := ⟨by decide +kernel, rfl⟩
theorem dX7_image_21 : dc cX7_image 21 (.bipush 96) 2 23 := ⟨by decide +kernel, rfl⟩
theorem dX7_image_23 : dc cX7_image 23 (.if_icmp .ge 23) 3 26 := ⟨by decide +kernel, rfl⟩
theorem dX7_image_26 : dc cX7_image 26 (.aload_n 0) 1 27 := ⟨by decide +kernel, rfl⟩
theorem dX7_image_27 : dc cX7_image 27 (.getfield 34) 3 30 := ⟨by decide +kernel, rfl⟩
theorem dX7_image_30 : dc cX7_image 30 (.iload_n 2) 1 31 := ⟨by decide +kernel, rfl⟩
theorem dX7_image_31 : dc cX7_image 31 (.iload_n 3) 1 32 := ⟨by decide +kernel, rfl⟩
theorem dX7_image_32 : dc cX7_image 32 (.iadd) 1 33 := ⟨by decide +kernel, rfl⟩
theorem dX7_image_33 : dc cX7_image 33 (.aload_n 0) 1 34 := ⟨by decide +kernel, rfl⟩
theorem dX7_image_34 : dc cX7_image 34 (.getfield 7) 3 37 := ⟨by decide +kernel, rfl⟩
theorem dX7_image_37 : dc cX7_image 37 (.iload_n 3) 1 38 := ⟨by decide +kernel, rfl⟩
theorem dX7_image_38 : dc cX7_image 38 (.iaload) 1 39 := ⟨by decide +kernel, rfl⟩
theorem dX7_image_39 : dc cX7_image 39 (.iastore) 1 40 := ⟨by decide +kernel, rfl⟩
theorem dX7_image_40 : dc cX7_image 40 (.iinc 3 1) 3 43 := ⟨by decide +kernel, rfl⟩
theorem dX7_image_43 : dc cX7_image 43 (.goto (-23)) 3 46 := ⟨by decide +kernel, rfl⟩
theorem dX7_image_46 : dc cX7_image 46 (.iconst 0) 1 47 := ⟨by decide +kernel, rfl⟩
theorem dX7_image_47 : dc cX7_image 47 (.istore_n 3) 1 48 := ⟨by decide +kernel, rfl⟩
theorem dX7_image_48 : dc cX7_image 48 (.iload_n 3) 1 49 := ⟨by decide +kernel, rfl⟩
theorem dX7_image_49 : dc cX7_image 49 (.bipush 6) 2 51 := ⟨by decide +kernel, rfl⟩
theorem dX7_image_51 : dc cX7_image 51 (.if_icmp .ge 43) 3 54 := ⟨by decide +kernel, rfl⟩
theorem dX7_image_54 : dc cX7_image 54 (.aload_n 0) 1 55 := ⟨by decide +kernel, rfl⟩
theorem dX7_image_55 : dc cX7_image 55 (.getfield 34) 3 58 := ⟨by decide +kernel, rfl⟩
theorem dX7_image_58 : dc cX7_image 58 (.iload_n 2) 1 59 := ⟨by decide +kernel, rfl⟩
theorem dX7_image_59 : dc cX7_image 59 (.bipush 96) 2 61 := ⟨by decide +kernel, rfl⟩
theorem dX7_image_61 : dc cX7_image 61 (.iadd) 1 62 := ⟨by decide +kernel, rfl⟩
theorem dX7_image_62 : dc cX7_image 62 (.iload_n 3) 1 63 := ⟨by decide +kernel, rfl⟩
theorem dX7_image_63 : dc cX7_image 63 (.iadd) 1 64 := ⟨by decide +kernel, rfl⟩
theorem dX7_image_64 : dc cX7_image 64 (.aload_n 0) 1 65 := ⟨by decide +kernel, rfl⟩
theorem dX7_image_65 : dc cX7_image 65 (.getfield 16) 3 68 := ⟨by decide +kernel, rfl⟩
theorem dX7_image_68 : dc cX7_image 68 (.iload_n 3) 1 69 := ⟨by decide +kernel, rfl⟩
theorem dX7_image_69 : dc cX7_image 69 (.iaload) 1 70 := ⟨by decide +kernel, rfl⟩
theorem dX7_image_70 : dc cX7_image 70 (.iastore) 1 71 := ⟨by decide +kernel, rfl⟩
theorem dX7_image_71 : dc cX7_image 71 (.aload_n 0) 1 72 := ⟨by decide +kernel, rfl⟩
theorem dX7_image_72 : dc cX7_image 72 (.getfield 34) 3 75 := ⟨by decide +kernel, rfl⟩
theorem dX7_image_75 : dc cX7_image 75 (.iload_n 2) 1 76 := ⟨by decide +kernel, rfl⟩
theorem dX7_image_76 : dc cX7_image 76 (.bipush 102) 2 78 := ⟨by decide +kernel, rfl⟩
theorem dX7_image_78 : dc cX7_image 78 (.iadd) 1 79 := ⟨by decide +kernel, rfl⟩
theorem dX7_image_79 : dc cX7_image 79 (.iload_n 3) 1 80 := ⟨by decide +kernel, rfl⟩
theorem dX7_image_80 : dc cX7_image 80 (.iadd) 1 81 := ⟨by decide +kernel, rfl⟩
theorem dX7_image_81 : dc cX7_image 81 (.aload_n 0) 1 82 := ⟨by decide +kernel, rfl⟩
theorem dX7_image_82 : dc cX7_image 82 (.getfield 19) 3 85 := ⟨by decide +kernel, rfl⟩
theorem dX7_image_85 : dc cX7_image 85 (.iload_n 3) 1 86 := ⟨by decide +kernel, rfl⟩
theorem dX7_image_86 : dc cX7_image 86 (.iaload) 1 87 := ⟨by decide +kernel, rfl⟩
theorem dX7_image_87 : dc cX7_image 87 (.iastore) 1 88 := ⟨by decide +kernel, rfl⟩
theorem dX7_image_88 : dc cX7_image 88 (.iinc 3 1) 3 91 := ⟨by decide +kernel, rfl⟩
theorem dX7_image_91 : dc cX7_image 91 (.goto (-43)) 3 94 := ⟨by decide +kernel, rfl⟩
theorem dX7_image_94 : dc cX7_image 94 (.iconst 0) 1 95 := ⟨by decide +kernel, rfl⟩
theorem dX7_image_95 : dc cX7_image 95 (.istore_n 3) 1 96 := ⟨by decide +kernel, rfl⟩
theorem dX7_image_96 : dc cX7_image 96 (.iload_n 3) 1 97 := ⟨by decide +kernel, rfl⟩
theorem dX7_image_97 : dc cX7_image 97 (.bipush 16) 2 99 := ⟨by decide +kernel, rfl⟩
theorem dX7_image_99 : dc cX7_image 99 (.if_icmp .ge 26) 3 102 := ⟨by decide +kernel, rfl⟩
theorem dX7_image_102 : dc cX7_image 102 (.aload_n 0) 1 103 := ⟨by decide +kernel, rfl⟩
theorem dX7_image_103 : dc cX7_image 103 (.getfield 34) 3 106 := ⟨by decide +kernel, rfl⟩
theorem dX7_image_106 : dc cX7_image 106 (.iload_n 2) 1 107 := ⟨by decide +kernel, rfl⟩
theorem dX7_image_107 : dc cX7_image 107 (.bipush 108) 2 109 := ⟨by decide +kernel, rfl⟩
theorem dX7_image_109 : dc cX7_image 109 (.iadd) 1 110 := ⟨by decide +kernel, rfl⟩
theorem dX7_image_110 : dc cX7_image 110 (.iload_n 3) 1 111 := ⟨by decide +kernel, rfl⟩
theorem dX7_image_111 : dc cX7_image 111 (.iadd) 1 112 := ⟨by decide +kernel, rfl⟩
theorem dX7_image_112 : dc cX7_image 112 (.aload_n 0) 1 113 := ⟨by decide +kernel, rfl⟩
theorem dX7_image_113 : dc cX7_image 113 (.getfield 22) 3 116 := ⟨by decide +kernel, rfl⟩
theorem dX7_image_116 : dc cX7_image 116 (.iload_n 3) 1 117 := ⟨by decide +kernel, rfl⟩
theorem dX7_image_117 : dc cX7_image 117 (.iaload) 1 118 := ⟨by decide +kernel, rfl⟩
theorem dX7_image_118 : dc cX7_image 118 (.iastore) 1 119 := ⟨by decide +kernel, rfl⟩
theorem dX7_image_119 : dc cX7_image 119 (.iinc 3 1) 3 122 := ⟨by decide +kernel, rfl⟩
theorem dX7_image_122 : dc cX7_image 122 (.goto (-26)) 3 125 := ⟨by decide +kernel, rfl⟩
theorem dX7_image_125 : dc cX7_image 125 (.aload_n 0) 1 126 := ⟨by decide +kernel, rfl⟩
theorem dX7_image_126 : dc cX7_image 126 (.getfield 34) 3 129 := ⟨by decide +kernel, rfl⟩
theorem dX7_image_129 : dc cX7_image 129 (.iload_n 2) 1 130 := ⟨by decide +kernel, rfl⟩
theorem dX7_image_130 : dc cX7_image 130 (.bipush 124) 2 132 := ⟨by decide +kernel, rfl⟩
theorem dX7_image_132 : dc cX7_image 132 (.iadd) 1 133 := ⟨by decide +kernel, rfl⟩
theorem dX7_image_133 : dc cX7_image 133 (.aload_n 0) 1 134 := ⟨by decide +kernel, rfl⟩
theorem dX7_image_134 : dc cX7_image 134 (.getfield 129) 3 137 := ⟨by decide +kernel, rfl⟩
theorem dX7_image_137 : dc cX7_image 137 (.iastore) 1 138 := ⟨by decide +kernel, rfl⟩
theorem dX7_image_138 : dc cX7_image 138 (.aload_n 0) 1 139 := ⟨by decide +kernel, rfl⟩
theorem dX7_image_139 : dc cX7_image 139 (.getfield 37) 3 142 := ⟨by decide +kernel, rfl⟩
theorem dX7_image_142 : dc cX7_image 142 (.iload_n 1) 1 143 := ⟨by decide +kernel, rfl⟩
theorem dX7_image_143 : dc cX7_image 143 (.iconst 1) 1 144 := ⟨by decide +kernel, rfl⟩
theorem dX7_image_144 : dc cX7_image 144 (.bastore) 1 145 := ⟨by decide +kernel, rfl⟩
theorem dX7_image_145 : dc cX7_image 145 (.iconst 1) 1 146 := ⟨by decide +kernel, rfl⟩
theorem dX7_image_146 : dc cX7_image 146 (.ireturn) 1 147 := ⟨by decide +kernel, rfl⟩
theorem dX7_restore_0 : dc cX7_restore 0 (.iload_n 1) 1 1 := ⟨by decide +kernel, rfl⟩
theorem dX7_restore_1 : dc cX7_restore 1 (.iconst 0) 1 2 := ⟨by decide +kernel, rfl⟩
theorem dX7_restore_2 : dc cX7_restore 2 (.iconst 1) 1 3 := ⟨by decide +kernel, rfl⟩
theorem dX7_restore_3 : dc cX7_restore 3 (.invokestatic 41) 3 6 := ⟨by decide +kernel, rfl⟩
theorem dX7_restore_6 : dc cX7_restore 6 (.ifCond .ne 6) 3 9 := ⟨by decide +kernel, rfl⟩
theorem dX7_restore_9 : dc cX7_restore 9 (.bipush (-2)) 2 11 := ⟨by decide +kernel, rfl⟩
theorem dX7_restore_11 : dc cX7_restore 11 (.ireturn) 1 12 := ⟨by decide +kernel, rfl⟩
theorem dX7_restore_12 : dc cX7_restore 12 (.aload_n 0) 1 13 := ⟨by decide +kernel, rfl⟩
theorem dX7_restore_13 : dc cX7_restore 13 (.getfield 37) 3 16 := ⟨by decide +kernel, rfl⟩
theorem dX7_restore_16 : dc cX7_restore 16 (.iload_n 1) 1 17 := ⟨by decide +kernel, rfl⟩
theorem dX7_restore_17 : dc cX7_restore 17 (.baload) 1 18 := ⟨by decide +kernel, rfl⟩
theorem dX7_restore_18 : dc cX7_restore 18 (.ifCond .ne 6) 3 21 := ⟨by decide +kernel, rfl⟩
theorem dX7_restore_21 : dc cX7_restore 21 (.bipush (-3)) 2 23 := ⟨by decide +kernel, rfl⟩
theorem dX7_restore_23 : dc cX7_restore 23 (.ireturn) 1 24 := ⟨by decide +kernel, rfl⟩
theorem dX7_restore_24 : dc cX7_restore 24 (.sipush 130) 3 27 := ⟨by decide +kernel, rfl⟩
theorem dX7_restore_27 : dc cX7_restore 27 (.iload_n 1) 1 28 := ⟨by decide +kernel, rfl⟩
theorem dX7_restore_28 : dc cX7_restore 28 (.imul) 1 29 := ⟨by decide +kernel, rfl⟩
theorem dX7_restore_29 : dc cX7_restore 29 (.istore_n 2) 1 30 := ⟨by decide +kernel, rfl⟩
theorem dX7_restore_30 : dc cX7_restore 30 (.iconst 0) 1 31 := ⟨by decide +kernel, rfl⟩
theorem dX7_restore_31 : dc cX7_restore 31 (.istore_n 3) 1 32 := ⟨by decide +kernel, rfl⟩
theorem dX7_restore_32 : dc cX7_restore 32 (.iload_n 3) 1 33 := ⟨by decide +kernel, rfl⟩
theorem dX7_restore_33 : dc cX7_restore 33 (.bipush 96) 2 35 := ⟨by decide +kernel, rfl⟩
theorem dX7_restore_35 : dc cX7_restore 35 (.if_icmp .ge 23) 3 38 := ⟨by decide +kernel, rfl⟩
theorem dX7_restore_38 : dc cX7_restore 38 (.aload_n 0) 1 39 := ⟨by decide +kernel, rfl⟩
theorem dX7_restore_39 : dc cX7_restore 39 (.getfield 7) 3 42 := ⟨by decide +kernel, rfl⟩
theorem dX7_restore_42 : dc cX7_restore 42 (.iload_n 3) 1 43 := ⟨by decide +kernel, rfl⟩
theorem dX7_restore_43 : dc cX7_restore 43 (.aload_n 0) 1 44 := ⟨by decide +kernel, rfl⟩
theorem dX7_restore_44 : dc cX7_restore 44 (.getfield 34) 3 47 := ⟨by decide +kernel, rfl⟩
theorem dX7_restore_47 : dc cX7_restore 47 (.iload_n 2) 1 48 := ⟨by decide +kernel, rfl⟩
theorem dX7_restore_48 : dc cX7_restore 48 (.iload_n 3) 1 49 := ⟨by decide +kernel, rfl⟩
theorem dX7_restore_49 : dc cX7_restore 49 (.iadd) 1 50 := ⟨by decide +kernel, rfl⟩
theorem dX7_restore_50 : dc cX7_restore 50 (.iaload) 1 51 := ⟨by decide +kernel, rfl⟩
theorem dX7_restore_51 : dc cX7_restore 51 (.iastore) 1 52 := ⟨by decide +kernel, rfl⟩
theorem dX7_restore_52 : dc cX7_restore 52 (.iinc 3 1) 3 55 := ⟨by decide +kernel, rfl⟩
theorem dX7_restore_55 : dc cX7_restore 55 (.goto (-23)) 3 58 := ⟨by decide +kernel, rfl⟩
theorem dX7_restore_58 : dc cX7_restore 58 (.iconst 0) 1 59 := ⟨by decide +kernel, rfl⟩
theorem dX7_restore_59 : dc cX7_restore 59 (.istore_n 3) 1 60 := ⟨by decide +kernel, rfl⟩
theorem dX7_restore_60 : dc cX7_restore 60 (.iload_n 3) 1 61 := ⟨by decide +kernel, rfl⟩
theorem dX7_restore_61 : dc cX7_restore 61 (.bipush 6) 2 63 := ⟨by decide +kernel, rfl⟩
theorem dX7_restore_63 : dc cX7_restore 63 (.if_icmp .ge 43) 3 66 := ⟨by decide +kernel, rfl⟩
theorem dX7_restore_66 : dc cX7_restore 66 (.aload_n 0) 1 67 := ⟨by decide +kernel, rfl⟩
theorem dX7_restore_67 : dc cX7_restore 67 (.getfield 16) 3 70 := ⟨by decide +kernel, rfl⟩
theorem dX7_restore_70 : dc cX7_restore 70 (.iload_n 3) 1 71 := ⟨by decide +kernel, rfl⟩
theorem dX7_restore_71 : dc cX7_restore 71 (.aload_n 0) 1 72 := ⟨by decide +kernel, rfl⟩
theorem dX7_restore_72 : dc cX7_restore 72 (.getfield 34) 3 75 := ⟨by decide +kernel, rfl⟩
theorem dX7_restore_75 : dc cX7_restore 75 (.iload_n 2) 1 76 := ⟨by decide +kernel, rfl⟩
theorem dX7_restore_76 : dc cX7_restore 76 (.bipush 96) 2 78 := ⟨by decide +kernel, rfl⟩
theorem dX7_restore_78 : dc cX7_restore 78 (.iadd) 1 79 := ⟨by decide +kernel, rfl⟩
theorem dX7_restore_79 : dc cX7_restore 79 (.iload_n 3) 1 80 := ⟨by decide +kernel, rfl⟩
theorem dX7_restore_80 : dc cX7_restore 80 (.iadd) 1 81 := ⟨by decide +kernel, rfl⟩
theorem dX7_restore_81 : dc cX7_restore 81 (.iaload) 1 82 := ⟨by decide +kernel, rfl⟩
theorem dX7_restore_82 : dc cX7_restore 82 (.iastore) 1 83 := ⟨by decide +kernel, rfl⟩
theorem dX7_restore_83 : dc cX7_restore 83 (.aload_n 0) 1 84 := ⟨by decide +kernel, rfl⟩
theorem dX7_restore_84 : dc cX7_restore 84 (.getfield 19) 3 87 := ⟨by decide +kernel, rfl⟩
theorem dX7_restore_87 : dc cX7_restore 87 (.iload_n 3) 1 88 := ⟨by decide +kernel, rfl⟩
theorem dX7_restore_88 : dc cX7_restore 88 (.aload_n 0) 1 89 := ⟨by decide +kernel, rfl⟩
theorem dX7_restore_89 : dc cX7_restore 89 (.getfield 34) 3 92 := ⟨by decide +kernel, rfl⟩
theorem dX7_restore_92 : dc cX7_restore 92 (.iload_n 2) 1 93 := ⟨by decide +kernel, rfl⟩
theorem dX7_restore_93 : dc cX7_restore 93 (.bipush 102) 2 95 := ⟨by decide +kernel, rfl⟩
theorem dX7_restore_95 : dc cX7_restore 95 (.iadd) 1 96 := ⟨by decide +kernel, rfl⟩
theorem dX7_restore_96 : dc cX7_restore 96 (.iload_n 3) 1 97 := ⟨by decide +kernel, rfl⟩
theorem dX7_restore_97 : dc cX7_restore 97 (.iadd) 1 98 := ⟨by decide +kernel, rfl⟩
theorem dX7_restore_98 : dc cX7_restore 98 (.iaload) 1 99 := ⟨by decide +kernel, rfl⟩
theorem dX7_restore_99 : dc cX7_restore 99 (.iastore) 1 100 := ⟨by decide +kernel, rfl⟩
theorem dX7_restore_100 : dc cX7_restore 100 (.iinc 3 1) 3 103 := ⟨by decide +kernel, rfl⟩
theorem dX7_restore_103 : dc cX7_restore 103 (.goto (-43)) 3 106 := ⟨by decide +kernel, rfl⟩
theorem dX7_restore_106 : dc cX7_restore 106 (.iconst 0) 1 107 := ⟨by decide +kernel, rfl⟩
theorem dX7_restore_107 : dc cX7_restore 107 (.istore_n 3) 1 108 := ⟨by decide +kernel, rfl⟩
theorem dX7_restore_108 : dc cX7_restore 108 (.iload_n 3) 1 109 := ⟨by decide +kernel, rfl⟩
theorem dX7_restore_109 : dc cX7_restore 109 (.bipush 16) 2 111 := ⟨by decide +kernel, rfl⟩
theorem dX7_restore_111 : dc cX7_restore 111 (.if_icmp .ge 26) 3 114 := ⟨by decide +kernel, rfl⟩
theorem dX7_restore_114 : dc cX7_restore 114 (.aload_n 0) 1 115 := ⟨by decide +kernel, rfl⟩
theorem dX7_restore_115 : dc cX7_restore 115 (.getfield 22) 3 118 := ⟨by decide +kernel, rfl⟩
theorem dX7_restore_118 : dc cX7_restore 118 (.iload_n 3) 1 119 := ⟨by decide +kernel, rfl⟩
theorem dX7_restore_119 : dc cX7_restore 119 (.aload_n 0) 1 120 := ⟨by decide +kernel, rfl⟩
theorem dX7_restore_120 : dc cX7_restore 120 (.getfield 34) 3 123 := ⟨by decide +kernel, rfl⟩
theorem dX7_restore_123 : dc cX7_restore 123 (.iload_n 2) 1 124 := ⟨by decide +kernel, rfl⟩
theorem dX7_restore_124 : dc cX7_restore 124 (.bipush 108) 2 126 := ⟨by decide +kernel, rfl⟩
theorem dX7_restore_126 : dc cX7_restore 126 (.iadd) 1 127 := ⟨by decide +kernel, rfl⟩
theorem dX7_restore_127 : dc cX7_restore 127 (.iload_n 3) 1 128 := ⟨by decide +kernel, rfl⟩
theorem dX7_restore_128 : dc cX7_restore 128 (.iadd) 1 129 := ⟨by decide +kernel, rfl⟩
theorem dX7_restore_129 : dc cX7_restore 129 (.iaload) 1 130 := ⟨by decide +kernel, rfl⟩
theorem dX7_restore_130 : dc cX7_restore 130 (.iastore) 1 131 := ⟨by decide +kernel, rfl⟩
theorem dX7_restore_131 : dc cX7_restore 131 (.iinc 3 1) 3 134 := ⟨by decide +kernel, rfl⟩
theorem dX7_restore_134 : dc cX7_restore 134 (.goto (-26)) 3 137 := ⟨by decide +kernel, rfl⟩
theorem dX7_restore_137 : dc cX7_restore 137 (.aload_n 0) 1 138 := ⟨by decide +kernel, rfl⟩
theorem dX7_restore_138 : dc cX7_restore 138 (.aload_n 0) 1 139 := ⟨by decide +kernel, rfl⟩
theorem dX7_restore_139 : dc cX7_restore 139 (.getfield 34) 3 142 := ⟨by decide +kernel, rfl⟩
theorem dX7_restore_142 : dc cX7_restore 142 (.iload_n 2) 1 143 := ⟨by decide +kernel, rfl⟩
theorem dX7_restore_143 : dc cX7_restore 143 (.bipush 124) 2 145 := ⟨by decide +kernel, rfl⟩
theorem dX7_restore_145 : dc cX7_restore 145 (.iadd) 1 146 := ⟨by decide +kernel, rfl⟩
theorem dX7_restore_146 : dc cX7_restore 146 (.iaload) 1 147 := ⟨by decide +kernel, rfl⟩
theorem dX7_restore_147 : dc cX7_restore 147 (.putfield 129) 3 150 := ⟨by decide +kernel, rfl⟩
theorem dX7_restore_150 : dc cX7_restore 150 (.iconst 1) 1 151 := ⟨by decide +kernel, rfl⟩
theorem dX7_restore_151 : dc cX7_restore 151 (.ireturn) 1 152 := ⟨by decide +kernel, rfl⟩
theorem dX7_told_0 : dc cX7_told 0 (.iload_n 1) 1 1 := ⟨by decide +kernel, rfl⟩
theorem dX7_told_1 : dc cX7_told 1 (.bipush 100) 2 3 := ⟨by decide +kernel, rfl⟩
theorem dX7_told_3 : dc cX7_told 3 (.if_icmp .lt 44) 3 6 := ⟨by decide +kernel, rfl⟩
theorem dX7_told_6 : dc cX7_told 6 (.iload_n 1) 1 7 := ⟨by decide +kernel, rfl⟩
theorem dX7_told_7 : dc cX7_told 7 (.bipush 100) 2 9 := ⟨by decide +kernel, rfl⟩
theorem dX7_told_9 : dc cX7_told 9 (.idiv) 1 10 := ⟨by decide +kernel, rfl⟩
theorem dX7_told_10 : dc cX7_told 10 (.iconst 1) 1 11 := ⟨by decide +kernel, rfl⟩
theorem dX7_told_11 : dc cX7_told 11 (.isub) 1 12 := ⟨by decide +kernel, rfl⟩
theorem dX7_told_12 : dc cX7_told 12 (.istore_n 2) 1 13 := ⟨by decide +kernel, rfl⟩
theorem dX7_told_13 : dc cX7_told 13 (.iload_n 1) 1 14 := ⟨by decide +kernel, rfl⟩
theorem dX7_told_14 : dc cX7_told 14 (.bipush 100) 2 16 := ⟨by decide +kernel, rfl⟩
theorem dX7_told_16 : dc cX7_told 16 (.irem) 1 17 := ⟨by decide +kernel, rfl⟩
theorem dX7_told_17 : dc cX7_told 17 (.istore_n 3) 1 18 := ⟨by decide +kernel, rfl⟩
theorem dX7_told_18 : dc cX7_told 18 (.iload_n 2) 1 19 := ⟨by decide +kernel, rfl⟩
theorem dX7_told_19 : dc cX7_told 19 (.invokestatic 45) 3 22 := ⟨by decide +kernel, rfl⟩
theorem dX7_told_22 : dc cX7_told 22 (.ifCond .eq 22) 3 25 := ⟨by decide +kernel, rfl⟩
theorem dX7_told_25 : dc cX7_told 25 (.iload_n 3) 1 26 := ⟨by decide +kernel, rfl⟩
theorem dX7_told_26 : dc cX7_told 26 (.iconst 3) 1 27 := ⟨by decide +kernel, rfl⟩
theorem dX7_told_27 : dc cX7_told 27 (.if_icmp .ge 17) 3 30 := ⟨by decide +kernel, rfl⟩
theorem dX7_told_30 : dc cX7_told 30 (.aload_n 0) 1 31 := ⟨by decide +kernel, rfl⟩
theorem dX7_told_31 : dc cX7_told 31 (.getfield 7) 3 34 := ⟨by decide +kernel, rfl⟩
theorem dX7_told_34 : dc cX7_told 34 (.bipush 8) 2 36 := ⟨by decide +kernel, rfl⟩
theorem dX7_told_36 : dc cX7_told 36 (.iload_n 3) 1 37 := ⟨by decide +kernel, rfl⟩
theorem dX7_told_37 : dc cX7_told 37 (.imul) 1 38 := ⟨by decide +kernel, rfl⟩
theorem dX7_told_38 : dc cX7_told 38 (.iload_n 2) 1 39 := ⟨by decide +kernel, rfl⟩
theorem dX7_told_39 : dc cX7_told 39 (.iadd) 1 40 := ⟨by decide +kernel, rfl⟩
theorem dX7_told_40 : dc cX7_told 40 (.iaload) 1 41 := ⟨by decide +kernel, rfl⟩
theorem dX7_told_41 : dc cX7_told 41 (.goto 5) 3 44 := ⟨by decide +kernel, rfl⟩
theorem dX7_told_44 : dc cX7_told 44 (.bipush (-2)) 2 46 := ⟨by decide +kernel, rfl⟩
theorem dX7_told_46 : dc cX7_told 46 (.ireturn) 1 47 := ⟨by decide +kernel, rfl⟩
theorem dX7_told_47 : dc cX7_told 47 (.iload_n 1) 1 48 := ⟨by decide +kernel, rfl⟩
theorem dX7_told_48 : dc cX7_told 48 (.bipush 10) 2 50 := ⟨by decide +kernel, rfl⟩
theorem dX7_told_50 : dc cX7_told 50 (.if_icmp .lt 69) 3 53 := ⟨by decide +kernel, rfl⟩
theorem dX7_told_53 : dc cX7_told 53 (.iload_n 1) 1 54 := ⟨by decide +kernel, rfl⟩
theorem dX7_told_54 : dc cX7_told 54 (.bipush 10) 2 56 := ⟨by decide +kernel, rfl⟩
theorem dX7_told_56 : dc cX7_told 56 (.idiv) 1 57 := ⟨by decide +kernel, rfl⟩
theorem dX7_told_57 : dc cX7_told 57 (.iconst 1) 1 58 := ⟨by decide +kernel, rfl⟩
theorem dX7_told_58 : dc cX7_told 58 (.isub) 1 59 := ⟨by decide +kernel, rfl⟩
theorem dX7_told_59 : dc cX7_told 59 (.istore_n 2) 1 60 := ⟨by decide +kernel, rfl⟩
theorem dX7_told_60 : dc cX7_told 60 (.iload_n 1) 1 61 := ⟨by decide +kernel, rfl⟩
theorem dX7_told_61 : dc cX7_told 61 (.bipush 10) 2 63 := ⟨by decide +kernel, rfl⟩
theorem dX7_told_63 : dc cX7_told 63 (.irem) 1 64 := ⟨by decide +kernel, rfl⟩
theorem dX7_told_64 : dc cX7_told 64 (.istore_n 3) 1 65 := ⟨by decide +kernel, rfl⟩
theorem dX7_told_65 : dc cX7_told 65 (.iload_n 2) 1 66 := ⟨by decide +kernel, rfl⟩
theorem dX7_told_66 : dc cX7_told 66 (.invokestatic 57) 3 69 := ⟨by decide +kernel, rfl⟩
theorem dX7_told_69 : dc cX7_told 69 (.ifCond .eq 8) 3 72 := ⟨by decide +kernel, rfl⟩
theorem dX7_told_72 : dc cX7_told 72 (.iload_n 3) 1 73 := ⟨by decide +kernel, rfl⟩
theorem dX7_told_73 : dc cX7_told 73 (.iconst 2) 1 74 := ⟨by decide +kernel, rfl⟩
theorem dX7_told_74 : dc cX7_told 74 (.if_icmp .le 8) 3 77 := ⟨by decide +kernel, rfl⟩
theorem dX7_told_77 : dc cX7_told 77 (.bipush (-2)) 2 79 := ⟨by decide +kernel, rfl⟩
theorem dX7_told_79 : dc cX7_told 79 (.goto 39) 3 82 := ⟨by decide +kernel, rfl⟩
theorem dX7_told_82 : dc cX7_told 82 (.iload_n 3) 1 83 := ⟨by decide +kernel, rfl⟩
theorem dX7_told_83 : dc cX7_told 83 (.ifCond .ne 12) 3 86 := ⟨by decide +kernel, rfl⟩
theorem dX7_told_86 : dc cX7_told 86 (.aload_n 0) 1 87 := ⟨by decide +kernel, rfl⟩
theorem dX7_told_87 : dc cX7_told 87 (.getfield 16) 3 90 := ⟨by decide +kernel, rfl⟩
theorem dX7_told_90 : dc cX7_told 90 (.iload_n 2) 1 91 := ⟨by decide +kernel, rfl⟩
theorem dX7_told_91 : dc cX7_told 91 (.iaload) 1 92 := ⟨by decide +kernel, rfl⟩
theorem dX7_told_92 : dc cX7_told 92 (.goto 26) 3 95 := ⟨by decide +kernel, rfl⟩
theorem dX7_told_95 : dc cX7_told 95 (.iload_n 3) 1 96 := ⟨by decide +kernel, rfl⟩
theorem dX7_told_96 : dc cX7_told 96 (.iconst 1) 1 97 := ⟨by decide +kernel, rfl⟩
theorem dX7_told_97 : dc cX7_told 97 (.if_icmp .ne 12) 3 100 := ⟨by decide +kernel, rfl⟩
theorem dX7_told_100 : dc cX7_told 100 (.aload_n 0) 1 101 := ⟨by decide +kernel, rfl⟩
theorem dX7_told_101 : dc cX7_told 101 (.getfield 19) 3 104 := ⟨by decide +kernel, rfl⟩
theorem dX7_told_104 : dc cX7_told 104 (.iload_n 2) 1 105 := ⟨by decide +kernel, rfl⟩
theorem dX7_told_105 : dc cX7_told 105 (.iaload) 1 106 := ⟨by decide +kernel, rfl⟩
theorem dX7_told_106 : dc cX7_told 106 (.goto 12) 3 109 := ⟨by decide +kernel, rfl⟩
theorem dX7_told_109 : dc cX7_told 109 (.aload_n 0) 1 110 := ⟨by decide +kernel, rfl⟩
theorem dX7_told_110 : dc cX7_told 110 (.getfield 7) 3 113 := ⟨by decide +kernel, rfl⟩
theorem dX7_told_113 : dc cX7_told 113 (.bipush 88) 2 115 := ⟨by decide +kernel, rfl⟩
theorem dX7_told_115 : dc cX7_told 115 (.iload_n 2) 1 116 := ⟨by decide +kernel, rfl⟩
theorem dX7_told_116 : dc cX7_told 116 (.iadd) 1 117 := ⟨by decide +kernel, rfl⟩
theorem dX7_told_117 : dc cX7_told 117 (.iaload) 1 118 := ⟨by decide +kernel, rfl⟩
theorem dX7_told_118 : dc cX7_told 118 (.ireturn) 1 119 := ⟨by decide +kernel, rfl⟩
theorem dX7_told_119 : dc cX7_told 119 (.iload_n 1) 1 120 := ⟨by decide +kernel, rfl⟩
theorem dX7_told_120 : dc cX7_told 120 (.tableswitch 49 0 2 #[28, 33, 41]) 28 148 := ⟨by decide +kernel, rfl⟩
theorem dX7_told_148 : dc cX7_told 148 (.aload_n 0) 1 149 := ⟨by decide +kernel, rfl⟩
theorem dX7_told_149 : dc cX7_told 149 (.getfield 60) 3 152 := ⟨by decide +kernel, rfl⟩
theorem dX7_told_152 : dc cX7_told 152 (.ireturn) 1 153 := ⟨by decide +kernel, rfl⟩
theorem dX7_told_153 : dc cX7_told 153 (.aload_n 0) 1 154 := ⟨by decide +kernel, rfl⟩
theorem dX7_told_154 : dc cX7_told 154 (.getfield 7) 3 157 := ⟨by decide +kernel, rfl⟩
theorem dX7_told_157 : dc cX7_told 157 (.bipush 94) 2 159 := ⟨by decide +kernel, rfl⟩
theorem dX7_told_159 : dc cX7_told 159 (.iaload) 1 160 := ⟨by decide +kernel, rfl⟩
theorem dX7_told_160 : dc cX7_told 160 (.ireturn) 1 161 := ⟨by decide +kernel, rfl⟩
theorem dX7_told_161 : dc cX7_told 161 (.aload_n 0) 1 162 := ⟨by decide +kernel, rfl⟩
theorem dX7_told_162 : dc cX7_told 162 (.getfield 7) 3 165 := ⟨by decide +kernel, rfl⟩
theorem dX7_told_165 : dc cX7_told 165 (.bipush 95) 2 167 := ⟨by decide +kernel, rfl⟩
theorem dX7_told_167 : dc cX7_told 167 (.iaload) 1 168 := ⟨by decide +kernel, rfl⟩
theorem dX7_told_168 : dc cX7_told 168 (.ireturn) 1 169 := ⟨by decide +kernel, rfl⟩
theorem dX7_told_169 : dc cX7_told 169 (.iload_n 1) 1 170 := ⟨by decide +kernel, rfl⟩
theorem dX7_told_170 : dc cX7_told 170 (.iconst 3) 1 171 := ⟨by decide +kernel, rfl⟩
theorem dX7_told_171 : dc cX7_told 171 (.if_icmp .ne 10) 3 174 := ⟨by decide +kernel, rfl⟩
theorem dX7_told_174 : dc cX7_told 174 (.aload_n 0) 1 175 := ⟨by decide +kernel, rfl⟩
theorem dX7_told_175 : dc cX7_told 175 (.getfield 129) 3 178 := ⟨by decide +kernel, rfl⟩
theorem dX7_told_178 : dc cX7_told 178 (.goto 5) 3 181 := ⟨by decide +kernel, rfl⟩
theorem dX7_told_181 : dc cX7_told 181 (.bipush (-2)) 2 183 := ⟨by decide +kernel, rfl⟩
theorem dX7_told_183 : dc cX7_told 183 (.ireturn) 1 184 := ⟨by decide +kernel, rfl⟩
theorem dJ6_bitCount_0f7a4_0 : dc cJ6_bitCount_0f7a4 0 (.iload_n 0) 1 1 := ⟨by decide +kernel, rfl⟩
theorem dJ6_bitCount_0f7a4_1 : dc cJ6_bitCount_0f7a4 1 (.iload_n 0) 1 2 := ⟨by decide +kernel, rfl⟩
theorem dJ6_bitCount_0f7a4_2 : dc cJ6_bitCount_0f7a4 2 (.iconst 1) 1 3 := ⟨by decide +kernel, rfl⟩
theorem dJ6_bitCount_0f7a4_3 : dc cJ6_bitCount_0f7a4 3 (.iushr) 1 4 := ⟨by decide +kernel, rfl⟩
theorem dJ6_bitCount_0f7a4_4 : dc cJ6_bitCount_0f7a4 4 (.ldc_w 265) 3 7 := ⟨by decide +kernel, rfl⟩
theorem dJ6_bitCount_0f7a4_7 : dc cJ6_bitCount_0f7a4 7 (.iand) 1 8 := ⟨by decide +kernel, rfl⟩
theorem dJ6_bitCount_0f7a4_8 : dc cJ6_bitCount_0f7a4 8 (.isub) 1 9 := ⟨by decide +kernel, rfl⟩
theorem dJ6_bitCount_0f7a4_9 : dc cJ6_bitCount_0f7a4 9 (.istore_n 0) 1 10 := ⟨by decide +kernel, rfl⟩
theorem dJ6_bitCount_0f7a4_10 : dc cJ6_bitCount_0f7a4 10 (.iload_n 0) 1 11 := ⟨by decide +kernel, rfl⟩
theorem dJ6_bitCount_0f7a4_11 : dc cJ6_bitCount_0f7a4 11 (.ldc_w 266) 3 14 := ⟨by decide +kernel, rfl⟩
theorem dJ6_bitCount_0f7a4_14 : dc cJ6_bitCount_0f7a4 14 (.iand) 1 15 := ⟨by decide +kernel, rfl⟩
theorem dJ6_bitCount_0f7a4_15 : dc cJ6_bitCount_0f7a4 15 (.iload_n 0) 1 16 := ⟨by decide +kernel, rfl⟩
theorem dJ6_bitCount_0f7a4_16 : dc cJ6_bitCount_0f7a4 16 (.iconst 2) 1 17 := ⟨by decide +kernel, rfl⟩
theorem dJ6_bitCount_0f7a4_17 : dc cJ6_bitCount_0f7a4 17 (.iushr) 1 18 := ⟨by decide +kernel, rfl⟩
theorem dJ6_bitCount_0f7a4_18 : dc cJ6_bitCount_0f7a4 18 (.ldc_w 266) 3 21 := ⟨by decide +kernel, rfl⟩
theorem dJ6_bitCount_0f7a4_21 : dc cJ6_bitCount_0f7a4 21 (.iand) 1 22 := ⟨by decide +kernel, rfl⟩
theorem dJ6_bitCount_0f7a4_22 : dc cJ6_bitCount_0f7a4 22 (.iadd) 1 23 := ⟨by decide +kernel, rfl⟩
theorem dJ6_bitCount_0f7a4_23 : dc cJ6_bitCount_0f7a4 23 (.istore_n 0) 1 24 := ⟨by decide +kernel, rfl⟩
theorem dJ6_bitCount_0f7a4_24 : dc cJ6_bitCount_0f7a4 24 (.iload_n 0) 1 25 := ⟨by decide +kernel, rfl⟩
theorem dJ6_bitCount_0f7a4_25 : dc cJ6_bitCount_0f7a4 25 (.iload_n 0) 1 26 := ⟨by decide +kernel, rfl⟩
theorem dJ6_bitCount_0f7a4_26 : dc cJ6_bitCount_0f7a4 26 (.iconst 4) 1 27 := ⟨by decide +kernel, rfl⟩
theorem dJ6_bitCount_0f7a4_27 : dc cJ6_bitCount_0f7a4 27 (.iushr) 1 28 := ⟨by decide +kernel, rfl⟩
theorem dJ6_bitCount_0f7a4_28 : dc cJ6_bitCount_0f7a4 28 (.iadd) 1 29 := ⟨by decide +kernel, rfl⟩
theorem dJ6_bitCount_0f7a4_29 : dc cJ6_bitCount_0f7a4 29 (.ldc_w 267) 3 32 := ⟨by decide +kernel, rfl⟩
theorem dJ6_bitCount_0f7a4_32 : dc cJ6_bitCount_0f7a4 32 (.iand) 1 33 := ⟨by decide +kernel, rfl⟩
theorem dJ6_bitCount_0f7a4_33 : dc cJ6_bitCount_0f7a4 33 (.istore_n 0) 1 34 := ⟨by decide +kernel, rfl⟩
theorem dJ6_bitCount_0f7a4_34 : dc cJ6_bitCount_0f7a4 34 (.iload_n 0) 1 35 := ⟨by decide +kernel, rfl⟩
theorem dJ6_bitCount_0f7a4_35 : dc cJ6_bitCount_0f7a4 35 (.iload_n 0) 1 36 := ⟨by decide +kernel, rfl⟩
theorem dJ6_bitCount_0f7a4_36 : dc cJ6_bitCount_0f7a4 36 (.bipush 8) 2 38 := ⟨by decide +kernel, rfl⟩
theorem dJ6_bitCount_0f7a4_38 : dc cJ6_bitCount_0f7a4 38 (.iushr) 1 39 := ⟨by decide +kernel, rfl⟩
theorem dJ6_bitCount_0f7a4_39 : dc cJ6_bitCount_0f7a4 39 (.iadd) 1 40 := ⟨by decide +kernel, rfl⟩
theorem dJ6_bitCount_0f7a4_40 : dc cJ6_bitCount_0f7a4 40 (.istore_n 0) 1 41 := ⟨by decide +kernel, rfl⟩
theorem dJ6_bitCount_0f7a4_41 : dc cJ6_bitCount_0f7a4 41 (.iload_n 0) 1 42 := ⟨by decide +kernel, rfl⟩
theorem dJ6_bitCount_0f7a4_42 : dc cJ6_bitCount_0f7a4 42 (.iload_n 0) 1 43 := ⟨by decide +kernel, rfl⟩
theorem dJ6_bitCount_0f7a4_43 : dc cJ6_bitCount_0f7a4 43 (.bipush 16) 2 45 := ⟨by decide +kernel, rfl⟩
theorem dJ6_bitCount_0f7a4_45 : dc cJ6_bitCount_0f7a4 45 (.iushr) 1 46 := ⟨by decide +kernel, rfl⟩
theorem dJ6_bitCount_0f7a4_46 : dc cJ6_bitCount_0f7a4 46 (.iadd) 1 47 := ⟨by decide +kernel, rfl⟩
theorem dJ6_bitCount_0f7a4_47 : dc cJ6_bitCount_0f7a4 47 (.istore_n 0) 1 48 := ⟨by decide +kernel, rfl⟩
theorem dJ6_bitCount_0f7a4_48 : dc cJ6_bitCount_0f7a4 48 (.iload_n 0) 1 49 := ⟨by decide +kernel, rfl⟩
theorem dJ6_bitCount_0f7a4_49 : dc cJ6_bitCount_0f7a4 49 (.bipush 63) 2 51 := ⟨by decide +kernel, rfl⟩
theorem dJ6_bitCount_0f7a4_51 : dc cJ6_bitCount_0f7a4 51 (.iand) 1 52 := ⟨by decide +kernel, rfl⟩
theorem dJ6_bitCount_0f7a4_52 : dc cJ6_bitCount_0f7a4 52 (.ireturn) 1 53 := ⟨by decide +kernel, rfl⟩
theorem dJ9_max_7cf53_0 : dc cJ9_max_7cf53 0 (.iload_n 0) 1 1 := ⟨by decide +kernel, rfl⟩
theorem dJ9_max_7cf53_1 : dc cJ9_max_7cf53 1 (.iload_n 1) 1 2 := ⟨by decide +kernel, rfl⟩
theorem dJ9_max_7cf53_2 : dc cJ9_max_7cf53 2 (.if_icmp .lt 7) 3 5 := ⟨by decide +kernel, rfl⟩
theorem dJ9_max_7cf53_5 : dc cJ9_max_7cf53 5 (.iload_n 0) 1 6 := ⟨by decide +kernel, rfl⟩
theorem dJ9_max_7cf53_6 : dc cJ9_max_7cf53 6 (.goto 4) 3 9 := ⟨by decide +kernel, rfl⟩
theorem dJ9_max_7cf53_9 : dc cJ9_max_7cf53 9 (.iload_n 1) 1 10 := ⟨by decide +kernel, rfl⟩
theorem dJ9_max_7cf53_10 : dc cJ9_max_7cf53 10 (.ireturn) 1 11 := ⟨by decide +kernel, rfl⟩
theorem dJ9_min_7cf53_0 : dc cJ9_min_7cf53 0 (.iload_n 0) 1 1 := ⟨by decide +kernel, rfl⟩
theorem dJ9_min_7cf53_1 : dc cJ9_min_7cf53 1 (.iload_n 1) 1 2 := ⟨by decide +kernel, rfl⟩
theorem dJ9_min_7cf53_2 : dc cJ9_min_7cf53 2 (.if_icmp .gt 7) 3 5 := ⟨by decide +kernel, rfl⟩
theorem dJ9_min_7cf53_5 : dc cJ9_min_7cf53 5 (.iload_n 0) 1 6 := ⟨by decide +kernel, rfl⟩
theorem dJ9_min_7cf53_6 : dc cJ9_min_7cf53 6 (.goto 4) 3 9 := ⟨by decide +kernel, rfl⟩
theorem dJ9_min_7cf53_9 : dc cJ9_min_7cf53 9 (.iload_n 1) 1 10 := ⟨by decide +kernel, rfl⟩
theorem dJ9_min_7cf53_10 : dc cJ9_min_7cf53 10 (.ireturn) 1 11 := ⟨by decide +kernel, rfl⟩
end
section
theorem dL_law_0 : dc cL_law 0 (.new 7) 3 3 := ⟨by decide +kernel, rfl⟩
theorem dL_law_3 : dc cL_law 3 (.dup) 1 4 := ⟨by decide +kernel, rfl⟩
theorem dL_law_4 : dc cL_law 4 (.invokespecial 9) 3 7 := ⟨by decide +kernel, rfl⟩
theorem dL_law_7 : dc cL_law 7 (.astore_n 1) 1 8 := ⟨by decide +kernel, rfl⟩
theorem dL_law_8 : dc cL_law 8 (.new 10) 3 11 := ⟨by decide +kernel, rfl⟩
theorem dL_law_11 : dc cL_law 11 (.dup) 1 12 := ⟨by decide +kernel, rfl⟩
theorem dL_law_12 : dc cL_law 12 (.invokespecial 12) 3 15 := ⟨by decide +kernel, rfl⟩
theorem dL_law_15 : dc cL_law 15 (.astore_n 2) 1 16 := ⟨by decide +kernel, rfl⟩
theorem dL_law_16 : dc cL_law 16 (.iconst 0) 1 17 := ⟨by decide +kernel, rfl⟩
theorem dL_law_17 : dc cL_law 17 (.istore_n 3) 1 18 := ⟨by decide +kernel, rfl⟩
theorem dL_law_18 : dc cL_law 18 (.iload_n 3) 1 19 := ⟨by decide +kernel, rfl⟩
theorem dL_law_19 : dc cL_law 19 (.aload_n 0) 1 20 := ⟨by decide +kernel, rfl⟩
theorem dL_law_20 : dc cL_law 20 (.arraylength) 1 21 := ⟨by decide +kernel, rfl⟩
theorem dL_law_21 : dc cL_law 21 (.bipush 6) 2 23 := ⟨by decide +kernel, rfl⟩
theorem dL_law_23 : dc cL_law 23 (.isub) 1 24 := ⟨by decide +kernel, rfl⟩
theorem dL_law_24 : dc cL_law 24 (.if_icmp .gt 923) 3 27 := ⟨by decide +kernel, rfl⟩
theorem dL_law_27 : dc cL_law 27 (.aload_n 0) 1 28 := ⟨by decide +kernel, rfl⟩
theorem dL_law_28 : dc cL_law 28 (.iload_n 3) 1 29 := ⟨by decide +kernel, rfl⟩
theorem dL_law_29 : dc cL_law 29 (.iaload) 1 30 := ⟨by decide +kernel, rfl⟩
theorem dL_law_30 : dc cL_law 30 (.bipush 31) 2 32 := ⟨by decide +kernel, rfl⟩
theorem dL_law_32 : dc cL_law 32 (.iand) 1 33 := ⟨by decide +kernel, rfl⟩
theorem dL_law_33 : dc cL_law 33 (.tableswitch 908 0 27 #[127, 170, 223, 246, 259, 272, 295, 308, 341, 364, 387, 400, 433, 466, 489, 502, 535, 568, 601, 624, 673, 686, 709, 732, 796, 839, 862, 885]) 127 160 := ⟨by decide +kernel, rfl⟩
theorem dL_law_160 : dc cL_law 160 (.aload_n 1) 1 161 := ⟨by decide +kernel, rfl⟩
theorem dL_law_161 : dc cL_law 161 (.aload_n 0) 1 162 := ⟨by decide +kernel, rfl⟩
theorem dL_law_162 : dc cL_law 162 (.iload_n 3) 1 163 := ⟨by decide +kernel, rfl⟩
theorem dL_law_163 : dc cL_law 163 (.iconst 1) 1 164 := ⟨by decide +kernel, rfl⟩
theorem dL_law_164 : dc cL_law 164 (.iadd) 1 165 := ⟨by decide +kernel, rfl⟩
theorem dL_law_165 : dc cL_law 165 (.iaload) 1 166 := ⟨by decide +kernel, rfl⟩
theorem dL_law_166 : dc cL_law 166 (.aload_n 0) 1 167 := ⟨by decide +kernel, rfl⟩
theorem dL_law_167 : dc cL_law 167 (.iload_n 3) 1 168 := ⟨by decide +kernel, rfl⟩
theorem dL_law_168 : dc cL_law 168 (.iconst 2) 1 169 := ⟨by decide +kernel, rfl⟩
theorem dL_law_169 : dc cL_law 169 (.iadd) 1 170 := ⟨by decide +kernel, rfl⟩
theorem dL_law_170 : dc cL_law 170 (.iaload) 1 171 := ⟨by decide +kernel, rfl⟩
theorem dL_law_171 : dc cL_law 171 (.aload_n 0) 1 172 := ⟨by decide +kernel, rfl⟩
theorem dL_law_172 : dc cL_law 172 (.iload_n 3) 1 173 := ⟨by decide +kernel, rfl⟩
theorem dL_law_173 : dc cL_law 173 (.iconst 3) 1 174 := ⟨by decide +kernel, rfl⟩
theorem dL_law_174 : dc cL_law 174 (.iadd) 1 175 := ⟨by decide +kernel, rfl⟩
theorem dL_law_175 : dc cL_law 175 (.iaload) 1 176 := ⟨by decide +kernel, rfl⟩
theorem dL_law_176 : dc cL_law 176 (.invokevirtual 13) 3 179 := ⟨by decide +kernel, rfl⟩
theorem dL_law_179 : dc cL_law 179 (.aload_n 2) 1 180 := ⟨by decide +kernel, rfl⟩
theorem dL_law_180 : dc cL_law 180 (.aload_n 0) 1 181 := ⟨by decide +kernel, rfl⟩
theorem dL_law_181 : dc cL_law 181 (.iload_n 3) 1 182 := ⟨by decide +kernel, rfl⟩
theorem dL_law_182 : dc cL_law 182 (.iconst 1) 1 183 := ⟨by decide +kernel, rfl⟩
theorem dL_law_183 : dc cL_law 183 (.iadd) 1 184 := ⟨by decide +kernel, rfl⟩
theorem dL_law_184 : dc cL_law 184 (.iaload) 1 185 := ⟨by decide +kernel, rfl⟩
theorem dL_law_185 : dc cL_law 185 (.aload_n 0) 1 186 := ⟨by decide +kernel, rfl⟩
theorem dL_law_186 : dc cL_law 186 (.iload_n 3) 1 187 := ⟨by decide +kernel, rfl⟩
theorem dL_law_187 : dc cL_law 187 (.iconst 2) 1 188 := ⟨by decide +kernel, rfl⟩
theorem dL_law_188 : dc cL_law 188 (.iadd) 1 189 := ⟨by decide +kernel, rfl⟩
theorem dL_law_189 : dc cL_law 189 (.iaload) 1 190 := ⟨by decide +kernel, rfl⟩
theorem dL_law_190 : dc cL_law 190 (.aload_n 0) 1 191 := ⟨by decide +kernel, rfl⟩
theorem dL_law_191 : dc cL_law 191 (.iload_n 3) 1 192 := ⟨by decide +kernel, rfl⟩
theorem dL_law_192 : dc cL_law 192 (.iconst 3) 1 193 := ⟨by decide +kernel, rfl⟩
theorem dL_law_193 : dc cL_law 193 (.iadd) 1 194 := ⟨by decide +kernel, rfl⟩
theorem dL_law_194 : dc cL_law 194 (.iaload) 1 195 := ⟨by decide +kernel, rfl⟩
theorem dL_law_195 : dc cL_law 195 (.invokevirtual 17) 3 198 := ⟨by decide +kernel, rfl⟩
theorem dL_law_198 : dc cL_law 198 (.if_icmp .eq 743) 3 201 := ⟨by decide +kernel, rfl⟩
theorem dL_law_201 : dc cL_law 201 (.iconst 0) 1 202 := ⟨by decide +kernel, rfl⟩
theorem dL_law_202 : dc cL_law 202 (.ireturn) 1 203 := ⟨by decide +kernel, rfl⟩
theorem dL_law_203 : dc cL_law 203 (.aload_n 1) 1 204 := ⟨by decide +kernel, rfl⟩
theorem dL_law_204 : dc cL_law 204 (.aload_n 0) 1 205 := ⟨by decide +kernel, rfl⟩
theorem dL_law_205 : dc cL_law 205 (.iload_n 3) 1 206 := ⟨by decide +kernel, rfl⟩
theorem dL_law_206 : dc cL_law 206 (.iconst 1) 1 207 := ⟨by decide +kernel, rfl⟩
theorem dL_law_207 : dc cL_law 207 (.iadd) 1 208 := ⟨by decide +kernel, rfl⟩
theorem dL_law_208 : dc cL_law 208 (.iaload) 1 209 := ⟨by decide +kernel, rfl⟩
theorem dL_law_209 : dc cL_law 209 (.aload_n 0) 1 210 := ⟨by decide +kernel, rfl⟩
theorem dL_law_210 : dc cL_law 210 (.iload_n 3) 1 211 := ⟨by decide +kernel, rfl⟩
theorem dL_law_211 : dc cL_law 211 (.iconst 2) 1 212 := ⟨by decide +kernel, rfl⟩
theorem dL_law_212 : dc cL_law 212 (.iadd) 1 213 := ⟨by decide +kernel, rfl⟩
theorem dL_law_213 : dc cL_law 213 (.iaload) 1 214 := ⟨by decide +kernel, rfl⟩
theorem dL_law_214 : dc cL_law 214 (.aload_n 0) 1 215 := ⟨by decide +kernel, rfl⟩
theorem dL_law_215 : dc cL_law 215 (.iload_n 3) 1 216 := ⟨by decide +kernel, rfl⟩
theorem dL_law_216 : dc cL_law 216 (.iconst 3) 1 217 := ⟨by decide +kernel, rfl⟩
theorem dL_law_217 : dc cL_law 217 (.iadd) 1 218 := ⟨by decide +kernel, rfl⟩
theorem dL_law_218 : dc cL_law 218 (.iaload) 1 219 := ⟨by decide +kernel, rfl⟩
theorem dL_law_219 : dc cL_law 219 (.aload_n 0) 1 220 := ⟨by decide +kernel, rfl⟩
theorem dL_law_220 : dc cL_law 220 (.iload_n 3) 1 221 := ⟨by decide +kernel, rfl⟩
theorem dL_law_221 : dc cL_law 221 (.iconst 4) 1 222 := ⟨by decide +kernel, rfl⟩
theorem dL_law_222 : dc cL_law 222 (.iadd) 1 223 := ⟨by decide +kernel, rfl⟩
theorem dL_law_223 : dc cL_law 223 (.iaload) 1 224 := ⟨by decide +kernel, rfl⟩
theorem dL_law_224 : dc cL_law 224 (.invokevirtual 18) 3 227 := ⟨by decide +kernel, rfl⟩
theorem dL_law_227 : dc cL_law 227 (.aload_n 2) 1 228 := ⟨by decide +kernel, rfl⟩
theorem dL_law_228 : dc cL_law 228 (.aload_n 0) 1 229 := ⟨by decide +kernel, rfl⟩
theorem dL_law_229 : dc cL_law 229 (.iload_n 3) 1 230 := ⟨by decide +kernel, rfl⟩
theorem dL_law_230 : dc cL_law 230 (.iconst 1) 1 231 := ⟨by decide +kernel, rfl⟩
theorem dL_law_231 : dc cL_law 231 (.iadd) 1 232 := ⟨by decide +kernel, rfl⟩
theorem dL_law_232 : dc cL_law 232 (.iaload) 1 233 := ⟨by decide +kernel, rfl⟩
theorem dL_law_233 : dc cL_law 233 (.aload_n 0) 1 234 := ⟨by decide +kernel, rfl⟩
theorem dL_law_234 : dc cL_law 234 (.iload_n 3) 1 235 := ⟨by decide +kernel, rfl⟩
theorem dL_law_235 : dc cL_law 235 (.iconst 2) 1 236 := ⟨by decide +kernel, rfl⟩
theorem dL_law_236 : dc cL_law 236 (.iadd) 1 237 := ⟨by decide +kernel, rfl⟩
theorem dL_law_237 : dc cL_law 237 (.iaload) 1 238 := ⟨by decide +kernel, rfl⟩
theorem dL_law_238 : dc cL_law 238 (.aload_n 0) 1 239 := ⟨by decide +kernel, rfl⟩
theorem dL_law_239 : dc cL_law 239 (.iload_n 3) 1 240 := ⟨by decide +kernel, rfl⟩
theorem dL_law_240 : dc cL_law 240 (.iconst 3) 1 241 := ⟨by decide +kernel, rfl⟩
theorem dL_law_241 : dc cL_law 241 (.iadd) 1 242 := ⟨by decide +kernel, rfl⟩
theorem dL_law_242 : dc cL_law 242 (.iaload) 1 243 := ⟨by decide +kernel, rfl⟩
theorem dL_law_243 : dc cL_law 243 (.aload_n 0) 1 244 := ⟨by decide +kernel, rfl⟩
theorem dL_law_244 : dc cL_law 244 (.iload_n 3) 1 245 := ⟨by decide +kernel, rfl⟩
theorem dL_law_245 : dc cL_law 245 (.iconst 4) 1 246 := ⟨by decide +kernel, rfl⟩
theorem dL_law_246 : dc cL_law 246 (.iadd) 1 247 := ⟨by decide +kernel, rfl⟩
theorem dL_law_247 : dc cL_law 247 (.iaload) 1 248 := ⟨by decide +kernel, rfl⟩
theorem dL_law_248 : dc cL_law 248 (.invokevirtual 22) 3 251 := ⟨by decide +kernel, rfl⟩
theorem dL_law_251 : dc cL_law 251 (.if_icmp .eq 690) 3 254 := ⟨by decide +kernel, rfl⟩
theorem dL_law_254 : dc cL_law 254 (.iconst 0) 1 255 := ⟨by decide +kernel, rfl⟩
theorem dL_law_255 : dc cL_law 255 (.ireturn) 1 256 := ⟨by decide +kernel, rfl⟩
theorem dL_law_256 : dc cL_law 256 (.aload_n 1) 1 257 := ⟨by decide +kernel, rfl⟩
theorem dL_law_257 : dc cL_law 257 (.aload_n 0) 1 258 := ⟨by decide +kernel, rfl⟩
theorem dL_law_258 : dc cL_law 258 (.iload_n 3) 1 259 := ⟨by decide +kernel, rfl⟩
theorem dL_law_259 : dc cL_law 259 (.iconst 1) 1 260 := ⟨by decide +kernel, rfl⟩
theorem dL_law_260 : dc cL_law 260 (.iadd) 1 261 := ⟨by decide +kernel, rfl⟩
theorem dL_law_261 : dc cL_law 261 (.iaload) 1 262 := ⟨by decide +kernel, rfl⟩
theorem dL_law_262 : dc cL_law 262 (.invokevirtual 23) 3 265 := ⟨by decide +kernel, rfl⟩
theorem dL_law_265 : dc cL_law 265 (.aload_n 2) 1 266 := ⟨by decide +kernel, rfl⟩
theorem dL_law_266 : dc cL_law 266 (.aload_n 0) 1 267 := ⟨by decide +kernel, rfl⟩
theorem dL_law_267 : dc cL_law 267 (.iload_n 3) 1 268 := ⟨by decide +kernel, rfl⟩
theorem dL_law_268 : dc cL_law 268 (.iconst 1) 1 269 := ⟨by decide +kernel, rfl⟩
theorem dL_law_269 : dc cL_law 269 (.iadd) 1 270 := ⟨by decide +kernel, rfl⟩
theorem dL_law_270 : dc cL_law 270 (.iaload) 1 271 := ⟨by decide +kernel, rfl⟩
theorem dL_law_271 : dc cL_law 271 (.invokevirtual 27) 3 274 := ⟨by decide +kernel, rfl⟩
theorem dL_law_274 : dc cL_law 274 (.if_icmp .eq 667) 3 277 := ⟨by decide +kernel, rfl⟩
theorem dL_law_277 : dc cL_law 277 (.iconst 0) 1 278 := ⟨by decide +kernel, rfl⟩
theorem dL_law_278 : dc cL_law 278 (.ireturn) 1 279 := ⟨by decide +kernel, rfl⟩
theorem dL_law_279 : dc cL_law 279 (.aload_n 1) 1 280 := ⟨by decide +kernel, rfl⟩
theorem dL_law_280 : dc cL_law 280 (.invokevirtual 28) 3 283 := ⟨by decide +kernel, rfl⟩
theorem dL_law_283 : dc cL_law 283 (.aload_n 2) 1 284 := ⟨by decide +kernel, rfl⟩
theorem dL_law_284 : dc cL_law 284 (.invokevirtual 32) 3 287 := ⟨by decide +kernel, rfl⟩
theorem dL_law_287 : dc cL_law 287 (.if_icmp .eq 654) 3 290 := ⟨by decide +kernel, rfl⟩
theorem dL_law_290 : dc cL_law 290 (.iconst 0) 1 291 := ⟨by decide +kernel, rfl⟩
theorem dL_law_291 : dc cL_law 291 (.ireturn) 1 292 := ⟨by decide +kernel, rfl⟩
theorem dL_law_292 : dc cL_law 292 (.aload_n 1) 1 293 := ⟨by decide +kernel, rfl⟩
theorem dL_law_293 : dc cL_law 293 (.invokevirtual 33) 3 296 := ⟨by decide +kernel, rfl⟩
theorem dL_law_296 : dc cL_law 296 (.aload_n 2) 1 297 := ⟨by decide +kernel, rfl⟩
theorem dL_law_297 : dc cL_law 297 (.invokevirtual 36) 3 300 := ⟨by decide +kernel, rfl⟩
theorem dL_law_300 : dc cL_law 300 (.if_icmp .eq 641) 3 303 := ⟨by decide +kernel, rfl⟩
theorem dL_law_303 : dc cL_law 303 (.iconst 0) 1 304 := ⟨by decide +kernel, rfl⟩
theorem dL_law_304 : dc cL_law 304 (.ireturn) 1 305 := ⟨by decide +kernel, rfl⟩
theorem dL_law_305 : dc cL_law 305 (.aload_n 1) 1 306 := ⟨by decide +kernel, rfl⟩
theorem dL_law_306 : dc cL_law 306 (.aload_n 0) 1 307 := ⟨by decide +kernel, rfl⟩
theorem dL_law_307 : dc cL_law 307 (.iload_n 3) 1 308 := ⟨by decide +kernel, rfl⟩
theorem dL_law_308 : dc cL_law 308 (.iconst 1) 1 309 := ⟨by decide +kernel, rfl⟩
theorem dL_law_309 : dc cL_law 309 (.iadd) 1 310 := ⟨by decide +kernel, rfl⟩
theorem dL_law_310 : dc cL_law 310 (.iaload) 1 311 := ⟨by decide +kernel, rfl⟩
theorem dL_law_311 : dc cL_law 311 (.invokevirtual 37) 3 314 := ⟨by decide +kernel, rfl⟩
theorem dL_law_314 : dc cL_law 314 (.aload_n 2) 1 315 := ⟨by decide +kernel, rfl⟩
theorem dL_law_315 : dc cL_law 315 (.aload_n 0) 1 316 := ⟨by decide +kernel, rfl⟩
theorem dL_law_316 : dc cL_law 316 (.iload_n 3) 1 317 := ⟨by decide +kernel, rfl⟩
theorem dL_law_317 : dc cL_law 317 (.iconst 1) 1 318 := ⟨by decide +kernel, rfl⟩
theorem dL_law_318 : dc cL_law 318 (.iadd) 1 319 := ⟨by decide +kernel, rfl⟩
theorem dL_law_319 : dc cL_law 319 (.iaload) 1 320 := ⟨by decide +kernel, rfl⟩
theorem dL_law_320 : dc cL_law 320 (.invokevirtual 40) 3 323 := ⟨by decide +kernel, rfl⟩
theorem dL_law_323 : dc cL_law 323 (.if_icmp .eq 618) 3 326 := ⟨by decide +kernel, rfl⟩
theorem dL_law_326 : dc cL_law 326 (.iconst 0) 1 327 := ⟨by decide +kernel, rfl⟩
theorem dL_law_327 : dc cL_law 327 (.ireturn) 1 328 := ⟨by decide +kernel, rfl⟩
theorem dL_law_328 : dc cL_law 328 (.aload_n 1) 1 329 := ⟨by decide +kernel, rfl⟩
theorem dL_law_329 : dc cL_law 329 (.invokevirtual 41) 3 332 := ⟨by decide +kernel, rfl⟩
theorem dL_law_332 : dc cL_law 332 (.aload_n 2) 1 333 := ⟨by decide +kernel, rfl⟩
theorem dL_law_333 : dc cL_law 333 (.invokevirtual 44) 3 336 := ⟨by decide +kernel, rfl⟩
theorem dL_law_336 : dc cL_law 336 (.if_icmp .eq 605) 3 339 := ⟨by decide +kernel, rfl⟩
theorem dL_law_339 : dc cL_law 339 (.iconst 0) 1 340 := ⟨by decide +kernel, rfl⟩
theorem dL_law_340 : dc cL_law 340 (.ireturn) 1 341 := ⟨by decide +kernel, rfl⟩
theorem dL_law_341 : dc cL_law 341 (.aload_n 1) 1 342 := ⟨by decide +kernel, rfl⟩
theorem dL_law_342 : dc cL_law 342 (.aload_n 0) 1 343 := ⟨by decide +kernel, rfl⟩
theorem dL_law_343 : dc cL_law 343 (.iload_n 3) 1 344 := ⟨by decide +kernel, rfl⟩
theorem dL_law_344 : dc cL_law 344 (.iconst 1) 1 345 := ⟨by decide +kernel, rfl⟩
theorem dL_law_345 : dc cL_law 345 (.iadd) 1 346 := ⟨by decide +kernel, rfl⟩
theorem dL_law_346 : dc cL_law 346 (.iaload) 1 347 := ⟨by decide +kernel, rfl⟩
theorem dL_law_347 : dc cL_law 347 (.aload_n 0) 1 348 := ⟨by decide +kernel, rfl⟩
theorem dL_law_348 : dc cL_law 348 (.iload_n 3) 1 349 := ⟨by decide +kernel, rfl⟩
theorem dL_law_349 : dc cL_law 349 (.iconst 2) 1 350 := ⟨by decide +kernel, rfl⟩
theorem dL_law_350 : dc cL_law 350 (.iadd) 1 351 := ⟨by decide +kernel, rfl⟩
theorem dL_law_351 : dc cL_law 351 (.iaload) 1 352 := ⟨by decide +kernel, rfl⟩
theorem dL_law_352 : dc cL_law 352 (.invokevirtual 45) 3 355 := ⟨by decide +kernel, rfl⟩
theorem dL_law_355 : dc cL_law 355 (.aload_n 2) 1 356 := ⟨by decide +kernel, rfl⟩
theorem dL_law_356 : dc cL_law 356 (.aload_n 0) 1 357 := ⟨by decide +kernel, rfl⟩
theorem dL_law_357 : dc cL_law 357 (.iload_n 3) 1 358 := ⟨by decide +kernel, rfl⟩
theorem dL_law_358 : dc cL_law 358 (.iconst 1) 1 359 := ⟨by decide +kernel, rfl⟩
theorem dL_law_359 : dc cL_law 359 (.iadd) 1 360 := ⟨by decide +kernel, rfl⟩
theorem dL_law_360 : dc cL_law 360 (.iaload) 1 361 := ⟨by decide +kernel, rfl⟩
theorem dL_law_361 : dc cL_law 361 (.aload_n 0) 1 362 := ⟨by decide +kernel, rfl⟩
theorem dL_law_362 : dc cL_law 362 (.iload_n 3) 1 363 := ⟨by decide +kernel, rfl⟩
theorem dL_law_363 : dc cL_law 363 (.iconst 2) 1 364 := ⟨by decide +kernel, rfl⟩
theorem dL_law_364 : dc cL_law 364 (.iadd) 1 365 := ⟨by decide +kernel, rfl⟩
theorem dL_law_365 : dc cL_law 365 (.iaload) 1 366 := ⟨by decide +kernel, rfl⟩
theorem dL_law_366 : dc cL_law 366 (.invokevirtual 49) 3 369 := ⟨by decide +kernel, rfl⟩
theorem dL_law_369 : dc cL_law 369 (.if_icmp .eq 572) 3 372 := ⟨by decide +kernel, rfl⟩
theorem dL_law_372 : dc cL_law 372 (.iconst 0) 1 373 := ⟨by decide +kernel, rfl⟩
theorem dL_law_373 : dc cL_law 373 (.ireturn) 1 374 := ⟨by decide +kernel, rfl⟩
theorem dL_law_374 : dc cL_law 374 (.aload_n 1) 1 375 := ⟨by decide +kernel, rfl⟩
theorem dL_law_375 : dc cL_law 375 (.aload_n 0) 1 376 := ⟨by decide +kernel, rfl⟩
theorem dL_law_376 : dc cL_law 376 (.iload_n 3) 1 377 := ⟨by decide +kernel, rfl⟩
theorem dL_law_377 : dc cL_law 377 (.iconst 1) 1 378 := ⟨by decide +kernel, rfl⟩
theorem dL_law_378 : dc cL_law 378 (.iadd) 1 379 := ⟨by decide +kernel, rfl⟩
theorem dL_law_379 : dc cL_law 379 (.iaload) 1 380 := ⟨by decide +kernel, rfl⟩
theorem dL_law_380 : dc cL_law 380 (.invokevirtual 50) 3 383 := ⟨by decide +kernel, rfl⟩
theorem dL_law_383 : dc cL_law 383 (.aload_n 2) 1 384 := ⟨by decide +kernel, rfl⟩
theorem dL_law_384 : dc cL_law 384 (.aload_n 0) 1 385 := ⟨by decide +kernel, rfl⟩
theorem dL_law_385 : dc cL_law 385 (.iload_n 3) 1 386 := ⟨by decide +kernel, rfl⟩
theorem dL_law_386 : dc cL_law 386 (.iconst 1) 1 387 := ⟨by decide +kernel, rfl⟩
theorem dL_law_387 : dc cL_law 387 (.iadd) 1 388 := ⟨by decide +kernel, rfl⟩
theorem dL_law_388 : dc cL_law 388 (.iaload) 1 389 := ⟨by decide +kernel, rfl⟩
theorem dL_law_389 : dc cL_law 389 (.invokevirtual 53) 3 392 := ⟨by decide +kernel, rfl⟩
theorem dL_law_392 : dc cL_law 392 (.if_icmp .eq 549) 3 395 := ⟨by decide +kernel, rfl⟩
theorem dL_law_395 : dc cL_law 395 (.iconst 0) 1 396 := ⟨by decide +kernel, rfl⟩
theorem dL_law_396 : dc cL_law 396 (.ireturn) 1 397 := ⟨by decide +kernel, rfl⟩
theorem dL_law_397 : dc cL_law 397 (.aload_n 1) 1 398 := ⟨by decide +kernel, rfl⟩
theorem dL_law_398 : dc cL_law 398 (.aload_n 0) 1 399 := ⟨by decide +kernel, rfl⟩
theorem dL_law_399 : dc cL_law 399 (.iload_n 3) 1 400 := ⟨by decide +kernel, rfl⟩
theorem dL_law_400 : dc cL_law 400 (.iconst 1) 1 401 := ⟨by decide +kernel, rfl⟩
theorem dL_law_401 : dc cL_law 401 (.iadd) 1 402 := ⟨by decide +kernel, rfl⟩
theorem dL_law_402 : dc cL_law 402 (.iaload) 1 403 := ⟨by decide +kernel, rfl⟩
theorem dL_law_403 : dc cL_law 403 (.invokevirtual 54) 3 406 := ⟨by decide +kernel, rfl⟩
theorem dL_law_406 : dc cL_law 406 (.aload_n 2) 1 407 := ⟨by decide +kernel, rfl⟩
theorem dL_law_407 : dc cL_law 407 (.aload_n 0) 1 408 := ⟨by decide +kernel, rfl⟩
theorem dL_law_408 : dc cL_law 408 (.iload_n 3) 1 409 := ⟨by decide +kernel, rfl⟩
theorem dL_law_409 : dc cL_law 409 (.iconst 1) 1 410 := ⟨by decide +kernel, rfl⟩
theorem dL_law_410 : dc cL_law 410 (.iadd) 1 411 := ⟨by decide +kernel, rfl⟩
theorem dL_law_411 : dc cL_law 411 (.iaload) 1 412 := ⟨by decide +kernel, rfl⟩
theorem dL_law_412 : dc cL_law 412 (.invokevirtual 57) 3 415 := ⟨by decide +kernel, rfl⟩
theorem dL_law_415 : dc cL_law 415 (.if_icmp .eq 526) 3 418 := ⟨by decide +kernel, rfl⟩
theorem dL_law_418 : dc cL_law 418 (.iconst 0) 1 419 := ⟨by decide +kernel, rfl⟩
theorem dL_law_419 : dc cL_law 419 (.ireturn) 1 420 := ⟨by decide +kernel, rfl⟩
theorem dL_law_420 : dc cL_law 420 (.aload_n 1) 1 421 := ⟨by decide +kernel, rfl⟩
theorem dL_law_421 : dc cL_law 421 (.invokevirtual 58) 3 424 := ⟨by decide +kernel, rfl⟩
theorem dL_law_424 : dc cL_law 424 (.aload_n 2) 1 425 := ⟨by decide +kernel, rfl⟩
theorem dL_law_425 : dc cL_law 425 (.invokevirtual 61) 3 428 := ⟨by decide +kernel, rfl⟩
theorem dL_law_428 : dc cL_law 428 (.if_icmp .eq 513) 3 431 := ⟨by decide +kernel, rfl⟩
theorem dL_law_431 : dc cL_law 431 (.iconst 0) 1 432 := ⟨by decide +kernel, rfl⟩
theorem dL_law_432 : dc cL_law 432 (.ireturn) 1 433 := ⟨by decide +kernel, rfl⟩
theorem dL_law_433 : dc cL_law 433 (.aload_n 1) 1 434 := ⟨by decide +kernel, rfl⟩
theorem dL_law_434 : dc cL_law 434 (.aload_n 0) 1 435 := ⟨by decide +kernel, rfl⟩
theorem dL_law_435 : dc cL_law 435 (.iload_n 3) 1 436 := ⟨by decide +kernel, rfl⟩
theorem dL_law_436 : dc cL_law 436 (.iconst 1) 1 437 := ⟨by decide +kernel, rfl⟩
theorem dL_law_437 : dc cL_law 437 (.iadd) 1 438 := ⟨by decide +kernel, rfl⟩
theorem dL_law_438 : dc cL_law 438 (.iaload) 1 439 := ⟨by decide +kernel, rfl⟩
theorem dL_law_439 : dc cL_law 439 (.aload_n 0) 1 440 := ⟨by decide +kernel, rfl⟩
theorem dL_law_440 : dc cL_law 440 (.iload_n 3) 1 441 := ⟨by decide +kernel, rfl⟩
theorem dL_law_441 : dc cL_law 441 (.iconst 2) 1 442 := ⟨by decide +kernel, rfl⟩
theorem dL_law_442 : dc cL_law 442 (.iadd) 1 443 := ⟨by decide +kernel, rfl⟩
theorem dL_law_443 : dc cL_law 443 (.iaload) 1 444 := ⟨by decide +kernel, rfl⟩
theorem dL_law_444 : dc cL_law 444 (.invokevirtual 62) 3 447 := ⟨by decide +kernel, rfl⟩
theorem dL_law_447 : dc cL_law 447 (.aload_n 2) 1 448 := ⟨by decide +kernel, rfl⟩
theorem dL_law_448 : dc cL_law 448 (.aload_n 0) 1 449 := ⟨by decide +kernel, rfl⟩
theorem dL_law_449 : dc cL_law 449 (.iload_n 3) 1 450 := ⟨by decide +kernel, rfl⟩
theorem dL_law_450 : dc cL_law 450 (.iconst 1) 1 451 := ⟨by decide +kernel, rfl⟩
theorem dL_law_451 : dc cL_law 451 (.iadd) 1 452 := ⟨by decide +kernel, rfl⟩
theorem dL_law_452 : dc cL_law 452 (.iaload) 1 453 := ⟨by decide +kernel, rfl⟩
theorem dL_law_453 : dc cL_law 453 (.aload_n 0) 1 454 := ⟨by decide +kernel, rfl⟩
theorem dL_law_454 : dc cL_law 454 (.iload_n 3) 1 455 := ⟨by decide +kernel, rfl⟩
theorem dL_law_455 : dc cL_law 455 (.iconst 2) 1 456 := ⟨by decide +kernel, rfl⟩
theorem dL_law_456 : dc cL_law 456 (.iadd) 1 457 := ⟨by decide +kernel, rfl⟩
theorem dL_law_457 : dc cL_law 457 (.iaload) 1 458 := ⟨by decide +kernel, rfl⟩
theorem dL_law_458 : dc cL_law 458 (.invokevirtual 65) 3 461 := ⟨by decide +kernel, rfl⟩
theorem dL_law_461 : dc cL_law 461 (.if_icmp .eq 480) 3 464 := ⟨by decide +kernel, rfl⟩
theorem dL_law_464 : dc cL_law 464 (.iconst 0) 1 465 := ⟨by decide +kernel, rfl⟩
theorem dL_law_465 : dc cL_law 465 (.ireturn) 1 466 := ⟨by decide +kernel, rfl⟩
theorem dL_law_466 : dc cL_law 466 (.aload_n 1) 1 467 := ⟨by decide +kernel, rfl⟩
theorem dL_law_467 : dc cL_law 467 (.aload_n 0) 1 468 := ⟨by decide +kernel, rfl⟩
theorem dL_law_468 : dc cL_law 468 (.iload_n 3) 1 469 := ⟨by decide +kernel, rfl⟩
theorem dL_law_469 : dc cL_law 469 (.iconst 1) 1 470 := ⟨by decide +kernel, rfl⟩
theorem dL_law_470 : dc cL_law 470 (.iadd) 1 471 := ⟨by decide +kernel, rfl⟩
theorem dL_law_471 : dc cL_law 471 (.iaload) 1 472 := ⟨by decide +kernel, rfl⟩
theorem dL_law_472 : dc cL_law 472 (.aload_n 0) 1 473 := ⟨by decide +kernel, rfl⟩
theorem dL_law_473 : dc cL_law 473 (.iload_n 3) 1 474 := ⟨by decide +kernel, rfl⟩
theorem dL_law_474 : dc cL_law 474 (.iconst 2) 1 475 := ⟨by decide +kernel, rfl⟩
theorem dL_law_475 : dc cL_law 475 (.iadd) 1 476 := ⟨by decide +kernel, rfl⟩
theorem dL_law_476 : dc cL_law 476 (.iaload) 1 477 := ⟨by decide +kernel, rfl⟩
theorem dL_law_477 : dc cL_law 477 (.invokevirtual 66) 3 480 := ⟨by decide +kernel, rfl⟩
theorem dL_law_480 : dc cL_law 480 (.aload_n 2) 1 481 := ⟨by decide +kernel, rfl⟩
theorem dL_law_481 : dc cL_law 481 (.aload_n 0) 1 482 := ⟨by decide +kernel, rfl⟩
theorem dL_law_482 : dc cL_law 482 (.iload_n 3) 1 483 := ⟨by decide +kernel, rfl⟩
theorem dL_law_483 : dc cL_law 483 (.iconst 1) 1 484 := ⟨by decide +kernel, rfl⟩
theorem dL_law_484 : dc cL_law 484 (.iadd) 1 485 := ⟨by decide +kernel, rfl⟩
theorem dL_law_485 : dc cL_law 485 (.iaload) 1 486 := ⟨by decide +kernel, rfl⟩
theorem dL_law_486 : dc cL_law 486 (.aload_n 0) 1 487 := ⟨by decide +kernel, rfl⟩
theorem dL_law_487 : dc cL_law 487 (.iload_n 3) 1 488 := ⟨by decide +kernel, rfl⟩
theorem dL_law_488 : dc cL_law 488 (.iconst 2) 1 489 := ⟨by decide +kernel, rfl⟩
theorem dL_law_489 : dc cL_law 489 (.iadd) 1 490 := ⟨by decide +kernel, rfl⟩
theorem dL_law_490 : dc cL_law 490 (.iaload) 1 491 := ⟨by decide +kernel, rfl⟩
theorem dL_law_491 : dc cL_law 491 (.invokevirtual 69) 3 494 := ⟨by decide +kernel, rfl⟩
theorem dL_law_494 : dc cL_law 494 (.if_icmp .eq 447) 3 497 := ⟨by decide +kernel, rfl⟩
theorem dL_law_497 : dc cL_law 497 (.iconst 0) 1 498 := ⟨by decide +kernel, rfl⟩
theorem dL_law_498 : dc cL_law 498 (.ireturn) 1 499 := ⟨by decide +kernel, rfl⟩
theorem dL_law_499 : dc cL_law 499 (.aload_n 1) 1 500 := ⟨by decide +kernel, rfl⟩
theorem dL_law_500 : dc cL_law 500 (.aload_n 0) 1 501 := ⟨by decide +kernel, rfl⟩
theorem dL_law_501 : dc cL_law 501 (.iload_n 3) 1 502 := ⟨by decide +kernel, rfl⟩
theorem dL_law_502 : dc cL_law 502 (.iconst 1) 1 503 := ⟨by decide +kernel, rfl⟩
theorem dL_law_503 : dc cL_law 503 (.iadd) 1 504 := ⟨by decide +kernel, rfl⟩
theorem dL_law_504 : dc cL_law 504 (.iaload) 1 505 := ⟨by decide +kernel, rfl⟩
theorem dL_law_505 : dc cL_law 505 (.invokevirtual 70) 3 508 := ⟨by decide +kernel, rfl⟩
theorem dL_law_508 : dc cL_law 508 (.aload_n 2) 1 509 := ⟨by decide +kernel, rfl⟩
theorem dL_law_509 : dc cL_law 509 (.aload_n 0) 1 510 := ⟨by decide +kernel, rfl⟩
theorem dL_law_510 : dc cL_law 510 (.iload_n 3) 1 511 := ⟨by decide +kernel, rfl⟩
theorem dL_law_511 : dc cL_law 511 (.iconst 1) 1 512 := ⟨by decide +kernel, rfl⟩
theorem dL_law_512 : dc cL_law 512 (.iadd) 1 513 := ⟨by decide +kernel, rfl⟩
theorem dL_law_513 : dc cL_law 513 (.iaload) 1 514 := ⟨by decide +kernel, rfl⟩
theorem dL_law_514 : dc cL_law 514 (.invokevirtual 73) 3 517 := ⟨by decide +kernel, rfl⟩
theorem dL_law_517 : dc cL_law 517 (.if_icmp .eq 424) 3 520 := ⟨by decide +kernel, rfl⟩
theorem dL_law_520 : dc cL_law 520 (.iconst 0) 1 521 := ⟨by decide +kernel, rfl⟩
theorem dL_law_521 : dc cL_law 521 (.ireturn) 1 522 := ⟨by decide +kernel, rfl⟩
theorem dL_law_522 : dc cL_law 522 (.aload_n 1) 1 523 := ⟨by decide +kernel, rfl⟩
theorem dL_law_523 : dc cL_law 523 (.invokevirtual 74) 3 526 := ⟨by decide +kernel, rfl⟩
theorem dL_law_526 : dc cL_law 526 (.aload_n 2) 1 527 := ⟨by decide +kernel, rfl⟩
theorem dL_law_527 : dc cL_law 527 (.invokevirtual 77) 3 530 := ⟨by decide +kernel, rfl⟩
theorem dL_law_530 : dc cL_law 530 (.if_icmp .eq 411) 3 533 := ⟨by decide +kernel, rfl⟩
theorem dL_law_533 : dc cL_law 533 (.iconst 0) 1 534 := ⟨by decide +kernel, rfl⟩
theorem dL_law_534 : dc cL_law 534 (.ireturn) 1 535 := ⟨by decide +kernel, rfl⟩
theorem dL_law_535 : dc cL_law 535 (.aload_n 1) 1 536 := ⟨by decide +kernel, rfl⟩
theorem dL_law_536 : dc cL_law 536 (.aload_n 0) 1 537 := ⟨by decide +kernel, rfl⟩
theorem dL_law_537 : dc cL_law 537 (.iload_n 3) 1 538 := ⟨by decide +kernel, rfl⟩
theorem dL_law_538 : dc cL_law 538 (.iconst 1) 1 539 := ⟨by decide +kernel, rfl⟩
theorem dL_law_539 : dc cL_law 539 (.iadd) 1 540 := ⟨by decide +kernel, rfl⟩
theorem dL_law_540 : dc cL_law 540 (.iaload) 1 541 := ⟨by decide +kernel, rfl⟩
theorem dL_law_541 : dc cL_law 541 (.aload_n 0) 1 542 := ⟨by decide +kernel, rfl⟩
theorem dL_law_542 : dc cL_law 542 (.iload_n 3) 1 543 := ⟨by decide +kernel, rfl⟩
theorem dL_law_543 : dc cL_law 543 (.iconst 2) 1 544 := ⟨by decide +kernel, rfl⟩
theorem dL_law_544 : dc cL_law 544 (.iadd) 1 545 := ⟨by decide +kernel, rfl⟩
theorem dL_law_545 : dc cL_law 545 (.iaload) 1 546 := ⟨by decide +kernel, rfl⟩
theorem dL_law_546 : dc cL_law 546 (.invokevirtual 78) 3 549 := ⟨by decide +kernel, rfl⟩
theorem dL_law_549 : dc cL_law 549 (.aload_n 2) 1 550 := ⟨by decide +kernel, rfl⟩
theorem dL_law_550 : dc cL_law 550 (.aload_n 0) 1 551 := ⟨by decide +kernel, rfl⟩
theorem dL_law_551 : dc cL_law 551 (.iload_n 3) 1 552 := ⟨by decide +kernel, rfl⟩
theorem dL_law_552 : dc cL_law 552 (.iconst 1) 1 553 := ⟨by decide +kernel, rfl⟩
theorem dL_law_553 : dc cL_law 553 (.iadd) 1 554 := ⟨by decide +kernel, rfl⟩
theorem dL_law_554 : dc cL_law 554 (.iaload) 1 555 := ⟨by decide +kernel, rfl⟩
theorem dL_law_555 : dc cL_law 555 (.aload_n 0) 1 556 := ⟨by decide +kernel, rfl⟩
theorem dL_law_556 : dc cL_law 556 (.iload_n 3) 1 557 := ⟨by decide +kernel, rfl⟩
theorem dL_law_557 : dc cL_law 557 (.iconst 2) 1 558 := ⟨by decide +kernel, rfl⟩
theorem dL_law_558 : dc cL_law 558 (.iadd) 1 559 := ⟨by decide +kernel, rfl⟩
theorem dL_law_559 : dc cL_law 559 (.iaload) 1 560 := ⟨by decide +kernel, rfl⟩
theorem dL_law_560 : dc cL_law 560 (.invokevirtual 81) 3 563 := ⟨by decide +kernel, rfl⟩
theorem dL_law_563 : dc cL_law 563 (.if_icmp .eq 378) 3 566 := ⟨by decide +kernel, rfl⟩
theorem dL_law_566 : dc cL_law 566 (.iconst 0) 1 567 := ⟨by decide +kernel, rfl⟩
theorem dL_law_567 : dc cL_law 567 (.ireturn) 1 568 := ⟨by decide +kernel, rfl⟩
theorem dL_law_568 : dc cL_law 568 (.aload_n 1) 1 569 := ⟨by decide +kernel, rfl⟩
theorem dL_law_569 : dc cL_law 569 (.aload_n 0) 1 570 := ⟨by decide +kernel, rfl⟩
theorem dL_law_570 : dc cL_law 570 (.iload_n 3) 1 571 := ⟨by decide +kernel, rfl⟩
theorem dL_law_571 : dc cL_law 571 (.iconst 1) 1 572 := ⟨by decide +kernel, rfl⟩
theorem dL_law_572 : dc cL_law 572 (.iadd) 1 573 := ⟨by decide +kernel, rfl⟩
theorem dL_law_573 : dc cL_law 573 (.iaload) 1 574 := ⟨by decide +kernel, rfl⟩
theorem dL_law_574 : dc cL_law 574 (.aload_n 0) 1 575 := ⟨by decide +kernel, rfl⟩
theorem dL_law_575 : dc cL_law 575 (.iload_n 3) 1 576 := ⟨by decide +kernel, rfl⟩
theorem dL_law_576 : dc cL_law 576 (.iconst 2) 1 577 := ⟨by decide +kernel, rfl⟩
theorem dL_law_577 : dc cL_law 577 (.iadd) 1 578 := ⟨by decide +kernel, rfl⟩
theorem dL_law_578 : dc cL_law 578 (.iaload) 1 579 := ⟨by decide +kernel, rfl⟩
theorem dL_law_579 : dc cL_law 579 (.invokevirtual 82) 3 582 := ⟨by decide +kernel, rfl⟩
theorem dL_law_582 : dc cL_law 582 (.aload_n 2) 1 583 := ⟨by decide +kernel, rfl⟩
theorem dL_law_583 : dc cL_law 583 (.aload_n 0) 1 584 := ⟨by decide +kernel, rfl⟩
theorem dL_law_584 : dc cL_law 584 (.iload_n 3) 1 585 := ⟨by decide +kernel, rfl⟩
theorem dL_law_585 : dc cL_law 585 (.iconst 1) 1 586 := ⟨by decide +kernel, rfl⟩
theorem dL_law_586 : dc cL_law 586 (.iadd) 1 587 := ⟨by decide +kernel, rfl⟩
theorem dL_law_587 : dc cL_law 587 (.iaload) 1 588 := ⟨by decide +kernel, rfl⟩
theorem dL_law_588 : dc cL_law 588 (.aload_n 0) 1 589 := ⟨by decide +kernel, rfl⟩
theorem dL_law_589 : dc cL_law 589 (.iload_n 3) 1 590 := ⟨by decide +kernel, rfl⟩
theorem dL_law_590 : dc cL_law 590 (.iconst 2) 1 591 := ⟨by decide +kernel, rfl⟩
theorem dL_law_591 : dc cL_law 591 (.iadd) 1 592 := ⟨by decide +kernel, rfl⟩
theorem dL_law_592 : dc cL_law 592 (.iaload) 1 593 := ⟨by decide +kernel, rfl⟩
theorem dL_law_593 : dc cL_law 593 (.invokevirtual 85) 3 596 := ⟨by decide +kernel, rfl⟩
theorem dL_law_596 : dc cL_law 596 (.if_icmp .eq 345) 3 599 := ⟨by decide +kernel, rfl⟩
theorem dL_law_599 : dc cL_law 599 (.iconst 0) 1 600 := ⟨by decide +kernel, rfl⟩
theorem dL_law_600 : dc cL_law 600 (.ireturn) 1 601 := ⟨by decide +kernel, rfl⟩
theorem dL_law_601 : dc cL_law 601 (.aload_n 1) 1 602 := ⟨by decide +kernel, rfl⟩
theorem dL_law_602 : dc cL_law 602 (.aload_n 0) 1 603 := ⟨by decide +kernel, rfl⟩
theorem dL_law_603 : dc cL_law 603 (.iload_n 3) 1 604 := ⟨by decide +kernel, rfl⟩
theorem dL_law_604 : dc cL_law 604 (.iconst 1) 1 605 := ⟨by decide +kernel, rfl⟩
theorem dL_law_605 : dc cL_law 605 (.iadd) 1 606 := ⟨by decide +kernel, rfl⟩
theorem dL_law_606 : dc cL_law 606 (.iaload) 1 607 := ⟨by decide +kernel, rfl⟩
theorem dL_law_607 : dc cL_law 607 (.aload_n 0) 1 608 := ⟨by decide +kernel, rfl⟩
theorem dL_law_608 : dc cL_law 608 (.iload_n 3) 1 609 := ⟨by decide +kernel, rfl⟩
theorem dL_law_609 : dc cL_law 609 (.iconst 2) 1 610 := ⟨by decide +kernel, rfl⟩
theorem dL_law_610 : dc cL_law 610 (.iadd) 1 611 := ⟨by decide +kernel, rfl⟩
theorem dL_law_611 : dc cL_law 611 (.iaload) 1 612 := ⟨by decide +kernel, rfl⟩
theorem dL_law_612 : dc cL_law 612 (.invokevirtual 86) 3 615 := ⟨by decide +kernel, rfl⟩
theorem dL_law_615 : dc cL_law 615 (.aload_n 2) 1 616 := ⟨by decide +kernel, rfl⟩
theorem dL_law_616 : dc cL_law 616 (.aload_n 0) 1 617 := ⟨by decide +kernel, rfl⟩
theorem dL_law_617 : dc cL_law 617 (.iload_n 3) 1 618 := ⟨by decide +kernel, rfl⟩
theorem dL_law_618 : dc cL_law 618 (.iconst 1) 1 619 := ⟨by decide +kernel, rfl⟩
theorem dL_law_619 : dc cL_law 619 (.iadd) 1 620 := ⟨by decide +kernel, rfl⟩
theorem dL_law_620 : dc cL_law 620 (.iaload) 1 621 := ⟨by decide +kernel, rfl⟩
theorem dL_law_621 : dc cL_law 621 (.aload_n 0) 1 622 := ⟨by decide +kernel, rfl⟩
theorem dL_law_622 : dc cL_law 622 (.iload_n 3) 1 623 := ⟨by decide +kernel, rfl⟩
theorem dL_law_623 : dc cL_law 623 (.iconst 2) 1 624 := ⟨by decide +kernel, rfl⟩
theorem dL_law_624 : dc cL_law 624 (.iadd) 1 625 := ⟨by decide +kernel, rfl⟩
theorem dL_law_625 : dc cL_law 625 (.iaload) 1 626 := ⟨by decide +kernel, rfl⟩
theorem dL_law_626 : dc cL_law 626 (.invokevirtual 89) 3 629 := ⟨by decide +kernel, rfl⟩
theorem dL_law_629 : dc cL_law 629 (.if_icmp .eq 312) 3 632 := ⟨by decide +kernel, rfl⟩
theorem dL_law_632 : dc cL_law 632 (.iconst 0) 1 633 := ⟨by decide +kernel, rfl⟩
theorem dL_law_633 : dc cL_law 633 (.ireturn) 1 634 := ⟨by decide +kernel, rfl⟩
theorem dL_law_634 : dc cL_law 634 (.aload_n 1) 1 635 := ⟨by decide +kernel, rfl⟩
theorem dL_law_635 : dc cL_law 635 (.aload_n 0) 1 636 := ⟨by decide +kernel, rfl⟩
theorem dL_law_636 : dc cL_law 636 (.iload_n 3) 1 637 := ⟨by decide +kernel, rfl⟩
theorem dL_law_637 : dc cL_law 637 (.iconst 1) 1 638 := ⟨by decide +kernel, rfl⟩
theorem dL_law_638 : dc cL_law 638 (.iadd) 1 639 := ⟨by decide +kernel, rfl⟩
theorem dL_law_639 : dc cL_law 639 (.iaload) 1 640 := ⟨by decide +kernel, rfl⟩
theorem dL_law_640 : dc cL_law 640 (.invokevirtual 90) 3 643 := ⟨by decide +kernel, rfl⟩
theorem dL_law_643 : dc cL_law 643 (.aload_n 2) 1 644 := ⟨by decide +kernel, rfl⟩
theorem dL_law_644 : dc cL_law 644 (.aload_n 0) 1 645 := ⟨by decide +kernel, rfl⟩
theorem dL_law_645 : dc cL_law 645 (.iload_n 3) 1 646 := ⟨by decide +kernel, rfl⟩
theorem dL_law_646 : dc cL_law 646 (.iconst 1) 1 647 := ⟨by decide +kernel, rfl⟩
theorem dL_law_647 : dc cL_law 647 (.iadd) 1 648 := ⟨by decide +kernel, rfl⟩
theorem dL_law_648 : dc cL_law 648 (.iaload) 1 649 := ⟨by decide +kernel, rfl⟩
theorem dL_law_649 : dc cL_law 649 (.invokevirtual 93) 3 652 := ⟨by decide +kernel, rfl⟩
theorem dL_law_652 : dc cL_law 652 (.if_icmp .eq 289) 3 655 := ⟨by decide +kernel, rfl⟩
theorem dL_law_655 : dc cL_law 655 (.iconst 0) 1 656 := ⟨by decide +kernel, rfl⟩
theorem dL_law_656 : dc cL_law 656 (.ireturn) 1 657 := ⟨by decide +kernel, rfl⟩
theorem dL_law_657 : dc cL_law 657 (.aload_n 1) 1 658 := ⟨by decide +kernel, rfl⟩
theorem dL_law_658 : dc cL_law 658 (.aload_n 0) 1 659 := ⟨by decide +kernel, rfl⟩
theorem dL_law_659 : dc cL_law 659 (.iload_n 3) 1 660 := ⟨by decide +kernel, rfl⟩
theorem dL_law_660 : dc cL_law 660 (.iconst 1) 1 661 := ⟨by decide +kernel, rfl⟩
theorem dL_law_661 : dc cL_law 661 (.iadd) 1 662 := ⟨by decide +kernel, rfl⟩
theorem dL_law_662 : dc cL_law 662 (.iaload) 1 663 := ⟨by decide +kernel, rfl⟩
theorem dL_law_663 : dc cL_law 663 (.aload_n 0) 1 664 := ⟨by decide +kernel, rfl⟩
theorem dL_law_664 : dc cL_law 664 (.iload_n 3) 1 665 := ⟨by decide +kernel, rfl⟩
theorem dL_law_665 : dc cL_law 665 (.iconst 2) 1 666 := ⟨by decide +kernel, rfl⟩
theorem dL_law_666 : dc cL_law 666 (.iadd) 1 667 := ⟨by decide +kernel, rfl⟩
theorem dL_law_667 : dc cL_law 667 (.iaload) 1 668 := ⟨by decide +kernel, rfl⟩
theorem dL_law_668 : dc cL_law 668 (.ifCond .eq 7) 3 671 := ⟨by decide +kernel, rfl⟩
theorem dL_law_671 : dc cL_law 671 (.iconst 1) 1 672 := ⟨by decide +kernel, rfl⟩
theorem dL_law_672 : dc cL_law 672 (.goto 4) 3 675 := ⟨by decide +kernel, rfl⟩
theorem dL_law_675 : dc cL_law 675 (.iconst 0) 1 676 := ⟨by decide +kernel, rfl⟩
theorem dL_law_676 : dc cL_law 676 (.invokevirtual 94) 3 679 := ⟨by decide +kernel, rfl⟩
theorem dL_law_679 : dc cL_law 679 (.aload_n 2) 1 680 := ⟨by decide +kernel, rfl⟩
theorem dL_law_680 : dc cL_law 680 (.aload_n 0) 1 681 := ⟨by decide +kernel, rfl⟩
theorem dL_law_681 : dc cL_law 681 (.iload_n 3) 1 682 := ⟨by decide +kernel, rfl⟩
theorem dL_law_682 : dc cL_law 682 (.iconst 1) 1 683 := ⟨by decide +kernel, rfl⟩
theorem dL_law_683 : dc cL_law 683 (.iadd) 1 684 := ⟨by decide +kernel, rfl⟩
theorem dL_law_684 : dc cL_law 684 (.iaload) 1 685 := ⟨by decide +kernel, rfl⟩
theorem dL_law_685 : dc cL_law 685 (.aload_n 0) 1 686 := ⟨by decide +kernel, rfl⟩
theorem dL_law_686 : dc cL_law 686 (.iload_n 3) 1 687 := ⟨by decide +kernel, rfl⟩
theorem dL_law_687 : dc cL_law 687 (.iconst 2) 1 688 := ⟨by decide +kernel, rfl⟩
theorem dL_law_688 : dc cL_law 688 (.iadd) 1 689 := ⟨by decide +kernel, rfl⟩
theorem dL_law_689 : dc cL_law 689 (.iaload) 1 690 := ⟨by decide +kernel, rfl⟩
theorem dL_law_690 : dc cL_law 690 (.ifCond .eq 7) 3 693 := ⟨by decide +kernel, rfl⟩
theorem dL_law_693 : dc cL_law 693 (.iconst 1) 1 694 := ⟨by decide +kernel, rfl⟩
theorem dL_law_694 : dc cL_law 694 (.goto 4) 3 697 := ⟨by decide +kernel, rfl⟩
theorem dL_law_697 : dc cL_law 697 (.iconst 0) 1 698 := ⟨by decide +kernel, rfl⟩
theorem dL_law_698 : dc cL_law 698 (.invokevirtual 98) 3 701 := ⟨by decide +kernel, rfl⟩
theorem dL_law_701 : dc cL_law 701 (.if_icmp .eq 240) 3 704 := ⟨by decide +kernel, rfl⟩
theorem dL_law_704 : dc cL_law 704 (.iconst 0) 1 705 := ⟨by decide +kernel, rfl⟩
theorem dL_law_705 : dc cL_law 705 (.ireturn) 1 706 := ⟨by decide +kernel, rfl⟩
theorem dL_law_706 : dc cL_law 706 (.aload_n 1) 1 707 := ⟨by decide +kernel, rfl⟩
theorem dL_law_707 : dc cL_law 707 (.invokevirtual 99) 3 710 := ⟨by decide +kernel, rfl⟩
theorem dL_law_710 : dc cL_law 710 (.aload_n 2) 1 711 := ⟨by decide +kernel, rfl⟩
theorem dL_law_711 : dc cL_law 711 (.invokevirtual 102) 3 714 := ⟨by decide +kernel, rfl⟩
theorem dL_law_714 : dc cL_law 714 (.if_icmp .eq 227) 3 717 := ⟨by decide +kernel, rfl⟩
theorem dL_law_717 : dc cL_law 717 (.iconst 0) 1 718 := ⟨by decide +kernel, rfl⟩
theorem dL_law_718 : dc cL_law 718 (.ireturn) 1 719 := ⟨by decide +kernel, rfl⟩
theorem dL_law_719 : dc cL_law 719 (.aload_n 1) 1 720 := ⟨by decide +kernel, rfl⟩
theorem dL_law_720 : dc cL_law 720 (.aload_n 0) 1 721 := ⟨by decide +kernel, rfl⟩
theorem dL_law_721 : dc cL_law 721 (.iload_n 3) 1 722 := ⟨by decide +kernel, rfl⟩
theorem dL_law_722 : dc cL_law 722 (.iconst 1) 1 723 := ⟨by decide +kernel, rfl⟩
theorem dL_law_723 : dc cL_law 723 (.iadd) 1 724 := ⟨by decide +kernel, rfl⟩
theorem dL_law_724 : dc cL_law 724 (.iaload) 1 725 := ⟨by decide +kernel, rfl⟩
theorem dL_law_725 : dc cL_law 725 (.invokevirtual 103) 3 728 := ⟨by decide +kernel, rfl⟩
theorem dL_law_728 : dc cL_law 728 (.aload_n 2) 1 729 := ⟨by decide +kernel, rfl⟩
theorem dL_law_729 : dc cL_law 729 (.aload_n 0) 1 730 := ⟨by decide +kernel, rfl⟩
theorem dL_law_730 : dc cL_law 730 (.iload_n 3) 1 731 := ⟨by decide +kernel, rfl⟩
theorem dL_law_731 : dc cL_law 731 (.iconst 1) 1 732 := ⟨by decide +kernel, rfl⟩
theorem dL_law_732 : dc cL_law 732 (.iadd) 1 733 := ⟨by decide +kernel, rfl⟩
theorem dL_law_733 : dc cL_law 733 (.iaload) 1 734 := ⟨by decide +kernel, rfl⟩
theorem dL_law_734 : dc cL_law 734 (.invokevirtual 106) 3 737 := ⟨by decide +kernel, rfl⟩
theorem dL_law_737 : dc cL_law 737 (.if_icmp .eq 204) 3 740 := ⟨by decide +kernel, rfl⟩
theorem dL_law_740 : dc cL_law 740 (.iconst 0) 1 741 := ⟨by decide +kernel, rfl⟩
theorem dL_law_741 : dc cL_law 741 (.ireturn) 1 742 := ⟨by decide +kernel, rfl⟩
theorem dL_law_742 : dc cL_law 742 (.aload_n 1) 1 743 := ⟨by decide +kernel, rfl⟩
theorem dL_law_743 : dc cL_law 743 (.aload_n 0) 1 744 := ⟨by decide +kernel, rfl⟩
theorem dL_law_744 : dc cL_law 744 (.iload_n 3) 1 745 := ⟨by decide +kernel, rfl⟩
theorem dL_law_745 : dc cL_law 745 (.iconst 1) 1 746 := ⟨by decide +kernel, rfl⟩
theorem dL_law_746 : dc cL_law 746 (.iadd) 1 747 := ⟨by decide +kernel, rfl⟩
theorem dL_law_747 : dc cL_law 747 (.iaload) 1 748 := ⟨by decide +kernel, rfl⟩
theorem dL_law_748 : dc cL_law 748 (.invokevirtual 107) 3 751 := ⟨by decide +kernel, rfl⟩
theorem dL_law_751 : dc cL_law 751 (.aload_n 2) 1 752 := ⟨by decide +kernel, rfl⟩
theorem dL_law_752 : dc cL_law 752 (.aload_n 0) 1 753 := ⟨by decide +kernel, rfl⟩
theorem dL_law_753 : dc cL_law 753 (.iload_n 3) 1 754 := ⟨by decide +kernel, rfl⟩
theorem dL_law_754 : dc cL_law 754 (.iconst 1) 1 755 := ⟨by decide +kernel, rfl⟩
theorem dL_law_755 : dc cL_law 755 (.iadd) 1 756 := ⟨by decide +kernel, rfl⟩
theorem dL_law_756 : dc cL_law 756 (.iaload) 1 757 := ⟨by decide +kernel, rfl⟩
theorem dL_law_757 : dc cL_law 757 (.invokevirtual 110) 3 760 := ⟨by decide +kernel, rfl⟩
theorem dL_law_760 : dc cL_law 760 (.if_icmp .eq 181) 3 763 := ⟨by decide +kernel, rfl⟩
theorem dL_law_763 : dc cL_law 763 (.iconst 0) 1 764 := ⟨by decide +kernel, rfl⟩
theorem dL_law_764 : dc cL_law 764 (.ireturn) 1 765 := ⟨by decide +kernel, rfl⟩
theorem dL_law_765 : dc cL_law 765 (.aload_n 1) 1 766 := ⟨by decide +kernel, rfl⟩
theorem dL_law_766 : dc cL_law 766 (.aload_n 0) 1 767 := ⟨by decide +kernel, rfl⟩
theorem dL_law_767 : dc cL_law 767 (.iload_n 3) 1 768 := ⟨by decide +kernel, rfl⟩
theorem dL_law_768 : dc cL_law 768 (.iconst 1) 1 769 := ⟨by decide +kernel, rfl⟩
theorem dL_law_769 : dc cL_law 769 (.iadd) 1 770 := ⟨by decide +kernel, rfl⟩
theorem dL_law_770 : dc cL_law 770 (.iaload) 1 771 := ⟨by decide +kernel, rfl⟩
theorem dL_law_771 : dc cL_law 771 (.aload_n 0) 1 772 := ⟨by decide +kernel, rfl⟩
theorem dL_law_772 : dc cL_law 772 (.iload_n 3) 1 773 := ⟨by decide +kernel, rfl⟩
theorem dL_law_773 : dc cL_law 773 (.iconst 2) 1 774 := ⟨by decide +kernel, rfl⟩
theorem dL_law_774 : dc cL_law 774 (.iadd) 1 775 := ⟨by decide +kernel, rfl⟩
theorem dL_law_775 : dc cL_law 775 (.iaload) 1 776 := ⟨by decide +kernel, rfl⟩
theorem dL_law_776 : dc cL_law 776 (.aload_n 0) 1 777 := ⟨by decide +kernel, rfl⟩
theorem dL_law_777 : dc cL_law 777 (.iload_n 3) 1 778 := ⟨by decide +kernel, rfl⟩
theorem dL_law_778 : dc cL_law 778 (.iconst 3) 1 779 := ⟨by decide +kernel, rfl⟩
theorem dL_law_779 : dc cL_law 779 (.iadd) 1 780 := ⟨by decide +kernel, rfl⟩
theorem dL_law_780 : dc cL_law 780 (.iaload) 1 781 := ⟨by decide +kernel, rfl⟩
theorem dL_law_781 : dc cL_law 781 (.aload_n 0) 1 782 := ⟨by decide +kernel, rfl⟩
theorem dL_law_782 : dc cL_law 782 (.iload_n 3) 1 783 := ⟨by decide +kernel, rfl⟩
theorem dL_law_783 : dc cL_law 783 (.iconst 4) 1 784 := ⟨by decide +kernel, rfl⟩
theorem dL_law_784 : dc cL_law 784 (.iadd) 1 785 := ⟨by decide +kernel, rfl⟩
theorem dL_law_785 : dc cL_law 785 (.iaload) 1 786 := ⟨by decide +kernel, rfl⟩
theorem dL_law_786 : dc cL_law 786 (.aload_n 0) 1 787 := ⟨by decide +kernel, rfl⟩
theorem dL_law_787 : dc cL_law 787 (.iload_n 3) 1 788 := ⟨by decide +kernel, rfl⟩
theorem dL_law_788 : dc cL_law 788 (.iconst 5) 1 789 := ⟨by decide +kernel, rfl⟩
theorem dL_law_789 : dc cL_law 789 (.iadd) 1 790 := ⟨by decide +kernel, rfl⟩
theorem dL_law_790 : dc cL_law 790 (.iaload) 1 791 := ⟨by decide +kernel, rfl⟩
theorem dL_law_791 : dc cL_law 791 (.invokevirtual 111) 3 794 := ⟨by decide +kernel, rfl⟩
theorem dL_law_794 : dc cL_law 794 (.aload_n 2) 1 795 := ⟨by decide +kernel, rfl⟩
theorem dL_law_795 : dc cL_law 795 (.aload_n 0) 1 796 := ⟨by decide +kernel, rfl⟩
theorem dL_law_796 : dc cL_law 796 (.iload_n 3) 1 797 := ⟨by decide +kernel, rfl⟩
theorem dL_law_797 : dc cL_law 797 (.iconst 1) 1 798 := ⟨by decide +kernel, rfl⟩
theorem dL_law_798 : dc cL_law 798 (.iadd) 1 799 := ⟨by decide +kernel, rfl⟩
theorem dL_law_799 : dc cL_law 799 (.iaload) 1 800 := ⟨by decide +kernel, rfl⟩
theorem dL_law_800 : dc cL_law 800 (.aload_n 0) 1 801 := ⟨by decide +kernel, rfl⟩
theorem dL_law_801 : dc cL_law 801 (.iload_n 3) 1 802 := ⟨by decide +kernel, rfl⟩
theorem dL_law_802 : dc cL_law 802 (.iconst 2) 1 803 := ⟨by decide +kernel, rfl⟩
theorem dL_law_803 : dc cL_law 803 (.iadd) 1 804 := ⟨by decide +kernel, rfl⟩
theorem dL_law_804 : dc cL_law 804 (.iaload) 1 805 := ⟨by decide +kernel, rfl⟩
theorem dL_law_805 : dc cL_law 805 (.aload_n 0) 1 806 := ⟨by decide +kernel, rfl⟩
theorem dL_law_806 : dc cL_law 806 (.iload_n 3) 1 807 := ⟨by decide +kernel, rfl⟩
theorem dL_law_807 : dc cL_law 807 (.iconst 3) 1 808 := ⟨by decide +kernel, rfl⟩
theorem dL_law_808 : dc cL_law 808 (.iadd) 1 809 := ⟨by decide +kernel, rfl⟩
theorem dL_law_809 : dc cL_law 809 (.iaload) 1 810 := ⟨by decide +kernel, rfl⟩
theorem dL_law_810 : dc cL_law 810 (.aload_n 0) 1 811 := ⟨by decide +kernel, rfl⟩
theorem dL_law_811 : dc cL_law 811 (.iload_n 3) 1 812 := ⟨by decide +kernel, rfl⟩
theorem dL_law_812 : dc cL_law 812 (.iconst 4) 1 813 := ⟨by decide +kernel, rfl⟩
theorem dL_law_813 : dc cL_law 813 (.iadd) 1 814 := ⟨by decide +kernel, rfl⟩
theorem dL_law_814 : dc cL_law 814 (.iaload) 1 815 := ⟨by decide +kernel, rfl⟩
theorem dL_law_815 : dc cL_law 815 (.aload_n 0) 1 816 := ⟨by decide +kernel, rfl⟩
theorem dL_law_816 : dc cL_law 816 (.iload_n 3) 1 817 := ⟨by decide +kernel, rfl⟩
theorem dL_law_817 : dc cL_law 817 (.iconst 5) 1 818 := ⟨by decide +kernel, rfl⟩
theorem dL_law_818 : dc cL_law 818 (.iadd) 1 819 := ⟨by decide +kernel, rfl⟩
theorem dL_law_819 : dc cL_law 819 (.iaload) 1 820 := ⟨by decide +kernel, rfl⟩
theorem dL_law_820 : dc cL_law 820 (.invokevirtual 115) 3 823 := ⟨by decide +kernel, rfl⟩
theorem dL_law_823 : dc cL_law 823 (.lcmp) 1 824 := ⟨by decide +kernel, rfl⟩
theorem dL_law_824 : dc cL_law 824 (.ifCond .eq 117) 3 827 := ⟨by decide +kernel, rfl⟩
theorem dL_law_827 : dc cL_law 827 (.iconst 0) 1 828 := ⟨by decide +kernel, rfl⟩
theorem dL_law_828 : dc cL_law 828 (.ireturn) 1 829 := ⟨by decide +kernel, rfl⟩
theorem dL_law_829 : dc cL_law 829 (.aload_n 1) 1 830 := ⟨by decide +kernel, rfl⟩
theorem dL_law_830 : dc cL_law 830 (.aload_n 0) 1 831 := ⟨by decide +kernel, rfl⟩
theorem dL_law_831 : dc cL_law 831 (.iload_n 3) 1 832 := ⟨by decide +kernel, rfl⟩
theorem dL_law_832 : dc cL_law 832 (.iconst 1) 1 833 := ⟨by decide +kernel, rfl⟩
theorem dL_law_833 : dc cL_law 833 (.iadd) 1 834 := ⟨by decide +kernel, rfl⟩
theorem dL_law_834 : dc cL_law 834 (.iaload) 1 835 := ⟨by decide +kernel, rfl⟩
theorem dL_law_835 : dc cL_law 835 (.aload_n 0) 1 836 := ⟨by decide +kernel, rfl⟩
theorem dL_law_836 : dc cL_law 836 (.iload_n 3) 1 837 := ⟨by decide +kernel, rfl⟩
theorem dL_law_837 : dc cL_law 837 (.iconst 2) 1 838 := ⟨by decide +kernel, rfl⟩
theorem dL_law_838 : dc cL_law 838 (.iadd) 1 839 := ⟨by decide +kernel, rfl⟩
theorem dL_law_839 : dc cL_law 839 (.iaload) 1 840 := ⟨by decide +kernel, rfl⟩
theorem dL_law_840 : dc cL_law 840 (.aload_n 0) 1 841 := ⟨by decide +kernel, rfl⟩
theorem dL_law_841 : dc cL_law 841 (.iload_n 3) 1 842 := ⟨by decide +kernel, rfl⟩
theorem dL_law_842 : dc cL_law 842 (.iconst 3) 1 843 := ⟨by decide +kernel, rfl⟩
theorem dL_law_843 : dc cL_law 843 (.iadd) 1 844 := ⟨by decide +kernel, rfl⟩
theorem dL_law_844 : dc cL_law 844 (.iaload) 1 845 := ⟨by decide +kernel, rfl⟩
theorem dL_law_845 : dc cL_law 845 (.invokevirtual 116) 3 848 := ⟨by decide +kernel, rfl⟩
theorem dL_law_848 : dc cL_law 848 (.aload_n 2) 1 849 := ⟨by decide +kernel, rfl⟩
theorem dL_law_849 : dc cL_law 849 (.aload_n 0) 1 850 := ⟨by decide +kernel, rfl⟩
theorem dL_law_850 : dc cL_law 850 (.iload_n 3) 1 851 := ⟨by decide +kernel, rfl⟩
theorem dL_law_851 : dc cL_law 851 (.iconst 1) 1 852 := ⟨by decide +kernel, rfl⟩
theorem dL_law_852 : dc cL_law 852 (.iadd) 1 853 := ⟨by decide +kernel, rfl⟩
theorem dL_law_853 : dc cL_law 853 (.iaload) 1 854 := ⟨by decide +kernel, rfl⟩
theorem dL_law_854 : dc cL_law 854 (.aload_n 0) 1 855 := ⟨by decide +kernel, rfl⟩
theorem dL_law_855 : dc cL_law 855 (.iload_n 3) 1 856 := ⟨by decide +kernel, rfl⟩
theorem dL_law_856 : dc cL_law 856 (.iconst 2) 1 857 := ⟨by decide +kernel, rfl⟩
theorem dL_law_857 : dc cL_law 857 (.iadd) 1 858 := ⟨by decide +kernel, rfl⟩
theorem dL_law_858 : dc cL_law 858 (.iaload) 1 859 := ⟨by decide +kernel, rfl⟩
theorem dL_law_859 : dc cL_law 859 (.aload_n 0) 1 860 := ⟨by decide +kernel, rfl⟩
theorem dL_law_860 : dc cL_law 860 (.iload_n 3) 1 861 := ⟨by decide +kernel, rfl⟩
theorem dL_law_861 : dc cL_law 861 (.iconst 3) 1 862 := ⟨by decide +kernel, rfl⟩
theorem dL_law_862 : dc cL_law 862 (.iadd) 1 863 := ⟨by decide +kernel, rfl⟩
theorem dL_law_863 : dc cL_law 863 (.iaload) 1 864 := ⟨by decide +kernel, rfl⟩
theorem dL_law_864 : dc cL_law 864 (.invokevirtual 119) 3 867 := ⟨by decide +kernel, rfl⟩
theorem dL_law_867 : dc cL_law 867 (.if_icmp .eq 74) 3 870 := ⟨by decide +kernel, rfl⟩
theorem dL_law_870 : dc cL_law 870 (.iconst 0) 1 871 := ⟨by decide +kernel, rfl⟩
theorem dL_law_871 : dc cL_law 871 (.ireturn) 1 872 := ⟨by decide +kernel, rfl⟩
theorem dL_law_872 : dc cL_law 872 (.aload_n 1) 1 873 := ⟨by decide +kernel, rfl⟩
theorem dL_law_873 : dc cL_law 873 (.aload_n 0) 1 874 := ⟨by decide +kernel, rfl⟩
theorem dL_law_874 : dc cL_law 874 (.iload_n 3) 1 875 := ⟨by decide +kernel, rfl⟩
theorem dL_law_875 : dc cL_law 875 (.iconst 1) 1 876 := ⟨by decide +kernel, rfl⟩
theorem dL_law_876 : dc cL_law 876 (.iadd) 1 877 := ⟨by decide +kernel, rfl⟩
theorem dL_law_877 : dc cL_law 877 (.iaload) 1 878 := ⟨by decide +kernel, rfl⟩
theorem dL_law_878 : dc cL_law 878 (.invokevirtual 120) 3 881 := ⟨by decide +kernel, rfl⟩
theorem dL_law_881 : dc cL_law 881 (.aload_n 2) 1 882 := ⟨by decide +kernel, rfl⟩
theorem dL_law_882 : dc cL_law 882 (.aload_n 0) 1 883 := ⟨by decide +kernel, rfl⟩
theorem dL_law_883 : dc cL_law 883 (.iload_n 3) 1 884 := ⟨by decide +kernel, rfl⟩
theorem dL_law_884 : dc cL_law 884 (.iconst 1) 1 885 := ⟨by decide +kernel, rfl⟩
theorem dL_law_885 : dc cL_law 885 (.iadd) 1 886 := ⟨by decide +kernel, rfl⟩
theorem dL_law_886 : dc cL_law 886 (.iaload) 1 887 := ⟨by decide +kernel, rfl⟩
theorem dL_law_887 : dc cL_law 887 (.invokevirtual 123) 3 890 := ⟨by decide +kernel, rfl⟩
theorem dL_law_890 : dc cL_law 890 (.if_icmp .eq 51) 3 893 := ⟨by decide +kernel, rfl⟩
theorem dL_law_893 : dc cL_law 893 (.iconst 0) 1 894 := ⟨by decide +kernel, rfl⟩
theorem dL_law_894 : dc cL_law 894 (.ireturn) 1 895 := ⟨by decide +kernel, rfl⟩
theorem dL_law_895 : dc cL_law 895 (.aload_n 1) 1 896 := ⟨by decide +kernel, rfl⟩
theorem dL_law_896 : dc cL_law 896 (.aload_n 0) 1 897 := ⟨by decide +kernel, rfl⟩
theorem dL_law_897 : dc cL_law 897 (.iload_n 3) 1 898 := ⟨by decide +kernel, rfl⟩
theorem dL_law_898 : dc cL_law 898 (.iconst 1) 1 899 := ⟨by decide +kernel, rfl⟩
theorem dL_law_899 : dc cL_law 899 (.iadd) 1 900 := ⟨by decide +kernel, rfl⟩
theorem dL_law_900 : dc cL_law 900 (.iaload) 1 901 := ⟨by decide +kernel, rfl⟩
theorem dL_law_901 : dc cL_law 901 (.invokevirtual 124) 3 904 := ⟨by decide +kernel, rfl⟩
theorem dL_law_904 : dc cL_law 904 (.aload_n 2) 1 905 := ⟨by decide +kernel, rfl⟩
theorem dL_law_905 : dc cL_law 905 (.aload_n 0) 1 906 := ⟨by decide +kernel, rfl⟩
theorem dL_law_906 : dc cL_law 906 (.iload_n 3) 1 907 := ⟨by decide +kernel, rfl⟩
theorem dL_law_907 : dc cL_law 907 (.iconst 1) 1 908 := ⟨by decide +kernel, rfl⟩
theorem dL_law_908 : dc cL_law 908 (.iadd) 1 909 := ⟨by decide +kernel, rfl⟩
theorem dL_law_909 : dc cL_law 909 (.iaload) 1 910 := ⟨by decide +kernel, rfl⟩
theorem dL_law_910 : dc cL_law 910 (.invokevirtual 127) 3 913 := ⟨by decide +kernel, rfl⟩
theorem dL_law_913 : dc cL_law 913 (.if_icmp .eq 28) 3 916 := ⟨by decide +kernel, rfl⟩
theorem dL_law_916 : dc cL_law 916 (.iconst 0) 1 917 := ⟨by decide +kernel, rfl⟩
theorem dL_law_917 : dc cL_law 917 (.ireturn) 1 918 := ⟨by decide +kernel, rfl⟩
theorem dL_law_918 : dc cL_law 918 (.aload_n 1) 1 919 := ⟨by decide +kernel, rfl⟩
theorem dL_law_919 : dc cL_law 919 (.aload_n 0) 1 920 := ⟨by decide +kernel, rfl⟩
theorem dL_law_920 : dc cL_law 920 (.iload_n 3) 1 921 := ⟨by decide +kernel, rfl⟩
theorem dL_law_921 : dc cL_law 921 (.iconst 1) 1 922 := ⟨by decide +kernel, rfl⟩
theorem dL_law_922 : dc cL_law 922 (.iadd) 1 923 := ⟨by decide +kernel, rfl⟩
theorem dL_law_923 : dc cL_law 923 (.iaload) 1 924 := ⟨by decide +kernel, rfl⟩
theorem dL_law_924 : dc cL_law 924 (.invokevirtual 128) 3 927 := ⟨by decide +kernel, rfl⟩
theorem dL_law_927 : dc cL_law 927 (.aload_n 2) 1 928 := ⟨by decide +kernel, rfl⟩
theorem dL_law_928 : dc cL_law 928 (.aload_n 0) 1 929 := ⟨by decide +kernel, rfl⟩
theorem dL_law_929 : dc cL_law 929 (.iload_n 3) 1 930 := ⟨by decide +kernel, rfl⟩
theorem dL_law_930 : dc cL_law 930 (.iconst 1) 1 931 := ⟨by decide +kernel, rfl⟩
theorem dL_law_931 : dc cL_law 931 (.iadd) 1 932 := ⟨by decide +kernel, rfl⟩
theorem dL_law_932 : dc cL_law 932 (.iaload) 1 933 := ⟨by decide +kernel, rfl⟩
theorem dL_law_933 : dc cL_law 933 (.invokevirtual 131) 3 936 := ⟨by decide +kernel, rfl⟩
theorem dL_law_936 : dc cL_law 936 (.if_icmp .eq 5) 3 939 := ⟨by decide +kernel, rfl⟩
theorem dL_law_939 : dc cL_law 939 (.iconst 0) 1 940 := ⟨by decide +kernel, rfl⟩
theorem dL_law_940 : dc cL_law 940 (.ireturn) 1 941 := ⟨by decide +kernel, rfl⟩
theorem dL_law_941 : dc cL_law 941 (.iinc 3 6) 3 944 := ⟨by decide +kernel, rfl⟩
theorem dL_law_944 : dc cL_law 944 (.goto (-926)) 3 947 := ⟨by decide +kernel, rfl⟩
theorem dL_law_947 : dc cL_law 947 (.iconst 1) 1 948 := ⟨by decide +kernel, rfl⟩
theorem dL_law_948 : dc cL_law 948 (.ireturn) 1 949 := ⟨by decide +kernel, rfl⟩
end
section
abbrev PC : Type := (FieldType × vp_A) ⊕ (Nat × List Value)
abbrev PH : Type := List PC
/-- cell i of the pure heap lies at B + i -/
def pv (B : Nat) : Value → Value
  | .ref i => .ref (B + i)
  | v => v
def pA (B : Nat) : vp_A → vp_A
  | (n, .inr (.inr (.inr (.inr f)))) => (n, .inr (.inr (.inr (.inr (fun j => (f j).map (fun i => B + i))))))
  | a => a
def pE (B : Nat) (cA : ClassId) : PC → va_E
  | .inl (_, a) => .inl (cA, pA B a)
  | .inr (ci, fs) => .inr (ci, fs.map (pv B))
def pW (B : Nat) (ca : Nat → ClassId) (h : PH) : va_W := h.mapIdx (fun i c => (B + i, pE B (ca i) c))
def pArr (s : State) (ca : Nat → ClassId) (h : PH) : Prop := ∀ (i : Nat) (ty : FieldType) (a : vp_A), h[i]? = some (.inl (ty, a)) → ArrOfT s (ca i) ty ∧ va_RA s (ca i) ty
def Sim (D : va_G) (B : Nat) (h : PH) (s : State) (H : Heap) : Prop := H.size = B + h.length ∧ ∃ ca : Nat → ClassId, va_P D vwCl (pW B ca h) H ∧ pArr s ca h
def pG (D : va_G) (U : State) : Prop := va_K D vwCl [] U ∧ (∀ w ∈ pNs, va_Nw w U) ∧ va_AO RX5 U
def Cx (D : va_G) (Y : PMth) (p : Program) (s : State) (m : MethodId) (args : Array Value) (meth : Method) (c : Code) : Prop :=
  p.tables.exec = Jvm.exec ∧ c.code = Y.2.1 ∧ meth.sig.returnType = Y.2.2.2 ∧ c.maxLocals = Y.2.2.1 ∧ s.vm.findClass Y.1.cls = some m.cls ∧ (∀ w ∈ pTb, w.before args s = true) ∧ meth.locks = false ∧ meth.name = Y.1.name ∧ pG D s
def pL (B : Nat) : Nat → List (Option Value) → List (Nat × Value)
  | _, [] => []
  | i, some v :: L => (i, pv B v) :: pL B (i + 1) L
  | i, none :: L => pL B (i + 1) L
/-- the machine at pc, with locals L, stack st, heap h, n slots made, comes to the end E -/
def Wp (l : Launch) (D : va_G) (Y : PMth) (R : Room) (n0 : Nat) (X : State → Array Value → Nat → Prop) (E : List Frame → Array Value → State → Nat → State → Prop) (pc : Nat) (L : List (Option Value)) (st : List Value) (h : PH) (n : Nat) : Prop :=
  ∀ (p : Program) (e : Env) (s : State) (m : MethodId) (args : Array Value) (below : List Frame) (meth : Method) (c : Code) (B : Nat) (H : Heap) (locs : List Loc) (ls : Array Slot), Cx D Y p s m args meth c → X s args B → s.heap.size = B + n0 → n0 ≤ h.length → Sim D B h s H → va_S (fun q => B ≤ q) s.heap H locs → lv_has ls Y.2.2.1 (pL B 0 L) → W p l e R s m args below meth c H locs (h.length - n0) n (E below args s B) (F0 m pc ls (st.map (pv B)))
theorem pv_cat (B : Nat) (v : Value) : (pv B v).category = v.category := by cases v <;> rfl
theorem pL_mem {B : Nat} {q : Nat × Value} : ∀ {L : List (Option Value)} {i : Nat}, q ∈ pL B i L ↔ ∃ (k : Nat) (v : Value), L[k]? = some (some v) ∧ q = (i + k, pv B v)
  | [], i => by simp [pL]
  | some v :: L, i => by
    rw [pL, List.mem_cons, pL_mem]
    constructor
    · rintro (rfl | ⟨k, w, h1, rfl⟩)
      · exact ⟨0, v, rfl, rfl⟩
      · exact ⟨k + 1, w, h1, by rw [Nat.add_assoc, Nat.add_comm 1 k]⟩
    · rintro ⟨k, w, h1, rfl⟩
      cases k with
      | zero => cases h1; exact Or.inl rfl
      | succ k => exact Or.inr ⟨k, w, h1, by rw [Nat.add_assoc, Nat.add_comm 1 k]⟩
  | none :: L, i => by
    rw [pL, pL_mem]
    constructor
    · rintro ⟨k, w, h1, rfl⟩
      exact ⟨k + 1, w, h1, by rw [Nat.add_assoc, Nat.add_comm 1 k]⟩
    · rintro ⟨k, w, h1, rfl⟩
      cases k with
      | zero => cases h1
      | succ k => exact ⟨k, w, h1, by rw [Nat.add_assoc, Nat.add_comm 1 k]⟩
theorem pL_get {B nL k : Nat} {ls : Array Slot} {L : List (Option Value)} {v : Value} (h : lv_has ls nL (pL B 0 L)) (hk : L[k]? = some (some v)) : ls[k]? = some (.val (pv B v)) :=
  h.2.2 (k, pv B v) (pL_mem.mpr ⟨k, v, hk, by rw [Nat.zero_add]⟩)
def c1 : Option Value → Bool
  | some v => v.category != 2
  | none => true
def c1at (L : List (Option Value)) : Nat → Bool
  | 0 => true
  | i + 1 => c1 (L.getD i none)
theorem pL_store {B nL i : Nat} {ls : Array Slot} {L : List (Option Value)} {v : Value} (h : lv_has ls nL ((i, pv B v) :: (pL B 0 L).filter (fun q => !(q.1 == i) && !(q.1 + 1 == i && q.2.category == 2)))) (hi : i < L.length) (hc : c1at L i = true) : lv_has ls nL (pL B 0 (L.set i (some v))) := by
  refine ⟨h.1, h.2.1, fun q hq => h.2.2 q ?_⟩
  obtain ⟨k, w, h1, rfl⟩ := pL_mem.mp hq
  rw [Nat.zero_add]
  by_cases hk : k = i
  · subst hk
    rw [List.getElem?_set_self hi] at h1
    cases h1
    exact List.mem_cons_self
  · rw [List.getElem?_set_ne (Ne.symm hk)] at h1
    refine List.mem_cons_of_mem _ (List.mem_filter.mpr ⟨pL_mem.mpr ⟨k, w, h1, by rw [Nat.zero_add]⟩, ?_⟩)
    simp only [Bool.and_eq_true, Bool.not_eq_true', beq_eq_false_iff_ne, Bool.and_eq_false_iff, pv_cat]
    refine ⟨hk, ?_⟩
    by_cases hk2 : k + 1 = i
    · subst hk2
      right
      simp only [c1at, List.getD_eq_getElem?_getD, h1, Option.getD_some, c1, bne_iff_ne] at hc
      exact hc
    · exact Or.inl hk2
theorem pL_store2 {B nL i : Nat} {ls : Array Slot} {L : List (Option Value)} {v : Value} (h : lv_has ls nL ((i, pv B v) :: (pL B 0 L).filter (fun q => !(q.1 == i) && (!(q.1 == i + 1) && !(q.1 + 1 == i && q.2.category == 2))))) (hi : i < L.length) (hc : c1at L i = true) : lv_has ls nL (pL B 0 ((L.set i (some v)).set (i + 1) none)) := by
  refine ⟨h.1, h.2.1, fun q hq => h.2.2 q ?_⟩
  obtain ⟨k, w, h1, rfl⟩ := pL_mem.mp hq
  rw [Nat.zero_add]
  by_cases hk3 : k = i + 1
  · subst hk3
    by_cases hl : i + 1 < (L.set i (some v)).length
    · rw [List.getElem?_set_self hl] at h1; cases h1
    · rw [List.getElem?_eq_none (by rw [List.length_set]; omega)] at h1; cases h1
  rw [List.getElem?_set_ne (Ne.symm hk3)] at h1
  by_cases hk : k = i
  · subst hk
    rw [List.getElem?_set_self hi] at h1
    cases h1
    exact List.mem_cons_self
  · rw [List.getElem?_set_ne (Ne.symm hk)] at h1
    refine List.mem_cons_of_mem _ (List.mem_filter.mpr ⟨pL_mem.mpr ⟨k, w, h1, by rw [Nat.zero_add]⟩, ?_⟩)
    simp only [Bool.and_eq_true, Bool.not_eq_true', beq_eq_false_iff_ne, Bool.and_eq_false_iff, pv_cat]
    refine ⟨hk, hk3, ?_⟩
    by_cases hk2 : k + 1 = i
    · subst hk2
      right
      simp only [c1at, List.getD_eq_getElem?_getD, h1, Option.getD_some, c1, bne_iff_ne] at hc
      exact hc
    · exact Or.inl hk2
section PW
variable {l : Launch} {D : va_G} {Y : PMth} {R : Room} {n0 : Nat} {X : State → Array Value → Nat → Prop} {E : List Frame → Array Value → State → Nat → State → Prop} {pc nx : Nat} {L : List (Option Value)} {st : List Value} {h : PH} {n : Nat}
theorem w_iadd {x y : Int32} (hd : dc Y.2.1 pc .iadd 1 nx)  (k : Wp l D Y R n0 X E nx L (.int (x + y) :: st) h n) : Wp l D Y R n0 X E pc L (.int y :: .int x :: st) h n := by
  intro p e s m args below meth c B H locs ls C hX h1 h2 h3 h4 h5
  obtain ⟨hd, rfl⟩ := hd
  exact lv_iadd C.1 C.2.1 hd (k p e s m args below meth c B H locs ls C hX h1 h2 h3 h4 h5)
theorem w_isub {x y : Int32} (hd : dc Y.2.1 pc .isub 1 nx)  (k : Wp l D Y R n0 X E nx L (.int (x - y) :: st) h n) : Wp l D Y R n0 X E pc L (.int y :: .int x :: st) h n := by
  intro p e s m args below meth c B H locs ls C hX h1 h2 h3 h4 h5
  obtain ⟨hd, rfl⟩ := hd
  exact lv_isub C.1 C.2.1 hd (k p e s m args below meth c B H locs ls C hX h1 h2 h3 h4 h5)
theorem w_imul {x y : Int32} (hd : dc Y.2.1 pc .imul 1 nx)  (k : Wp l D Y R n0 X E nx L (.int (x * y) :: st) h n) : Wp l D Y R n0 X E pc L (.int y :: .int x :: st) h n := by
  intro p e s m args below meth c B H locs ls C hX h1 h2 h3 h4 h5
  obtain ⟨hd, rfl⟩ := hd
  exact lv_imul C.1 C.2.1 hd (k p e s m args below meth c B H locs ls C hX h1 h2 h3 h4 h5)
theorem w_iand {x y : Int32} (hd : dc Y.2.1 pc .iand 1 nx)  (k : Wp l D Y R n0 X E nx L (.int (x &&& y) :: st) h n) : Wp l D Y R n0 X E pc L (.int y :: .int x :: st) h n := by
  intro p e s m args below meth c B H locs ls C hX h1 h2 h3 h4 h5
  obtain ⟨hd, rfl⟩ := hd
  exact lv_iand C.1 C.2.1 hd (k p e s m args below meth c B H locs ls C hX h1 h2 h3 h4 h5)
theorem w_ior {x y : Int32} (hd : dc Y.2.1 pc .ior 1 nx)  (k : Wp l D Y R n0 X E nx L (.int (x ||| y) :: st) h n) : Wp l D Y R n0 X E pc L (.int y :: .int x :: st) h n := by
  intro p e s m args below meth c B H locs ls C hX h1 h2 h3 h4 h5
  obtain ⟨hd, rfl⟩ := hd
  exact lv_ior C.1 C.2.1 hd (k p e s m args below meth c B H locs ls C hX h1 h2 h3 h4 h5)
theorem w_ixor {x y : Int32} (hd : dc Y.2.1 pc .ixor 1 nx)  (k : Wp l D Y R n0 X E nx L (.int (x ^^^ y) :: st) h n) : Wp l D Y R n0 X E pc L (.int y :: .int x :: st) h n := by
  intro p e s m args below meth c B H locs ls C hX h1 h2 h3 h4 h5
  obtain ⟨hd, rfl⟩ := hd
  exact lv_ixor C.1 C.2.1 hd (k p e s m args below meth c B H locs ls C hX h1 h2 h3 h4 h5)
theorem w_ishl {x y : Int32} (hd : dc Y.2.1 pc .ishl 1 nx)  (k : Wp l D Y R n0 X E nx L (.int (x <<< (y &&& 31)) :: st) h n) : Wp l D Y R n0 X E pc L (.int y :: .int x :: st) h n := by
  intro p e s m args below meth c B H locs ls C hX h1 h2 h3 h4 h5
  obtain ⟨hd, rfl⟩ := hd
  exact lv_ishl C.1 C.2.1 hd (k p e s m args below meth c B H locs ls C hX h1 h2 h3 h4 h5)
theorem w_ishr {x y : Int32} (hd : dc Y.2.1 pc .ishr 1 nx)  (k : Wp l D Y R n0 X E nx L (.int (x >>> (y &&& 31)) :: st) h n) : Wp l D Y R n0 X E pc L (.int y :: .int x :: st) h n := by
  intro p e s m args below meth c B H locs ls C hX h1 h2 h3 h4 h5
  obtain ⟨hd, rfl⟩ := hd
  exact lv_ishr C.1 C.2.1 hd (k p e s m args below meth c B H locs ls C hX h1 h2 h3 h4 h5)
theorem w_iushr {x y : Int32} (hd : dc Y.2.1 pc .iushr 1 nx)  (k : Wp l D Y R n0 X E nx L (.int ((x.toUInt32 >>> (y.toUInt32 &&& Int32.toUInt32 31)).toInt32) :: st) h n) : Wp l D Y R n0 X E pc L (.int y :: .int x :: st) h n := by
  intro p e s m args below meth c B H locs ls C hX h1 h2 h3 h4 h5
  obtain ⟨hd, rfl⟩ := hd
  exact lv_iushr C.1 C.2.1 hd rfl (k p e s m args below meth c B H locs ls C hX h1 h2 h3 h4 h5)
theorem w_idiv {x y : Int32} (hd : dc Y.2.1 pc .idiv 1 nx) (hne : ¬ y = 0) (k : Wp l D Y R n0 X E nx L (.int (x / y) :: st) h n) : Wp l D Y R n0 X E pc L (.int y :: .int x :: st) h n := by
  intro p e s m args below meth c B H locs ls C hX h1 h2 h3 h4 h5
  obtain ⟨hd, rfl⟩ := hd
  exact lv_idiv C.1 C.2.1 hd hne (k p e s m args below meth c B H locs ls C hX h1 h2 h3 h4 h5)
theorem w_irem {x y : Int32} (hd : dc Y.2.1 pc .irem 1 nx) (hne : ¬ y = 0) (k : Wp l D Y R n0 X E nx L (.int (x - x / y * y) :: st) h n) : Wp l D Y R n0 X E pc L (.int y :: .int x :: st) h n := by
  intro p e s m args below meth c B H locs ls C hX h1 h2 h3 h4 h5
  obtain ⟨hd, rfl⟩ := hd
  exact lv_irem C.1 C.2.1 hd hne (k p e s m args below meth c B H locs ls C hX h1 h2 h3 h4 h5)
theorem w_ladd {x y : Int64} (hd : dc Y.2.1 pc .ladd 1 nx)  (k : Wp l D Y R n0 X E nx L (.long (x + y) :: st) h n) : Wp l D Y R n0 X E pc L (.long y :: .long x :: st) h n := by
  intro p e s m args below meth c B H locs ls C hX h1 h2 h3 h4 h5
  obtain ⟨hd, rfl⟩ := hd
  exact lv_ladd C.1 C.2.1 hd (k p e s m args below meth c B H locs ls C hX h1 h2 h3 h4 h5)
theorem w_lsub {x y : Int64} (hd : dc Y.2.1 pc .lsub 1 nx)  (k : Wp l D Y R n0 X E nx L (.long (x - y) :: st) h n) : Wp l D Y R n0 X E pc L (.long y :: .long x :: st) h n := by
  intro p e s m args below meth c B H locs ls C hX h1 h2 h3 h4 h5
  obtain ⟨hd, rfl⟩ := hd
  exact lv_lsub C.1 C.2.1 hd (k p e s m args below meth c B H locs ls C hX h1 h2 h3 h4 h5)
theorem w_lmul {x y : Int64} (hd : dc Y.2.1 pc .lmul 1 nx)  (k : Wp l D Y R n0 X E nx L (.long (x * y) :: st) h n) : Wp l D Y R n0 X E pc L (.long y :: .long x :: st) h n := by
  intro p e s m args below meth c B H locs ls C hX h1 h2 h3 h4 h5
  obtain ⟨hd, rfl⟩ := hd
  exact lv_lmul C.1 C.2.1 hd (k p e s m args below meth c B H locs ls C hX h1 h2 h3 h4 h5)
theorem w_ldiv {x y : Int64} (hd : dc Y.2.1 pc .ldiv 1 nx) (hne : ¬ y = 0) (k : Wp l D Y R n0 X E nx L (.long (x / y) :: st) h n) : Wp l D Y R n0 X E pc L (.long y :: .long x :: st) h n := by
  intro p e s m args below meth c B H locs ls C hX h1 h2 h3 h4 h5
  obtain ⟨hd, rfl⟩ := hd
  exact lv_ldiv C.1 C.2.1 hd hne (k p e s m args below meth c B H locs ls C hX h1 h2 h3 h4 h5)
theorem w_lrem {x y : Int64} (hd : dc Y.2.1 pc .lrem 1 nx) (hne : ¬ y = 0) (k : Wp l D Y R n0 X E nx L (.long (x - x / y * y) :: st) h n) : Wp l D Y R n0 X E pc L (.long y :: .long x :: st) h n := by
  intro p e s m args below meth c B H locs ls C hX h1 h2 h3 h4 h5
  obtain ⟨hd, rfl⟩ := hd
  exact lv_lrem C.1 C.2.1 hd hne (k p e s m args below meth c B H locs ls C hX h1 h2 h3 h4 h5)
theorem w_lcmp {x y : Int64} (hd : dc Y.2.1 pc .lcmp 1 nx)  (k : Wp l D Y R n0 X E nx L (.int (lg_cmp x y) :: st) h n) : Wp l D Y R n0 X E pc L (.long y :: .long x :: st) h n := by
  intro p e s m args below meth c B H locs ls C hX h1 h2 h3 h4 h5
  obtain ⟨hd, rfl⟩ := hd
  exact W.lcmp C.1 C.2.1 hd (k p e s m args below meth c B H locs ls C hX h1 h2 h3 h4 h5)
theorem w_i2l {x : Int32} (hd : dc Y.2.1 pc .i2l 1 nx)  (k : Wp l D Y R n0 X E nx L (.long x.toInt64 :: st) h n) : Wp l D Y R n0 X E pc L (.int x :: st) h n := by
  intro p e s m args below meth c B H locs ls C hX h1 h2 h3 h4 h5
  obtain ⟨hd, rfl⟩ := hd
  exact lv_i2l C.1 C.2.1 hd rfl (k p e s m args below meth c B H locs ls C hX h1 h2 h3 h4 h5)
theorem w_iconst {z : Int} {v : Int32} (hd : dc Y.2.1 pc (.iconst z) 1 nx) (hv : Int32.ofInt z = v) (k : Wp l D Y R n0 X E nx L (.int v :: st) h n) : Wp l D Y R n0 X E pc L st h n := by
  intro p e s m args below meth c B H locs ls C hX h1 h2 h3 h4 h5
  obtain ⟨hd, rfl⟩ := hd
  exact lv_iconst C.1 C.2.1 hd hv (k p e s m args below meth c B H locs ls C hX h1 h2 h3 h4 h5)
theorem w_bipush {z : Int} {v : Int32} (hd : dc Y.2.1 pc (.bipush z) 2 nx) (hv : (Int8.ofInt z).toInt32 = v) (k : Wp l D Y R n0 X E nx L (.int v :: st) h n) : Wp l D Y R n0 X E pc L st h n := by
  intro p e s m args below meth c B H locs ls C hX h1 h2 h3 h4 h5
  obtain ⟨hd, rfl⟩ := hd
  exact lv_bipush C.1 C.2.1 hd hv (k p e s m args below meth c B H locs ls C hX h1 h2 h3 h4 h5)
theorem w_sipush {z : Int} {v : Int32} (hd : dc Y.2.1 pc (.sipush z) 3 nx) (hv : (Int16.ofInt z).toInt32 = v) (k : Wp l D Y R n0 X E nx L (.int v :: st) h n) : Wp l D Y R n0 X E pc L st h n := by
  intro p e s m args below meth c B H locs ls C hX h1 h2 h3 h4 h5
  obtain ⟨hd, rfl⟩ := hd
  exact lv_sipush C.1 C.2.1 hd hv (k p e s m args below meth c B H locs ls C hX h1 h2 h3 h4 h5)
theorem w_lconst {z : Fin 2} {v : Int64} (hd : dc Y.2.1 pc (.lconst z) 1 nx) (hv : Int64.ofNat (z : Nat) = v) (k : Wp l D Y R n0 X E nx L (.long v :: st) h n) : Wp l D Y R n0 X E pc L st h n := by
  intro p e s m args below meth c B H locs ls C hX h1 h2 h3 h4 h5
  obtain ⟨hd, rfl⟩ := hd
  exact lv_lconst C.1 C.2.1 hd hv (k p e s m args below meth c B H locs ls C hX h1 h2 h3 h4 h5)
theorem w_ldc {i : Nat} {v : Int32} (hd : dc Y.2.1 pc (.ldc i) 2 nx) (hw : Cond.constant Y.1.cls i v ∈ pTb) (k : Wp l D Y R n0 X E nx L (.int v :: st) h n) : Wp l D Y R n0 X E pc L st h n := by
  intro p e s m args below meth c B H locs ls C hX h1 h2 h3 h4 h5
  obtain ⟨hd, rfl⟩ := hd
  exact lv_ldc C.1 C.2.1 C.2.2.2.2.1 (C.2.2.2.2.2.1 _ hw) hd (k p e s m args below meth c B H locs ls C hX h1 h2 h3 h4 h5)
theorem w_ldcw {i : Nat} {v : Int32} (hd : dc Y.2.1 pc (.ldc_w i) 3 nx) (hw : Cond.constant Y.1.cls i v ∈ pTb) (k : Wp l D Y R n0 X E nx L (.int v :: st) h n) : Wp l D Y R n0 X E pc L st h n := by
  intro p e s m args below meth c B H locs ls C hX h1 h2 h3 h4 h5
  obtain ⟨hd, rfl⟩ := hd
  exact lv_ldcw C.1 C.2.1 C.2.2.2.2.1 (C.2.2.2.2.2.1 _ hw) hd (k p e s m args below meth c B H locs ls C hX h1 h2 h3 h4 h5)
theorem w_ldc2 {i : Nat} {v : Int64} (hd : dc Y.2.1 pc (.ldc2_w i) 3 nx) (hw : Cond.constantLong Y.1.cls i v ∈ pTb) (k : Wp l D Y R n0 X E nx L (.long v :: st) h n) : Wp l D Y R n0 X E pc L st h n := by
  intro p e s m args below meth c B H locs ls C hX h1 h2 h3 h4 h5
  obtain ⟨hd, rfl⟩ := hd
  exact lv_ldc2 C.1 C.2.1 C.2.2.2.2.1 (C.2.2.2.2.2.1 _ hw) hd (k p e s m args below meth c B H locs ls C hX h1 h2 h3 h4 h5)
theorem w_dup {v : Value} (hd : dc Y.2.1 pc .dup 1 nx) (hv : v.category = 1) (k : Wp l D Y R n0 X E nx L (v :: v :: st) h n) : Wp l D Y R n0 X E pc L (v :: st) h n := by
  intro p e s m args below meth c B H locs ls C hX h1 h2 h3 h4 h5
  obtain ⟨hd, rfl⟩ := hd
  exact lv_dup C.1 C.2.1 hd (by rw [pv_cat]; exact hv) (k p e s m args below meth c B H locs ls C hX h1 h2 h3 h4 h5)
theorem w_pop {v : Value} (hd : dc Y.2.1 pc .pop 1 nx) (hv : v.category = 1) (k : Wp l D Y R n0 X E nx L st h n) : Wp l D Y R n0 X E pc L (v :: st) h n := by
  intro p e s m args below meth c B H locs ls C hX h1 h2 h3 h4 h5
  obtain ⟨hd, rfl⟩ := hd
  exact lv_pop C.1 C.2.1 hd (by rw [pv_cat]; exact hv) (k p e s m args below meth c B H locs ls C hX h1 h2 h3 h4 h5)
theorem w_dup2 {v u : Value} (hd : dc Y.2.1 pc .dup2 1 nx) (hv : v.category = 1) (hu : u.category = 1) (k : Wp l D Y R n0 X E nx L (v :: u :: v :: u :: st) h n) : Wp l D Y R n0 X E pc L (v :: u :: st) h n := by
  intro p e s m args below meth c B H locs ls C hX h1 h2 h3 h4 h5
  obtain ⟨hd, rfl⟩ := hd
  exact lv_dup2_11 C.1 C.2.1 hd (by rw [pv_cat]; exact hv) (by rw [pv_cat]; exact hu) (k p e s m args below meth c B H locs ls C hX h1 h2 h3 h4 h5)
theorem w_iload_n {k : Fin 4} {x : Int32} (hd : dc Y.2.1 pc (.iload_n k) 1 nx) (hk : L[(k : Nat)]? = some (some (.int x))) (kk : Wp l D Y R n0 X E nx L (.int x :: st) h n) : Wp l D Y R n0 X E pc L st h n := by
  intro p e s m args below meth c B H locs ls C hX h1 h2 h3 h4 h5
  obtain ⟨hd, rfl⟩ := hd
  exact lv_iload_n C.1 C.2.1 hd rfl (pL_get h5 hk) (kk p e s m args below meth c B H locs ls C hX h1 h2 h3 h4 h5)
theorem w_iload {k : Nat} {x : Int32} (hd : dc Y.2.1 pc (.iload k) 2 nx) (hk : L[k]? = some (some (.int x))) (kk : Wp l D Y R n0 X E nx L (.int x :: st) h n) : Wp l D Y R n0 X E pc L st h n := by
  intro p e s m args below meth c B H locs ls C hX h1 h2 h3 h4 h5
  obtain ⟨hd, rfl⟩ := hd
  exact lv_iload C.1 C.2.1 hd (pL_get h5 hk) (kk p e s m args below meth c B H locs ls C hX h1 h2 h3 h4 h5)
theorem w_lload_n {k : Fin 4} {x : Int64} (hd : dc Y.2.1 pc (.lload_n k) 1 nx) (hk : L[(k : Nat)]? = some (some (.long x))) (kk : Wp l D Y R n0 X E nx L (.long x :: st) h n) : Wp l D Y R n0 X E pc L st h n := by
  intro p e s m args below meth c B H locs ls C hX h1 h2 h3 h4 h5
  obtain ⟨hd, rfl⟩ := hd
  exact lv_lload_n C.1 C.2.1 hd rfl (pL_get h5 hk) (kk p e s m args below meth c B H locs ls C hX h1 h2 h3 h4 h5)
theorem w_lload {k : Nat} {x : Int64} (hd : dc Y.2.1 pc (.lload k) 2 nx) (hk : L[k]? = some (some (.long x))) (kk : Wp l D Y R n0 X E nx L (.long x :: st) h n) : Wp l D Y R n0 X E pc L st h n := by
  intro p e s m args below meth c B H locs ls C hX h1 h2 h3 h4 h5
  obtain ⟨hd, rfl⟩ := hd
  exact lv_lload C.1 C.2.1 hd (pL_get h5 hk) (kk p e s m args below meth c B H locs ls C hX h1 h2 h3 h4 h5)
theorem w_aload_n {k : Fin 4} {x : Nat} (hd : dc Y.2.1 pc (.aload_n k) 1 nx) (hk : L[(k : Nat)]? = some (some (.ref x))) (kk : Wp l D Y R n0 X E nx L (.ref x :: st) h n) : Wp l D Y R n0 X E pc L st h n := by
  intro p e s m args below meth c B H locs ls C hX h1 h2 h3 h4 h5
  obtain ⟨hd, rfl⟩ := hd
  exact lv_aload_n C.1 C.2.1 hd rfl (pL_get h5 hk) (kk p e s m args below meth c B H locs ls C hX h1 h2 h3 h4 h5)
theorem w_aload_nN {k : Fin 4} (hd : dc Y.2.1 pc (.aload_n k) 1 nx) (hk : L[(k : Nat)]? = some (some .null)) (kk : Wp l D Y R n0 X E nx L (.null :: st) h n) : Wp l D Y R n0 X E pc L st h n := by
  intro p e s m args below meth c B H locs ls C hX h1 h2 h3 h4 h5
  obtain ⟨hd, rfl⟩ := hd
  exact lv_aload_nN C.1 C.2.1 hd rfl (pL_get h5 hk) (kk p e s m args below meth c B H locs ls C hX h1 h2 h3 h4 h5)
theorem w_istore_n {k : Fin 4} {i : Nat} {x : Int32} (hd : dc Y.2.1 pc (.istore_n k) 1 nx) (hki : (k : Nat) = i) (hn : i < Y.2.2.1) (hi : i < L.length) (hc : c1at L i = true) (kk : Wp l D Y R n0 X E nx (L.set i (some (.int x))) st h n) : Wp l D Y R n0 X E pc L (.int x :: st) h n := by
  intro p e s m args below meth c B H locs ls C hX h1 h2 h3 h4 h5
  obtain ⟨hd, rfl⟩ := hd
  exact lv_istore_n C.1 C.2.1 hd hki h5 hn rfl (fun ls' hl => kk p e s m args below meth c B H locs ls' C hX h1 h2 h3 h4 (pL_store hl hi hc))
theorem w_istore {i : Nat} {x : Int32} (hd : dc Y.2.1 pc (.istore i) 2 nx) (hn : i < Y.2.2.1) (hi : i < L.length) (hc : c1at L i = true) (kk : Wp l D Y R n0 X E nx (L.set i (some (.int x))) st h n) : Wp l D Y R n0 X E pc L (.int x :: st) h n := by
  intro p e s m args below meth c B H locs ls C hX h1 h2 h3 h4 h5
  obtain ⟨hd, rfl⟩ := hd
  exact lv_istore C.1 C.2.1 hd h5 hn rfl (fun ls' hl => kk p e s m args below meth c B H locs ls' C hX h1 h2 h3 h4 (pL_store hl hi hc))
theorem w_lstore_n {k : Fin 4} {i : Nat} {x : Int64} (hd : dc Y.2.1 pc (.lstore_n k) 1 nx) (hki : (k : Nat) = i) (hn : i + 1 < Y.2.2.1) (hi : i < L.length) (hc : c1at L i = true) (kk : Wp l D Y R n0 X E nx ((L.set i (some (.long x))).set (i + 1) none) st h n) : Wp l D Y R n0 X E pc L (.long x :: st) h n := by
  intro p e s m args below meth c B H locs ls C hX h1 h2 h3 h4 h5
  obtain ⟨hd, rfl⟩ := hd
  exact lv_lstore_n C.1 C.2.1 hd hki h5 hn rfl (fun ls' hl => kk p e s m args below meth c B H locs ls' C hX h1 h2 h3 h4 (pL_store2 hl hi hc))
theorem w_lstore {i : Nat} {x : Int64} (hd : dc Y.2.1 pc (.lstore i) 2 nx) (hn : i + 1 < Y.2.2.1) (hi : i < L.length) (hc : c1at L i = true) (kk : Wp l D Y R n0 X E nx ((L.set i (some (.long x))).set (i + 1) none) st h n) : Wp l D Y R n0 X E pc L (.long x :: st) h n := by
  intro p e s m args below meth c B H locs ls C hX h1 h2 h3 h4 h5
  obtain ⟨hd, rfl⟩ := hd
  exact lv_lstore C.1 C.2.1 hd h5 hn rfl (fun ls' hl => kk p e s m args below meth c B H locs ls' C hX h1 h2 h3 h4 (pL_store2 hl hi hc))
theorem w_astore_n {k : Fin 4} {i : Nat} {x : Nat} (hd : dc Y.2.1 pc (.astore_n k) 1 nx) (hki : (k : Nat) = i) (hn : i < Y.2.2.1) (hi : i < L.length) (hc : c1at L i = true) (kk : Wp l D Y R n0 X E nx (L.set i (some (.ref x))) st h n) : Wp l D Y R n0 X E pc L (.ref x :: st) h n := by
  intro p e s m args below meth c B H locs ls C hX h1 h2 h3 h4 h5
  obtain ⟨hd, rfl⟩ := hd
  exact lv_astore_n C.1 C.2.1 hd hki h5 hn rfl (fun ls' hl => kk p e s m args below meth c B H locs ls' C hX h1 h2 h3 h4 (pL_store hl hi hc))
theorem w_astore_nN {k : Fin 4} {i : Nat} (hd : dc Y.2.1 pc (.astore_n k) 1 nx) (hki : (k : Nat) = i) (hn : i < Y.2.2.1) (hi : i < L.length) (hc : c1at L i = true) (kk : Wp l D Y R n0 X E nx (L.set i (some .null)) st h n) : Wp l D Y R n0 X E pc L (.null :: st) h n := by
  intro p e s m args below meth c B H locs ls C hX h1 h2 h3 h4 h5
  obtain ⟨hd, rfl⟩ := hd
  exact lv_astore_nN C.1 C.2.1 hd hki h5 hn rfl (fun ls' hl => kk p e s m args below meth c B H locs ls' C hX h1 h2 h3 h4 (pL_store hl hi hc))
theorem w_iinc {i : Nat} {z : Int} {x v : Int32} (hd : dc Y.2.1 pc (.iinc i z) 3 nx) (hk : L[i]? = some (some (.int x))) (hv : Int32.ofInt z = v) (hn : i < Y.2.2.1) (hc : c1at L i = true) (kk : Wp l D Y R n0 X E nx (L.set i (some (.int (x + v)))) st h n) : Wp l D Y R n0 X E pc L st h n := by
  intro p e s m args below meth c B H locs ls C hX h1 h2 h3 h4 h5
  obtain ⟨hd, rfl⟩ := hd
  have hi : i < L.length := (List.getElem?_eq_some_iff.mp hk).1
  obtain ⟨j, hj⟩ := List.getElem?_of_mem (pL_mem (B := B) (i := 0).mpr ⟨i, _, hk, by rw [Nat.zero_add]⟩)
  subst hv
  exact lv_iinc C.1 C.2.1 hd h5 hj rfl hn rfl (fun ls' hl => kk p e s m args below meth c B H locs ls' C hX h1 h2 h3 h4 (pL_store hl hi hc))
theorem w_istore_0 {a0 : Option Value} {x : Int32} (hd : dc Y.2.1 pc (.istore_n 0) 1 nx) (hn : 0 < Y.2.2.1)  (kk : Wp l D Y R n0 X E nx (some (.int x) :: L) st h n) : Wp l D Y R n0 X E pc (a0 :: L) (.int x :: st) h n := w_istore_n (i := 0) hd rfl hn (by simp) rfl kk
theorem w_astore_0 {a0 : Option Value} {x : Nat} (hd : dc Y.2.1 pc (.astore_n 0) 1 nx) (hn : 0 < Y.2.2.1)  (kk : Wp l D Y R n0 X E nx (some (.ref x) :: L) st h n) : Wp l D Y R n0 X E pc (a0 :: L) (.ref x :: st) h n := w_astore_n (i := 0) hd rfl hn (by simp) rfl kk
theorem w_astoreN_0 {a0 : Option Value} (hd : dc Y.2.1 pc (.astore_n 0) 1 nx) (hn : 0 < Y.2.2.1)  (kk : Wp l D Y R n0 X E nx (some .null :: L) st h n) : Wp l D Y R n0 X E pc (a0 :: L) (.null :: st) h n := w_astore_nN (i := 0) hd rfl hn (by simp) rfl kk
theorem w_iinc_0 {z : Int} {x v : Int32} (hd : dc Y.2.1 pc (.iinc 0 z) 3 nx) (hv : Int32.ofInt z = v) (hn : 0 < Y.2.2.1) (kk : Wp l D Y R n0 X E nx (some (.int (x + v)) :: L) st h n) : Wp l D Y R n0 X E pc (some (.int x) :: L) st h n := w_iinc (i := 0) hd rfl hv hn rfl kk
theorem w_lstore_0 {a0 a1 : Option Value} {x : Int64} (hd : dc Y.2.1 pc (.lstore_n 0) 1 nx) (hn : 0 + 1 < Y.2.2.1)  (kk : Wp l D Y R n0 X E nx (some (.long x) :: none :: L) st h n) : Wp l D Y R n0 X E pc (a0 :: a1 :: L) (.long x :: st) h n := w_lstore_n (i := 0) hd rfl hn (by simp) rfl kk
theorem w_istore_1 {a0 a1 : Option Value} {x : Int32} (hd : dc Y.2.1 pc (.istore_n 1) 1 nx) (hn : 1 < Y.2.2.1) (hc : c1 a0 = true) (kk : Wp l D Y R n0 X E nx (a0 :: some (.int x) :: L) st h n) : Wp l D Y R n0 X E pc (a0 :: a1 :: L) (.int x :: st) h n := w_istore_n (i := 1) hd rfl hn (by simp) hc kk
theorem w_astore_1 {a0 a1 : Option Value} {x : Nat} (hd : dc Y.2.1 pc (.astore_n 1) 1 nx) (hn : 1 < Y.2.2.1) (hc : c1 a0 = true) (kk : Wp l D Y R n0 X E nx (a0 :: some (.ref x) :: L) st h n) : Wp l D Y R n0 X E pc (a0 :: a1 :: L) (.ref x :: st) h n := w_astore_n (i := 1) hd rfl hn (by simp) hc kk
theorem w_astoreN_1 {a0 a1 : Option Value} (hd : dc Y.2.1 pc (.astore_n 1) 1 nx) (hn : 1 < Y.2.2.1) (hc : c1 a0 = true) (kk : Wp l D Y R n0 X E nx (a0 :: some .null :: L) st h n) : Wp l D Y R n0 X E pc (a0 :: a1 :: L) (.null :: st) h n := w_astore_nN (i := 1) hd rfl hn (by simp) hc kk
theorem w_iinc_1 {a0 : Option Value} {z : Int} {x v : Int32} (hd : dc Y.2.1 pc (.iinc 1 z) 3 nx) (hv : Int32.ofInt z = v) (hn : 1 < Y.2.2.1) (hc : c1 a0 = true) (kk : Wp l D Y R n0 X E nx (a0 :: some (.int (x + v)) :: L) st h n) : Wp l D Y R n0 X E pc (a0 :: some (.int x) :: L) st h n := w_iinc (i := 1) hd rfl hv hn hc kk
theorem w_lstore_1 {a0 a1 a2 : Option Value} {x : Int64} (hd : dc Y.2.1 pc (.lstore_n 1) 1 nx) (hn : 1 + 1 < Y.2.2.1) (hc : c1 a0 = true) (kk : Wp l D Y R n0 X E nx (a0 :: some (.long x) :: none :: L) st h n) : Wp l D Y R n0 X E pc (a0 :: a1 :: a2 :: L) (.long x :: st) h n := w_lstore_n (i := 1) hd rfl hn (by simp) hc kk
theorem w_istore_2 {a0 a1 a2 : Option Value} {x : Int32} (hd : dc Y.2.1 pc (.istore_n 2) 1 nx) (hn : 2 < Y.2.2.1) (hc : c1 a1 = true) (kk : Wp l D Y R n0 X E nx (a0 :: a1 :: some (.int x) :: L) st h n) : Wp l D Y R n0 X E pc (a0 :: a1 :: a2 :: L) (.int x :: st) h n := w_istore_n (i := 2) hd rfl hn (by simp) hc kk
theorem w_astore_2 {a0 a1 a2 : Option Value} {x : Nat} (hd : dc Y.2.1 pc (.astore_n 2) 1 nx) (hn : 2 < Y.2.2.1) (hc : c1 a1 = true) (kk : Wp l D Y R n0 X E nx (a0 :: a1 :: some (.ref x) :: L) st h n) : Wp l D Y R n0 X E pc (a0 :: a1 :: a2 :: L) (.ref x :: st) h n := w_astore_n (i := 2) hd rfl hn (by simp) hc kk
theorem w_astoreN_2 {a0 a1 a2 : Option Value} (hd : dc Y.2.1 pc (.astore_n 2) 1 nx) (hn : 2 < Y.2.2.1) (hc : c1 a1 = true) (kk : Wp l D Y R n0 X E nx (a0 :: a1 :: some .null :: L) st h n) : Wp l D Y R n0 X E pc (a0 :: a1 :: a2 :: L) (.null :: st) h n := w_astore_nN (i := 2) hd rfl hn (by simp) hc kk
theorem w_iinc_2 {a0 a1 : Option Value} {z : Int} {x v : Int32} (hd : dc Y.2.1 pc (.iinc 2 z) 3 nx) (hv : Int32.ofInt z = v) (hn : 2 < Y.2.2.1) (hc : c1 a1 = true) (kk : Wp l D Y R n0 X E nx (a0 :: a1 :: some (.int (x + v)) :: L) st h n) : Wp l D Y R n0 X E pc (a0 :: a1 :: some (.int x) :: L) st h n := w_iinc (i := 2) hd rfl hv hn hc kk
theorem w_lstore_2 {a0 a1 a2 a3 : Option Value} {x : Int64} (hd : dc Y.2.1 pc (.lstore_n 2) 1 nx) (hn : 2 + 1 < Y.2.2.1) (hc : c1 a1 = true) (kk : Wp l D Y R n0 X E nx (a0 :: a1 :: some (.long x) :: none :: L) st h n) : Wp l D Y R n0 X E pc (a0 :: a1 :: a2 :: a3 :: L) (.long x :: st) h n := w_lstore_n (i := 2) hd rfl hn (by simp) hc kk
theorem w_istore_3 {a0 a1 a2 a3 : Option Value} {x : Int32} (hd : dc Y.2.1 pc (.istore_n 3) 1 nx) (hn : 3 < Y.2.2.1) (hc : c1 a2 = true) (kk : Wp l D Y R n0 X E nx (a0 :: a1 :: a2 :: some (.int x) :: L) st h n) : Wp l D Y R n0 X E pc (a0 :: a1 :: a2 :: a3 :: L) (.int x :: st) h n := w_istore_n (i := 3) hd rfl hn (by simp) hc kk
theorem w_astore_3 {a0 a1 a2 a3 : Option Value} {x : Nat} (hd : dc Y.2.1 pc (.astore_n 3) 1 nx) (hn : 3 < Y.2.2.1) (hc : c1 a2 = true) (kk : Wp l D Y R n0 X E nx (a0 :: a1 :: a2 :: some (.ref x) :: L) st h n) : Wp l D Y R n0 X E pc (a0 :: a1 :: a2 :: a3 :: L) (.ref x :: st) h n := w_astore_n (i := 3) hd rfl hn (by simp) hc kk
theorem w_astoreN_3 {a0 a1 a2 a3 : Option Value} (hd : dc Y.2.1 pc (.astore_n 3) 1 nx) (hn : 3 < Y.2.2.1) (hc : c1 a2 = true) (kk : Wp l D Y R n0 X E nx (a0 :: a1 :: a2 :: some .null :: L) st h n) : Wp l D Y R n0 X E pc (a0 :: a1 :: a2 :: a3 :: L) (.null :: st) h n := w_astore_nN (i := 3) hd rfl hn (by simp) hc kk
theorem w_iinc_3 {a0 a1 a2 : Option Value} {z : Int} {x v : Int32} (hd : dc Y.2.1 pc (.iinc 3 z) 3 nx) (hv : Int32.ofInt z = v) (hn : 3 < Y.2.2.1) (hc : c1 a2 = true) (kk : Wp l D Y R n0 X E nx (a0 :: a1 :: a2 :: some (.int (x + v)) :: L) st h n) : Wp l D Y R n0 X E pc (a0 :: a1 :: a2 :: some (.int x) :: L) st h n := w_iinc (i := 3) hd rfl hv hn hc kk
theorem w_lstore_3 {a0 a1 a2 a3 a4 : Option Value} {x : Int64} (hd : dc Y.2.1 pc (.lstore_n 3) 1 nx) (hn : 3 + 1 < Y.2.2.1) (hc : c1 a2 = true) (kk : Wp l D Y R n0 X E nx (a0 :: a1 :: a2 :: some (.long x) :: none :: L) st h n) : Wp l D Y R n0 X E pc (a0 :: a1 :: a2 :: a3 :: a4 :: L) (.long x :: st) h n := w_lstore_n (i := 3) hd rfl hn (by simp) hc kk
theorem w_istore_4 {a0 a1 a2 a3 a4 : Option Value} {x : Int32} (hd : dc Y.2.1 pc (.istore 4) 2 nx) (hn : 4 < Y.2.2.1) (hc : c1 a3 = true) (kk : Wp l D Y R n0 X E nx (a0 :: a1 :: a2 :: a3 :: some (.int x) :: L) st h n) : Wp l D Y R n0 X E pc (a0 :: a1 :: a2 :: a3 :: a4 :: L) (.int x :: st) h n := w_istore (i := 4) hd hn (by simp) hc kk
theorem w_iinc_4 {a0 a1 a2 a3 : Option Value} {z : Int} {x v : Int32} (hd : dc Y.2.1 pc (.iinc 4 z) 3 nx) (hv : Int32.ofInt z = v) (hn : 4 < Y.2.2.1) (hc : c1 a3 = true) (kk : Wp l D Y R n0 X E nx (a0 :: a1 :: a2 :: a3 :: some (.int (x + v)) :: L) st h n) : Wp l D Y R n0 X E pc (a0 :: a1 :: a2 :: a3 :: some (.int x) :: L) st h n := w_iinc (i := 4) hd rfl hv hn hc kk
theorem w_lstore_4 {a0 a1 a2 a3 a4 a5 : Option Value} {x : Int64} (hd : dc Y.2.1 pc (.lstore 4) 2 nx) (hn : 4 + 1 < Y.2.2.1) (hc : c1 a3 = true) (kk : Wp l D Y R n0 X E nx (a0 :: a1 :: a2 :: a3 :: some (.long x) :: none :: L) st h n) : Wp l D Y R n0 X E pc (a0 :: a1 :: a2 :: a3 :: a4 :: a5 :: L) (.long x :: st) h n := w_lstore (i := 4) hd hn (by simp) hc kk
theorem w_istore_5 {a0 a1 a2 a3 a4 a5 : Option Value} {x : Int32} (hd : dc Y.2.1 pc (.istore 5) 2 nx) (hn : 5 < Y.2.2.1) (hc : c1 a4 = true) (kk : Wp l D Y R n0 X E nx (a0 :: a1 :: a2 :: a3 :: a4 :: some (.int x) :: L) st h n) : Wp l D Y R n0 X E pc (a0 :: a1 :: a2 :: a3 :: a4 :: a5 :: L) (.int x :: st) h n := w_istore (i := 5) hd hn (by simp) hc kk
theorem w_iinc_5 {a0 a1 a2 a3 a4 : Option Value} {z : Int} {x v : Int32} (hd : dc Y.2.1 pc (.iinc 5 z) 3 nx) (hv : Int32.ofInt z = v) (hn : 5 < Y.2.2.1) (hc : c1 a4 = true) (kk : Wp l D Y R n0 X E nx (a0 :: a1 :: a2 :: a3 :: a4 :: some (.int (x + v)) :: L) st h n) : Wp l D Y R n0 X E pc (a0 :: a1 :: a2 :: a3 :: a4 :: some (.int x) :: L) st h n := w_iinc (i := 5) hd rfl hv hn hc kk
theorem w_lstore_5 {a0 a1 a2 a3 a4 a5 a6 : Option Value} {x : Int64} (hd : dc Y.2.1 pc (.lstore 5) 2 nx) (hn : 5 + 1 < Y.2.2.1) (hc : c1 a4 = true) (kk : Wp l D Y R n0 X E nx (a0 :: a1 :: a2 :: a3 :: a4 :: some (.long x) :: none :: L) st h n) : Wp l D Y R n0 X E pc (a0 :: a1 :: a2 :: a3 :: a4 :: a5 :: a6 :: L) (.long x :: st) h n := w_lstore (i := 5) hd hn (by simp) hc kk
theorem w_istore_6 {a0 a1 a2 a3 a4 a5 a6 : Option Value} {x : Int32} (hd : dc Y.2.1 pc (.istore 6) 2 nx) (hn : 6 < Y.2.2.1) (hc : c1 a5 = true) (kk : Wp l D Y R n0 X E nx (a0 :: a1 :: a2 :: a3 :: a4 :: a5 :: some (.int x) :: L) st h n) : Wp l D Y R n0 X E pc (a0 :: a1 :: a2 :: a3 :: a4 :: a5 :: a6 :: L) (.int x :: st) h n := w_istore (i := 6) hd hn (by simp) hc kk
theorem w_iinc_6 {a0 a1 a2 a3 a4 a5 : Option Value} {z : Int} {x v : Int32} (hd : dc Y.2.1 pc (.iinc 6 z) 3 nx) (hv : Int32.ofInt z = v) (hn : 6 < Y.2.2.1) (hc : c1 a5 = true) (kk : Wp l D Y R n0 X E nx (a0 :: a1 :: a2 :: a3 :: a4 :: a5 :: some (.int (x + v)) :: L) st h n) : Wp l D Y R n0 X E pc (a0 :: a1 :: a2 :: a3 :: a4 :: a5 :: some (.int x) :: L) st h n := w_iinc (i := 6) hd rfl hv hn hc kk
theorem w_lstore_6 {a0 a1 a2 a3 a4 a5 a6 a7 : Option Value} {x : Int64} (hd : dc Y.2.1 pc (.lstore 6) 2 nx) (hn : 6 + 1 < Y.2.2.1) (hc : c1 a5 = true) (kk : Wp l D Y R n0 X E nx (a0 :: a1 :: a2 :: a3 :: a4 :: a5 :: some (.long x) :: none :: L) st h n) : Wp l D Y R n0 X E pc (a0 :: a1 :: a2 :: a3 :: a4 :: a5 :: a6 :: a7 :: L) (.long x :: st) h n := w_lstore (i := 6) hd hn (by simp) hc kk
theorem w_istore_7 {a0 a1 a2 a3 a4 a5 a6 a7 : Option Value} {x : Int32} (hd : dc Y.2.1 pc (.istore 7) 2 nx) (hn : 7 < Y.2.2.1) (hc : c1 a6 = true) (kk : Wp l D Y R n0 X E nx (a0 :: a1 :: a2 :: a3 :: a4 :: a5 :: a6 :: some (.int x) :: L) st h n) : Wp l D Y R n0 X E pc (a0 :: a1 :: a2 :: a3 :: a4 :: a5 :: a6 :: a7 :: L) (.int x :: st) h n := w_istore (i := 7) hd hn (by simp) hc kk
theorem w_iinc_7 {a0 a1 a2 a3 a4 a5 a6 : Option Value} {z : Int} {x v : Int32} (hd : dc Y.2.1 pc (.iinc 7 z) 3 nx) (hv : Int32.ofInt z = v) (hn : 7 < Y.2.2.1) (hc : c1 a6 = true) (kk : Wp l D Y R n0 X E nx (a0 :: a1 :: a2 :: a3 :: a4 :: a5 :: a6 :: some (.int (x + v)) :: L) st h n) : Wp l D Y R n0 X E pc (a0 :: a1 :: a2 :: a3 :: a4 :: a5 :: a6 :: some (.int x) :: L) st h n := w_iinc (i := 7) hd rfl hv hn hc kk
theorem w_lstore_7 {a0 a1 a2 a3 a4 a5 a6 a7 a8 : Option Value} {x : Int64} (hd : dc Y.2.1 pc (.lstore 7) 2 nx) (hn : 7 + 1 < Y.2.2.1) (hc : c1 a6 = true) (kk : Wp l D Y R n0 X E nx (a0 :: a1 :: a2 :: a3 :: a4 :: a5 :: a6 :: some (.long x) :: none :: L) st h n) : Wp l D Y R n0 X E pc (a0 :: a1 :: a2 :: a3 :: a4 :: a5 :: a6 :: a7 :: a8 :: L) (.long x :: st) h n := w_lstore (i := 7) hd hn (by simp) hc kk
theorem w_istore_8 {a0 a1 a2 a3 a4 a5 a6 a7 a8 : Option Value} {x : Int32} (hd : dc Y.2.1 pc (.istore 8) 2 nx) (hn : 8 < Y.2.2.1) (hc : c1 a7 = true) (kk : Wp l D Y R n0 X E nx (a0 :: a1 :: a2 :: a3 :: a4 :: a5 :: a6 :: a7 :: some (.int x) :: L) st h n) : Wp l D Y R n0 X E pc (a0 :: a1 :: a2 :: a3 :: a4 :: a5 :: a6 :: a7 :: a8 :: L) (.int x :: st) h n := w_istore (i := 8) hd hn (by simp) hc kk
theorem w_iinc_8 {a0 a1 a2 a3 a4 a5 a6 a7 : Option Value} {z : Int} {x v : Int32} (hd : dc Y.2.1 pc (.iinc 8 z) 3 nx) (hv : Int32.ofInt z = v) (hn : 8 < Y.2.2.1) (hc : c1 a7 = true) (kk : Wp l D Y R n0 X E nx (a0 :: a1 :: a2 :: a3 :: a4 :: a5 :: a6 :: a7 :: some (.int (x + v)) :: L) st h n) : Wp l D Y R n0 X E pc (a0 :: a1 :: a2 :: a3 :: a4 :: a5 :: a6 :: a7 :: some (.int x) :: L) st h n := w_iinc (i := 8) hd rfl hv hn hc kk
theorem w_lstore_8 {a0 a1 a2 a3 a4 a5 a6 a7 a8 a9 : Option Value} {x : Int64} (hd : dc Y.2.1 pc (.lstore 8) 2 nx) (hn : 8 + 1 < Y.2.2.1) (hc : c1 a7 = true) (kk : Wp l D Y R n0 X E nx (a0 :: a1 :: a2 :: a3 :: a4 :: a5 :: a6 :: a7 :: some (.long x) :: none :: L) st h n) : Wp l D Y R n0 X E pc (a0 :: a1 :: a2 :: a3 :: a4 :: a5 :: a6 :: a7 :: a8 :: a9 :: L) (.long x :: st) h n := w_lstore (i := 8) hd hn (by simp) hc kk
theorem w_istore_9 {a0 a1 a2 a3 a4 a5 a6 a7 a8 a9 : Option Value} {x : Int32} (hd : dc Y.2.1 pc (.istore 9) 2 nx) (hn : 9 < Y.2.2.1) (hc : c1 a8 = true) (kk : Wp l D Y R n0 X E nx (a0 :: a1 :: a2 :: a3 :: a4 :: a5 :: a6 :: a7 :: a8 :: some (.int x) :: L) st h n) : Wp l D Y R n0 X E pc (a0 :: a1 :: a2 :: a3 :: a4 :: a5 :: a6 :: a7 :: a8 :: a9 :: L) (.int x :: st) h n := w_istore (i := 9) hd hn (by simp) hc kk
theorem w_iinc_9 {a0 a1 a2 a3 a4 a5 a6 a7 a8 : Option Value} {z : Int} {x v : Int32} (hd : dc Y.2.1 pc (.iinc 9 z) 3 nx) (hv : Int32.ofInt z = v) (hn : 9 < Y.2.2.1) (hc : c1 a8 = true) (kk : Wp l D Y R n0 X E nx (a0 :: a1 :: a2 :: a3 :: a4 :: a5 :: a6 :: a7 :: a8 :: some (.int (x + v)) :: L) st h n) : Wp l D Y R n0 X E pc (a0 :: a1 :: a2 :: a3 :: a4 :: a5 :: a6 :: a7 :: a8 :: some (.int x) :: L) st h n := w_iinc (i := 9) hd rfl hv hn hc kk
theorem w_lstore_9 {a0 a1 a2 a3 a4 a5 a6 a7 a8 a9 a10 : Option Value} {x : Int64} (hd : dc Y.2.1 pc (.lstore 9) 2 nx) (hn : 9 + 1 < Y.2.2.1) (hc : c1 a8 = true) (kk : Wp l D Y R n0 X E nx (a0 :: a1 :: a2 :: a3 :: a4 :: a5 :: a6 :: a7 :: a8 :: some (.long x) :: none :: L) st h n) : Wp l D Y R n0 X E pc (a0 :: a1 :: a2 :: a3 :: a4 :: a5 :: a6 :: a7 :: a8 :: a9 :: a10 :: L) (.long x :: st) h n := w_lstore (i := 9) hd hn (by simp) hc kk
theorem w_istore_10 {a0 a1 a2 a3 a4 a5 a6 a7 a8 a9 a10 : Option Value} {x : Int32} (hd : dc Y.2.1 pc (.istore 10) 2 nx) (hn : 10 < Y.2.2.1) (hc : c1 a9 = true) (kk : Wp l D Y R n0 X E nx (a0 :: a1 :: a2 :: a3 :: a4 :: a5 :: a6 :: a7 :: a8 :: a9 :: some (.int x) :: L) st h n) : Wp l D Y R n0 X E pc (a0 :: a1 :: a2 :: a3 :: a4 :: a5 :: a6 :: a7 :: a8 :: a9 :: a10 :: L) (.int x :: st) h n := w_istore (i := 10) hd hn (by simp) hc kk
theorem w_iinc_10 {a0 a1 a2 a3 a4 a5 a6 a7 a8 a9 : Option Value} {z : Int} {x v : Int32} (hd : dc Y.2.1 pc (.iinc 10 z) 3 nx) (hv : Int32.ofInt z = v) (hn : 10 < Y.2.2.1) (hc : c1 a9 = true) (kk : Wp l D Y R n0 X E nx (a0 :: a1 :: a2 :: a3 :: a4 :: a5 :: a6 :: a7 :: a8 :: a9 :: some (.int (x + v)) :: L) st h n) : Wp l D Y R n0 X E pc (a0 :: a1 :: a2 :: a3 :: a4 :: a5 :: a6 :: a7 :: a8 :: a9 :: some (.int x) :: L) st h n := w_iinc (i := 10) hd rfl hv hn hc kk
theorem w_lstore_10 {a0 a1 a2 a3 a4 a5 a6 a7 a8 a9 a10 a11 : Option Value} {x : Int64} (hd : dc Y.2.1 pc (.lstore 10) 2 nx) (hn : 10 + 1 < Y.2.2.1) (hc : c1 a9 = true) (kk : Wp l D Y R n0 X E nx (a0 :: a1 :: a2 :: a3 :: a4 :: a5 :: a6 :: a7 :: a8 :: a9 :: some (.long x) :: none :: L) st h n) : Wp l D Y R n0 X E pc (a0 :: a1 :: a2 :: a3 :: a4 :: a5 :: a6 :: a7 :: a8 :: a9 :: a10 :: a11 :: L) (.long x :: st) h n := w_lstore (i := 10) hd hn (by simp) hc kk
theorem w_istore_11 {a0 a1 a2 a3 a4 a5 a6 a7 a8 a9 a10 a11 : Option Value} {x : Int32} (hd : dc Y.2.1 pc (.istore 11) 2 nx) (hn : 11 < Y.2.2.1) (hc : c1 a10 = true) (kk : Wp l D Y R n0 X E nx (a0 :: a1 :: a2 :: a3 :: a4 :: a5 :: a6 :: a7 :: a8 :: a9 :: a10 :: some (.int x) :: L) st h n) : Wp l D Y R n0 X E pc (a0 :: a1 :: a2 :: a3 :: a4 :: a5 :: a6 :: a7 :: a8 :: a9 :: a10 :: a11 :: L) (.int x :: st) h n := w_istore (i := 11) hd hn (by simp) hc kk
theorem w_iinc_11 {a0 a1 a2 a3 a4 a5 a6 a7 a8 a9 a10 : Option Value} {z : Int} {x v : Int32} (hd : dc Y.2.1 pc (.iinc 11 z) 3 nx) (hv : Int32.ofInt z = v) (hn : 11 < Y.2.2.1) (hc : c1 a10 = true) (kk : Wp l D Y R n0 X E nx (a0 :: a1 :: a2 :: a3 :: a4 :: a5 :: a6 :: a7 :: a8 :: a9 :: a10 :: some (.int (x + v)) :: L) st h n) : Wp l D Y R n0 X E pc (a0 :: a1 :: a2 :: a3 :: a4 :: a5 :: a6 :: a7 :: a8 :: a9 :: a10 :: some (.int x) :: L) st h n := w_iinc (i := 11) hd rfl hv hn hc kk
theorem w_lstore_11 {a0 a1 a2 a3 a4 a5 a6 a7 a8 a9 a10 a11 a12 : Option Value} {x : Int64} (hd : dc Y.2.1 pc (.lstore 11) 2 nx) (hn : 11 + 1 < Y.2.2.1) (hc : c1 a10 = true) (kk : Wp l D Y R n0 X E nx (a0 :: a1 :: a2 :: a3 :: a4 :: a5 :: a6 :: a7 :: a8 :: a9 :: a10 :: some (.long x) :: none :: L) st h n) : Wp l D Y R n0 X E pc (a0 :: a1 :: a2 :: a3 :: a4 :: a5 :: a6 :: a7 :: a8 :: a9 :: a10 :: a11 :: a12 :: L) (.long x :: st) h n := w_lstore (i := 11) hd hn (by simp) hc kk
theorem w_istore_12 {a0 a1 a2 a3 a4 a5 a6 a7 a8 a9 a10 a11 a12 : Option Value} {x : Int32} (hd : dc Y.2.1 pc (.istore 12) 2 nx) (hn : 12 < Y.2.2.1) (hc : c1 a11 = true) (kk : Wp l D Y R n0 X E nx (a0 :: a1 :: a2 :: a3 :: a4 :: a5 :: a6 :: a7 :: a8 :: a9 :: a10 :: a11 :: some (.int x) :: L) st h n) : Wp l D Y R n0 X E pc (a0 :: a1 :: a2 :: a3 :: a4 :: a5 :: a6 :: a7 :: a8 :: a9 :: a10 :: a11 :: a12 :: L) (.int x :: st) h n := w_istore (i := 12) hd hn (by simp) hc kk
theorem w_iinc_12 {a0 a1 a2 a3 a4 a5 a6 a7 a8 a9 a10 a11 : Option Value} {z : Int} {x v : Int32} (hd : dc Y.2.1 pc (.iinc 12 z) 3 nx) (hv : Int32.ofInt z = v) (hn : 12 < Y.2.2.1) (hc : c1 a11 = true) (kk : Wp l D Y R n0 X E nx (a0 :: a1 :: a2 :: a3 :: a4 :: a5 :: a6 :: a7 :: a8 :: a9 :: a10 :: a11 :: some (.int (x + v)) :: L) st h n) : Wp l D Y R n0 X E pc (a0 :: a1 :: a2 :: a3 :: a4 :: a5 :: a6 :: a7 :: a8 :: a9 :: a10 :: a11 :: some (.int x) :: L) st h n := w_iinc (i := 12) hd rfl hv hn hc kk
theorem w_lstore_12 {a0 a1 a2 a3 a4 a5 a6 a7 a8 a9 a10 a11 a12 a13 : Option Value} {x : Int64} (hd : dc Y.2.1 pc (.lstore 12) 2 nx) (hn : 12 + 1 < Y.2.2.1) (hc : c1 a11 = true) (kk : Wp l D Y R n0 X E nx (a0 :: a1 :: a2 :: a3 :: a4 :: a5 :: a6 :: a7 :: a8 :: a9 :: a10 :: a11 :: some (.long x) :: none :: L) st h n) : Wp l D Y R n0 X E pc (a0 :: a1 :: a2 :: a3 :: a4 :: a5 :: a6 :: a7 :: a8 :: a9 :: a10 :: a11 :: a12 :: a13 :: L) (.long x :: st) h n := w_lstore (i := 12) hd hn (by simp) hc kk
theorem w_istore_13 {a0 a1 a2 a3 a4 a5 a6 a7 a8 a9 a10 a11 a12 a13 : Option Value} {x : Int32} (hd : dc Y.2.1 pc (.istore 13) 2 nx) (hn : 13 < Y.2.2.1) (hc : c1 a12 = true) (kk : Wp l D Y R n0 X E nx (a0 :: a1 :: a2 :: a3 :: a4 :: a5 :: a6 :: a7 :: a8 :: a9 :: a10 :: a11 :: a12 :: some (.int x) :: L) st h n) : Wp l D Y R n0 X E pc (a0 :: a1 :: a2 :: a3 :: a4 :: a5 :: a6 :: a7 :: a8 :: a9 :: a10 :: a11 :: a12 :: a13 :: L) (.int x :: st) h n := w_istore (i := 13) hd hn (by simp) hc kk
theorem w_iinc_13 {a0 a1 a2 a3 a4 a5 a6 a7 a8 a9 a10 a11 a12 : Option Value} {z : Int} {x v : Int32} (hd : dc Y.2.1 pc (.iinc 13 z) 3 nx) (hv : Int32.ofInt z = v) (hn : 13 < Y.2.2.1) (hc : c1 a12 = true) (kk : Wp l D Y R n0 X E nx (a0 :: a1 :: a2 :: a3 :: a4 :: a5 :: a6 :: a7 :: a8 :: a9 :: a10 :: a11 :: a12 :: some (.int (x + v)) :: L) st h n) : Wp l D Y R n0 X E pc (a0 :: a1 :: a2 :: a3 :: a4 :: a5 :: a6 :: a7 :: a8 :: a9 :: a10 :: a11 :: a12 :: some (.int x) :: L) st h n := w_iinc (i := 13) hd rfl hv hn hc kk
theorem w_lstore_13 {a0 a1 a2 a3 a4 a5 a6 a7 a8 a9 a10 a11 a12 a13 a14 : Option Value} {x : Int64} (hd : dc Y.2.1 pc (.lstore 13) 2 nx) (hn : 13 + 1 < Y.2.2.1) (hc : c1 a12 = true) (kk : Wp l D Y R n0 X E nx (a0 :: a1 :: a2 :: a3 :: a4 :: a5 :: a6 :: a7 :: a8 :: a9 :: a10 :: a11 :: a12 :: some (.long x) :: none :: L) st h n) : Wp l D Y R n0 X E pc (a0 :: a1 :: a2 :: a3 :: a4 :: a5 :: a6 :: a7 :: a8 :: a9 :: a10 :: a11 :: a12 :: a13 :: a14 :: L) (.long x :: st) h n := w_lstore (i := 13) hd hn (by simp) hc kk
theorem w_if_eq {x : Int32} {off : Int} {tgt : Nat} (hd : dc Y.2.1 pc (.ifCond .eq off) 3 nx) (ht : (pc : Int) + off = (tgt : Int)) (kt : x = 0 → Wp l D Y R n0 X E tgt L st h n) (kf : ¬ x = 0 → Wp l D Y R n0 X E nx L st h n) : Wp l D Y R n0 X E pc L (.int x :: st) h n := by
  intro p e s m args below meth c B H locs ls C hX h1 h2 h3 h4 h5
  obtain ⟨hd, rfl⟩ := hd
  exact lv_if_eq C.1 C.2.1 hd ht (fun z => (kt z p e s m args below meth c B H locs ls C hX h1 h2 h3 h4 h5)) (fun z => (kf z p e s m args below meth c B H locs ls C hX h1 h2 h3 h4 h5))
theorem w_icmp_eq {x y : Int32} {off : Int} {tgt : Nat} (hd : dc Y.2.1 pc (.if_icmp .eq off) 3 nx) (ht : (pc : Int) + off = (tgt : Int)) (kt : x = y → Wp l D Y R n0 X E tgt L st h n) (kf : ¬ x = y → Wp l D Y R n0 X E nx L st h n) : Wp l D Y R n0 X E pc L (.int y :: .int x :: st) h n := by
  intro p e s m args below meth c B H locs ls C hX h1 h2 h3 h4 h5
  obtain ⟨hd, rfl⟩ := hd
  exact lv_icmp_eq C.1 C.2.1 hd ht (fun z => (kt z p e s m args below meth c B H locs ls C hX h1 h2 h3 h4 h5)) (fun z => (kf z p e s m args below meth c B H locs ls C hX h1 h2 h3 h4 h5))
theorem w_if_ne {x : Int32} {off : Int} {tgt : Nat} (hd : dc Y.2.1 pc (.ifCond .ne off) 3 nx) (ht : (pc : Int) + off = (tgt : Int)) (kt : ¬ x = 0 → Wp l D Y R n0 X E tgt L st h n) (kf : x = 0 → Wp l D Y R n0 X E nx L st h n) : Wp l D Y R n0 X E pc L (.int x :: st) h n := by
  intro p e s m args below meth c B H locs ls C hX h1 h2 h3 h4 h5
  obtain ⟨hd, rfl⟩ := hd
  exact lv_if_ne C.1 C.2.1 hd ht (fun z => (kt z p e s m args below meth c B H locs ls C hX h1 h2 h3 h4 h5)) (fun z => (kf z p e s m args below meth c B H locs ls C hX h1 h2 h3 h4 h5))
theorem w_icmp_ne {x y : Int32} {off : Int} {tgt : Nat} (hd : dc Y.2.1 pc (.if_icmp .ne off) 3 nx) (ht : (pc : Int) + off = (tgt : Int)) (kt : ¬ x = y → Wp l D Y R n0 X E tgt L st h n) (kf : x = y → Wp l D Y R n0 X E nx L st h n) : Wp l D Y R n0 X E pc L (.int y :: .int x :: st) h n := by
  intro p e s m args below meth c B H locs ls C hX h1 h2 h3 h4 h5
  obtain ⟨hd, rfl⟩ := hd
  exact lv_icmp_ne C.1 C.2.1 hd ht (fun z => (kt z p e s m args below meth c B H locs ls C hX h1 h2 h3 h4 h5)) (fun z => (kf z p e s m args below meth c B H locs ls C hX h1 h2 h3 h4 h5))
theorem w_if_lt {x : Int32} {off : Int} {tgt : Nat} (hd : dc Y.2.1 pc (.ifCond .lt off) 3 nx) (ht : (pc : Int) + off = (tgt : Int)) (kt : x < 0 → Wp l D Y R n0 X E tgt L st h n) (kf : ¬ x < 0 → Wp l D Y R n0 X E nx L st h n) : Wp l D Y R n0 X E pc L (.int x :: st) h n := by
  intro p e s m args below meth c B H locs ls C hX h1 h2 h3 h4 h5
  obtain ⟨hd, rfl⟩ := hd
  exact lv_if_lt C.1 C.2.1 hd ht (fun z => (kt z p e s m args below meth c B H locs ls C hX h1 h2 h3 h4 h5)) (fun z => (kf z p e s m args below meth c B H locs ls C hX h1 h2 h3 h4 h5))
theorem w_icmp_lt {x y : Int32} {off : Int} {tgt : Nat} (hd : dc Y.2.1 pc (.if_icmp .lt off) 3 nx) (ht : (pc : Int) + off = (tgt : Int)) (kt : x < y → Wp l D Y R n0 X E tgt L st h n) (kf : ¬ x < y → Wp l D Y R n0 X E nx L st h n) : Wp l D Y R n0 X E pc L (.int y :: .int x :: st) h n := by
  intro p e s m args below meth c B H locs ls C hX h1 h2 h3 h4 h5
  obtain ⟨hd, rfl⟩ := hd
  exact lv_icmp_lt C.1 C.2.1 hd ht (fun z => (kt z p e s m args below meth c B H locs ls C hX h1 h2 h3 h4 h5)) (fun z => (kf z p e s m args below meth c B H locs ls C hX h1 h2 h3 h4 h5))
theorem w_if_ge {x : Int32} {off : Int} {tgt : Nat} (hd : dc Y.2.1 pc (.ifCond .ge off) 3 nx) (ht : (pc : Int) + off = (tgt : Int)) (kt : 0 ≤ x → Wp l D Y R n0 X E tgt L st h n) (kf : ¬ 0 ≤ x → Wp l D Y R n0 X E nx L st h n) : Wp l D Y R n0 X E pc L (.int x :: st) h n := by
  intro p e s m args below meth c B H locs ls C hX h1 h2 h3 h4 h5
  obtain ⟨hd, rfl⟩ := hd
  exact lv_if_ge C.1 C.2.1 hd ht (fun z => (kt z p e s m args below meth c B H locs ls C hX h1 h2 h3 h4 h5)) (fun z => (kf z p e s m args below meth c B H locs ls C hX h1 h2 h3 h4 h5))
theorem w_icmp_ge {x y : Int32} {off : Int} {tgt : Nat} (hd : dc Y.2.1 pc (.if_icmp .ge off) 3 nx) (ht : (pc : Int) + off = (tgt : Int)) (kt : y ≤ x → Wp l D Y R n0 X E tgt L st h n) (kf : ¬ y ≤ x → Wp l D Y R n0 X E nx L st h n) : Wp l D Y R n0 X E pc L (.int y :: .int x :: st) h n := by
  intro p e s m args below meth c B H locs ls C hX h1 h2 h3 h4 h5
  obtain ⟨hd, rfl⟩ := hd
  exact lv_icmp_ge C.1 C.2.1 hd ht (fun z => (kt z p e s m args below meth c B H locs ls C hX h1 h2 h3 h4 h5)) (fun z => (kf z p e s m args below meth c B H locs ls C hX h1 h2 h3 h4 h5))
theorem w_if_gt {x : Int32} {off : Int} {tgt : Nat} (hd : dc Y.2.1 pc (.ifCond .gt off) 3 nx) (ht : (pc : Int) + off = (tgt : Int)) (kt : 0 < x → Wp l D Y R n0 X E tgt L st h n) (kf : ¬ 0 < x → Wp l D Y R n0 X E nx L st h n) : Wp l D Y R n0 X E pc L (.int x :: st) h n := by
  intro p e s m args below meth c B H locs ls C hX h1 h2 h3 h4 h5
  obtain ⟨hd, rfl⟩ := hd
  exact lv_if_gt C.1 C.2.1 hd ht (fun z => (kt z p e s m args below meth c B H locs ls C hX h1 h2 h3 h4 h5)) (fun z => (kf z p e s m args below meth c B H locs ls C hX h1 h2 h3 h4 h5))
theorem w_icmp_gt {x y : Int32} {off : Int} {tgt : Nat} (hd : dc Y.2.1 pc (.if_icmp .gt off) 3 nx) (ht : (pc : Int) + off = (tgt : Int)) (kt : y < x → Wp l D Y R n0 X E tgt L st h n) (kf : ¬ y < x → Wp l D Y R n0 X E nx L st h n) : Wp l D Y R n0 X E pc L (.int y :: .int x :: st) h n := by
  intro p e s m args below meth c B H locs ls C hX h1 h2 h3 h4 h5
  obtain ⟨hd, rfl⟩ := hd
  exact lv_icmp_gt C.1 C.2.1 hd ht (fun z => (kt z p e s m args below meth c B H locs ls C hX h1 h2 h3 h4 h5)) (fun z => (kf z p e s m args below meth c B H locs ls C hX h1 h2 h3 h4 h5))
theorem w_if_le {x : Int32} {off : Int} {tgt : Nat} (hd : dc Y.2.1 pc (.ifCond .le off) 3 nx) (ht : (pc : Int) + off = (tgt : Int)) (kt : x ≤ 0 → Wp l D Y R n0 X E tgt L st h n) (kf : ¬ x ≤ 0 → Wp l D Y R n0 X E nx L st h n) : Wp l D Y R n0 X E pc L (.int x :: st) h n := by
  intro p e s m args below meth c B H locs ls C hX h1 h2 h3 h4 h5
  obtain ⟨hd, rfl⟩ := hd
  exact lv_if_le C.1 C.2.1 hd ht (fun z => (kt z p e s m args below meth c B H locs ls C hX h1 h2 h3 h4 h5)) (fun z => (kf z p e s m args below meth c B H locs ls C hX h1 h2 h3 h4 h5))
theorem w_icmp_le {x y : Int32} {off : Int} {tgt : Nat} (hd : dc Y.2.1 pc (.if_icmp .le off) 3 nx) (ht : (pc : Int) + off = (tgt : Int)) (kt : x ≤ y → Wp l D Y R n0 X E tgt L st h n) (kf : ¬ x ≤ y → Wp l D Y R n0 X E nx L st h n) : Wp l D Y R n0 X E pc L (.int y :: .int x :: st) h n := by
  intro p e s m args below meth c B H locs ls C hX h1 h2 h3 h4 h5
  obtain ⟨hd, rfl⟩ := hd
  exact lv_icmp_le C.1 C.2.1 hd ht (fun z => (kt z p e s m args below meth c B H locs ls C hX h1 h2 h3 h4 h5)) (fun z => (kf z p e s m args below meth c B H locs ls C hX h1 h2 h3 h4 h5))
theorem w_goto {off : Int} {tgt : Nat} (hd : dc Y.2.1 pc (.goto off) 3 nx) (ht : (pc : Int) + off = (tgt : Int)) (k : Wp l D Y R n0 X E tgt L st h n) : Wp l D Y R n0 X E pc L st h n := by
  intro p e s m args below meth c B H locs ls C hX h1 h2 h3 h4 h5
  obtain ⟨hd, rfl⟩ := hd
  exact lv_goto C.1 C.2.1 hd ht (k p e s m args below meth c B H locs ls C hX h1 h2 h3 h4 h5)
theorem w_ifnonnull {x : Nat} {off : Int} {tgt : Nat} (hd : dc Y.2.1 pc (.ifnonnull off) 3 nx) (ht : (pc : Int) + off = (tgt : Int)) (k : Wp l D Y R n0 X E tgt L st h n) : Wp l D Y R n0 X E pc L (.ref x :: st) h n := by
  intro p e s m args below meth c B H locs ls C hX h1 h2 h3 h4 h5
  obtain ⟨hd, rfl⟩ := hd
  exact lv_ifnonnull C.1 C.2.1 hd ht (k p e s m args below meth c B H locs ls C hX h1 h2 h3 h4 h5)
theorem w_ifnonnullN {off : Int} (hd : dc Y.2.1 pc (.ifnonnull off) 3 nx) (k : Wp l D Y R n0 X E nx L st h n) : Wp l D Y R n0 X E pc L (.null :: st) h n := by
  intro p e s m args below meth c B H locs ls C hX h1 h2 h3 h4 h5
  obtain ⟨hd, rfl⟩ := hd
  exact lv_ifnonnullN C.1 C.2.1 hd (k p e s m args below meth c B H locs ls C hX h1 h2 h3 h4 h5)
theorem w_tableIn {dflt lo hi : Int} {offs : Array Int} {len : Nat} {x : Int32} {off : Int} {tgt : Nat} (hd : dc Y.2.1 pc (.tableswitch dflt lo hi offs) len nx) (g1 : ¬ x.toInt < lo) (g2 : ¬ hi < x.toInt) (ho : offs[(x.toInt - lo).toNat]? = some off) (ht : (pc : Int) + off = (tgt : Int)) (k : Wp l D Y R n0 X E tgt L st h n) : Wp l D Y R n0 X E pc L (.int x :: st) h n := by
  intro p e s m args below meth c B H locs ls C hX h1 h2 h3 h4 h5
  obtain ⟨hd, rfl⟩ := hd
  exact lv_tableIn C.1 C.2.1 hd g1 g2 ho ht (k p e s m args below meth c B H locs ls C hX h1 h2 h3 h4 h5)
theorem w_tableOut {dflt lo hi : Int} {offs : Array Int} {len : Nat} {x : Int32} {tgt : Nat} (hd : dc Y.2.1 pc (.tableswitch dflt lo hi offs) len nx) (g : x.toInt < lo ∨ hi < x.toInt) (ht : (pc : Int) + dflt = (tgt : Int)) (k : Wp l D Y R n0 X E tgt L st h n) : Wp l D Y R n0 X E pc L (.int x :: st) h n := by
  intro p e s m args below meth c B H locs ls C hX h1 h2 h3 h4 h5
  obtain ⟨hd, rfl⟩ := hd
  exact lv_tableOut C.1 C.2.1 hd g ht (k p e s m args below meth c B H locs ls C hX h1 h2 h3 h4 h5)
theorem w_lookup {dflt : Int} {ps : Array (Int × Int)} {len : Nat} {x : Int32} {off : Int} {tgt : Nat} (hd : dc Y.2.1 pc (.lookupswitch dflt ps) len nx) (hp : (ps.toList.zip (ps.toList.drop 1)).all (fun (a, next) => a.1 < next.1) = true) (ho : Op.lookupswitch.offset ps.toList dflt x.toInt = off) (ht : (pc : Int) + off = (tgt : Int)) (k : Wp l D Y R n0 X E tgt L st h n) : Wp l D Y R n0 X E pc L (.int x :: st) h n := by
  intro p e s m args below meth c B H locs ls C hX h1 h2 h3 h4 h5
  obtain ⟨hd, rfl⟩ := hd
  exact lv_lookup C.1 C.2.1 hd hp ho ht (k p e s m args below meth c B H locs ls C hX h1 h2 h3 h4 h5)
end PW
end
section
theorem pW_get (B : Nat) (ca : Nat → ClassId) (h : PH) (i : Nat) : (pW B ca h)[i]? = (h[i]?).map (fun c => (B + i, pE B (ca i) c)) := by
  simp [pW, List.getElem?_mapIdx]
theorem pW_at {B : Nat} {ca : Nat → ClassId} {h : PH} {i : Nat} {c : PC} (hc : h[i]? = some c) : (pW B ca h)[i]? = some (B + i, pE B (ca i) c) := by rw [pW_get, hc]; rfl
theorem pW_key {B : Nat} {ca : Nat → ClassId} {h : PH} {i : Nat} {q : Nat × va_E} (hq : (pW B ca h)[i]? = some q) : q.1 = B + i ∧ i < h.length := by
  rw [pW_get] at hq
  cases hh : h[i]? with
  | none => rw [hh] at hq; cases hq
  | some c => rw [hh] at hq; cases hq; exact ⟨rfl, (List.getElem?_eq_some_iff.mp hh).1⟩
theorem pW_D (B : Nat) (ca : Nat → ClassId) (h : PH) : va_D (fun q => B ≤ q) (pW B ca h) :=
  ⟨fun i j p q hi hj hpq => by have := (pW_key hi).1; have := (pW_key hj).1; omega, fun k q hk => by have := (pW_key hk).1; show B ≤ q.1; omega⟩
theorem pW_set (B : Nat) (ca : Nat → ClassId) (h : PH) (i : Nat) (c : PC) : pW B ca (h.set i c) = (pW B ca h).set i (B + i, pE B (ca i) c) := by
  apply List.ext_getElem?
  intro j
  rw [pW_get]
  by_cases hj : j = i
  · subst hj
    by_cases hl : j < h.length
    · rw [List.getElem?_set_self hl, List.getElem?_set_self (by simp [pW]; exact hl)]; rfl
    · rw [List.getElem?_eq_none (by rw [List.length_set]; omega), List.getElem?_eq_none (by rw [List.length_set]; simp [pW]; omega)]; rfl
  · rw [List.getElem?_set_ne (Ne.symm hj), List.getElem?_set_ne (Ne.symm hj), pW_get]
theorem Sim.moved {D : va_G} {B : Nat} {h : PH} {u U : State} {H : Heap} (hvm : u.vm.Alike U.vm) (hs : Sim D B h u H) : Sim D B h U H := by
  obtain ⟨h1, ca, h2, h3⟩ := hs
  exact ⟨h1, ca, h2, fun i ty a hi => ⟨arrOfT_moved hvm (h3 i ty a hi).1, (h3 i ty a hi).2.moved hvm⟩⟩
theorem pNs_warm {w : Cond} {s U : State} (hw : isNest w = true) (hW : s.WarmedH U.vm) (hZ : va_Nw w s) : va_Nw w U := by
  cases w <;> first | exact va_Nw.warmF hW hZ | exact va_Nw.warmM hW hZ | (simp [isNest] at hw)
theorem pNs_same {w : Cond} {u U : State} (hw : isNest w = true) (hv : u.vm = U.vm) (hZ : va_Nw w u) : va_Nw w U := by
  refine va_Nw.same ?_ hv hZ
  cases w <;> first | rfl | (simp [isNest] at hw)
theorem pG.warm {D : va_G} {s U : State} (hW : s.WarmedH U.vm) (hg : pG D s) : pG D U :=
  ⟨hg.1.moved hW.alike, fun w hw => pNs_warm (List.mem_filter.mp hw).2 hW (hg.2.1 w hw), hg.2.2.moved hW.alike⟩
theorem pG.same {D : va_G} {u U : State} (hv : u.vm = U.vm) (ha : u.vm.Alike U.vm) (hg : pG D u) : pG D U :=
  ⟨hg.1.moved ha, fun w hw => pNs_same (List.mem_filter.mp hw).2 hv (hg.2.1 w hw), hg.2.2.moved ha⟩
/-- the heap isn't larger than the cells that the walk has counted -/
theorem W_size {p : Program} {l : Launch} {e : Env} {R : Room} {s : State} {m : MethodId} {args : Array Value} {below : List Frame} {meth : Method} {c : Code} {H : Heap} {locs : List Loc} {cells slots : Nat} {Q : State → Prop} {g : JFrame} (kk : H.size ≤ s.heap.size + cells → W p l e R s m args below meth c H locs cells slots Q g) : W p l e R s m args below meth c H locs cells slots Q g := by
  intro T hT X
  have hz : T.heap.size ≤ s.heap.size + cells := X.same.2.2.1
  exact kk (by rw [← hT]; exact hz) T hT X
theorem sim_set {D : va_G} {B i : Nat} {h : PH} {s : State} {H1 : Heap} {ca : Nat → ClassId} {c0 c : PC} (hA : pArr s ca h) (hc : h[i]? = some c0) (hP : va_P D vwCl ((pW B ca h).set i (B + i, pE B (ca i) c)) H1) (hz : H1.size ≤ B + h.length) (hty : ∀ ty a, c = .inl (ty, a) → ∃ a0, c0 = .inl (ty, a0)) : Sim D B (h.set i c) s H1 := by
  rw [← pW_set] at hP
  have hl : i < h.length := (List.getElem?_eq_some_iff.mp hc).1
  refine ⟨?_, ca, hP, ?_⟩
  · have hlast : (h.set i c)[h.length - 1]? = some ((h.set i c)[h.length - 1]'(by rw [List.length_set]; omega)) := List.getElem?_eq_getElem _
    have h1 := (hP (h.length - 1) _ (pW_at hlast)).lt
    rw [List.length_set]
    have h2 : B + (h.length - 1) < H1.size := h1
    omega
  · intro j ty a hj
    by_cases hji : j = i
    · subst hji
      rw [List.getElem?_set_self hl] at hj
      obtain ⟨a0, ha0⟩ := hty ty a (Option.some.inj hj)
      exact hA j ty a0 (by rw [hc, ha0])
    · rw [List.getElem?_set_ne (Ne.symm hji)] at hj
      exact hA j ty a hj
def pK1 {D : va_G} {s : State} {cA : ClassId} {ty : FieldType} (hK : va_K D vwCl [] s) (h1 : ArrOfT s cA ty) (h2 : va_RA s cA ty) : va_K D vwCl [(cA, ty)] s := ⟨hK.1, fun k q hk => by
  cases k with
  | zero => cases hk; exact ⟨h1, h2⟩
  | succ k => cases hk⟩
/-- a cell is added at the end -/
theorem sim_add {D : va_G} {B q : Nat} {h : PH} {s : State} {H1 : Heap} {ca : Nat → ClassId} {c : PC} {cA : ClassId} (hA : pArr s ca h) (hP : va_P D vwCl (pW B ca h ++ [(q, pE B cA c)]) H1) (hD : va_D (fun q => B ≤ q) (pW B ca h ++ [(q, pE B cA c)])) (hz : H1.size ≤ B + h.length + 1) (hty : ∀ ty a, c = .inl (ty, a) → ArrOfT s cA ty ∧ va_RA s cA ty) : q = B + h.length ∧ Sim D B (h ++ [c]) s H1 := by
  have hlen : (pW B ca h).length = h.length := by simp [pW]
  have hq0 : (pW B ca h ++ [(q, pE B cA c)])[h.length]? = some (q, pE B cA c) := by rw [List.getElem?_append_right (by omega), hlen, Nat.sub_self]; rfl
  have hlt : q < H1.size := (hP h.length _ hq0).lt
  have hge : B ≤ q := hD.2 _ _ hq0
  have hq : q = B + h.length := by
    rcases Nat.lt_or_ge q (B + h.length) with hlt2 | hge2
    · exfalso
      have hi : q - B < h.length := by omega
      have h1 : (pW B ca h ++ [(q, pE B cA c)])[q - B]? = some (B + (q - B), pE B (ca (q - B)) (h[q - B])) := by
        rw [List.getElem?_append_left (by omega)]
        exact pW_at (List.getElem?_eq_getElem hi)
      have h2 := hD.1 _ _ _ _ h1 hq0 (by show B + (q - B) = q; omega)
      omega
    · omega
  subst hq
  refine ⟨rfl, by rw [List.length_append, List.length_singleton]; omega, fun i => if i = h.length then cA else ca i, ?_, ?_⟩
  · have he : pW B (fun i => if i = h.length then cA else ca i) (h ++ [c]) = pW B ca h ++ [(B + h.length, pE B cA c)] := by
      apply List.ext_getElem?
      intro j
      rw [pW_get]
      rcases Nat.lt_trichotomy j h.length with hj | hj | hj
      · rw [List.getElem?_append_left hj, List.getElem?_append_left (by omega), pW_get, if_neg (by omega)]
      · subst hj
        rw [hq0, List.getElem?_append_right (Nat.le_refl _), Nat.sub_self, if_pos rfl]; rfl
      · rw [List.getElem?_eq_none (by rw [List.length_append, List.length_singleton]; omega), List.getElem?_eq_none (by rw [List.length_append, List.length_singleton]; omega)]; rfl
    rw [he]; exact hP
  · intro i ty a hi
    by_cases hil : i = h.length
    · subst hil
      rw [List.getElem?_append_right (Nat.le_refl _), Nat.sub_self] at hi
      show ArrOfT s (if h.length = h.length then cA else ca h.length) ty ∧ va_RA s (if h.length = h.length then cA else ca h.length) ty
      rw [if_pos rfl]
      exact hty ty a (Option.some.inj hi)
    · have hlt3 : i < h.length := by
        have := (List.getElem?_eq_some_iff.mp hi).1
        rw [List.length_append, List.length_singleton] at this
        omega
      rw [List.getElem?_append_left hlt3] at hi
      show ArrOfT s (if i = h.length then cA else ca i) ty ∧ va_RA s (if i = h.length then cA else ca i) ty
      rw [if_neg hil]
      exact hA i ty a hi
section PHP
variable {l : Launch} {D : va_G} {Y : PMth} {R : Room} {n0 : Nat} {X : State → Array Value → Nat → Prop} {E : List Frame → Array Value → State → Nat → State → Prop} {pc nx : Nat} {L : List (Option Value)} {st : List Value} {h : PH} {n : Nat}
theorem w_get {a ci k idx : Nat} {fin : Bool} {ty : FieldType} {fs : List Value} {v : Value} (hd : dc Y.2.1 pc (.getfield idx) 3 nx) (hf : FLp Y.1.cls idx ci k fin ty) (hc : h[a]? = some (.inr (ci, fs))) (hv : fs[k]? = some v) (kk : Wp l D Y R n0 X E nx L (v :: st) h n) : Wp l D Y R n0 X E pc L (.ref a :: st) h n := by
  intro p e s m args below meth c B H locs ls C hX h1 h2 h3 h4 h5
  obtain ⟨hd, rfl⟩ := hd
  obtain ⟨C0, T, N, ty0, e1, e2, e3, e4, e5, -⟩ := hf
  obtain ⟨hx, hb, hr, hml, hown, hts, hlk, hnm, hG⟩ := id C
  have h3' := id h3
  obtain ⟨hz, ca, hP, hA⟩ := h3'
  have he : (pW B ca h)[a]? = some (B + a, .inr (ci, fs.map (pv B))) := pW_at hc
  have hvv : (fs.map (pv B))[k]? = some (pv B v) := by rw [List.getElem?_map, hv]; rfl
  have same : ∀ x, s.fieldFound? (T k).1 (T k).2.1 (T k).2.2.1 = some x → s.fieldFound? C0 (T k).2.1 (T k).2.2.1 = some x := fun x hx => by rw [e3] at hx; exact hx
  rcases e5 with e5 | ⟨host, e5⟩
  · exact va_get hx hb hts e4 hown hG.1 hP a he e1 k e2 (hts _ e5) same hvv hd (kk p e s m args below meth c B H locs ls C hX h1 h2 h3 h4 h5)
  · exact va_getN hx hb hts e4 hown hG.1 hP a he e1 k e2 (va_Nw.use rfl (hG.2.1 _ e5)) same hvv hd (kk p e s m args below meth c B H locs ls C hX h1 h2 h3 h4 h5)
theorem w_put {a ci k idx : Nat} {ty : FieldType} {fs : List Value} {v : Value} (hd : dc Y.2.1 pc (.putfield idx) 3 nx) (hf : FLp Y.1.cls idx ci k false ty) (hc : h[a]? = some (.inr (ci, fs))) (hk : k < fs.length) (hn : ∀ B, narrow ty (pv B v) = pv B v) (hfit : ∀ B, fits ty (pv B v) = true) (kk : Wp l D Y R n0 X E nx L st (h.set a (.inr (ci, fs.set k v))) n) : Wp l D Y R n0 X E pc L (v :: .ref a :: st) h n := by
  intro p e s m args below meth c B H locs ls C hX h1 h2 h3 h4 h5
  obtain ⟨hd, rfl⟩ := hd
  obtain ⟨C0, T, N, ty0, e1, e2, e3, e4, e5, e6, e7, e8, e9⟩ := hf
  obtain ⟨hx, hb, hr, hml, hown, hts, hlk, hnm, hG⟩ := id C
  obtain ⟨hz, ca, hP, hA⟩ := h3
  have he : (pW B ca h)[a]? = some (B + a, .inr (ci, fs.map (pv B))) := pW_at hc
  have same : ∀ x, s.fieldFound? (T k).1 (T k).2.1 (T k).2.2.1 = some x → s.fieldFound? C0 (T k).2.1 (T k).2.2.1 = some x := fun x hx => by rw [e3] at hx; exact hx
  have go : ∀ (H1 : Heap) (locs1 : List Loc), va_P D vwCl ((pW B ca h).set a (B + a, .inr (ci, (fs.map (pv B)).set k (pv B v)))) H1 → va_D (fun q => B ≤ q) ((pW B ca h).set a (B + a, .inr (ci, (fs.map (pv B)).set k (pv B v)))) → va_S (fun q => B ≤ q) s.heap H1 locs1 → W p l e R s m args below meth c H1 locs1 (h.length - n0) n (E below args s B) (F0 m (pc + 3) ls (st.map (pv B))) := by
    intro H1 locs1 g1 g2 g3
    rw [← List.map_set] at g1
    refine W_size fun hle => ?_
    have hs := sim_set (c := .inr (ci, fs.set k v)) hA hc g1 (by omega) (fun ty a q => by cases q)
    have := kk p e s m args below meth c B H1 locs1 ls C hX h1 (by rw [List.length_set]; exact h2) hs g3 h5
    rw [List.length_set] at this
    exact this
  rcases e5 with e5 | ⟨host, e5⟩
  · exact va_put hx hb hts e4 ty0 e6 e7 hown hG.1 hP (pW_D B ca h) h4 a he e1 k e2 (hts _ e5) same e8 e9 (hn B) (hfit B) (by rw [List.length_map]; exact hk) hd go
  · exact va_putN hx hb hts e4 ty0 e6 e7 hown hG.1 hP (pW_D B ca h) h4 a he e1 k e2 (va_Nw.use rfl (hG.2.1 _ e5)) same e8 e9 (hn B) (hfit B) (by rw [List.length_map]; exact hk) hd go
theorem w_putF {a ci k idx : Nat} {ty : FieldType} {fs : List Value} {v : Value} (hd : dc Y.2.1 pc (.putfield idx) 3 nx) (hf : FLp Y.1.cls idx ci k true ty) (hY : Y.1.name = "<init>") {T1 : u_T} {N1 : Nat} (hC : vwCl[ci]? = some (Y.1.cls, T1, N1)) (hl : Cond.fieldLink Y.1.cls idx Y.1.cls (T1 k).2.1 (T1 k).2.2.1 ∈ pTb) (hc : h[a]? = some (.inr (ci, fs))) (hk : k < fs.length) (hn : ∀ B, narrow ty (pv B v) = pv B v) (hfit : ∀ B, fits ty (pv B v) = true) (kk : Wp l D Y R n0 X E nx L st (h.set a (.inr (ci, fs.set k v))) n) : Wp l D Y R n0 X E pc L (v :: .ref a :: st) h n := by
  intro p e s m args below meth c B H locs ls C hX h1 h2 h3 h4 h5
  obtain ⟨hd, rfl⟩ := hd
  obtain ⟨C0, T, N, ty0, e1, e2, e3, e4, e5, e6, e7, e8, e9⟩ := hf
  obtain ⟨hx, hb, hr, hml, hown, hts, hlk, hnm, hG⟩ := id C
  obtain ⟨hz, ca, hP, hA⟩ := h3
  have he : (pW B ca h)[a]? = some (B + a, .inr (ci, fs.map (pv B))) := pW_at hc
  rw [hC] at e1
  cases e1
  have same : ∀ x, s.fieldFound? (T1 k).1 (T1 k).2.1 (T1 k).2.2.1 = some x → s.fieldFound? Y.1.cls (T1 k).2.1 (T1 k).2.2.1 = some x := fun x hx => by rw [e3] at hx; exact hx
  have go : ∀ (H1 : Heap) (locs1 : List Loc), va_P D vwCl ((pW B ca h).set a (B + a, .inr (ci, (fs.map (pv B)).set k (pv B v)))) H1 → va_D (fun q => B ≤ q) ((pW B ca h).set a (B + a, .inr (ci, (fs.map (pv B)).set k (pv B v)))) → va_S (fun q => B ≤ q) s.heap H1 locs1 → W p l e R s m args below meth c H1 locs1 (h.length - n0) n (E below args s B) (F0 m (pc + 3) ls (st.map (pv B))) := by
    intro H1 locs1 g1 g2 g3
    rw [← List.map_set] at g1
    refine W_size fun hle => ?_
    have hs := sim_set (c := .inr (ci, fs.set k v)) hA hc g1 (by omega) (fun ty a q => by cases q)
    have := kk p e s m args below meth c B H1 locs1 ls C hX h1 (by rw [List.length_set]; exact h2) hs g3 h5
    rw [List.length_set] at this
    exact this
  exact va_putF hx hb hts e4 ty0 e6 e7 hown hG.1 hP (pW_D B ca h) h4 a he hC k e2 (hts _ hl) same e8 (by rw [hnm, hY]) e3 e9 (hn B) (hfit B) (by rw [List.length_map]; exact hk) hd go
end PHP
end
section
def ia (N : Nat) (f : Nat → Int32) : PC := .inl (.int, (N, .inl f))
def pRm (d mc ms : Nat) : Room := { frames := d, cells := mc, slots := ms, locals := 40 * d }
def pQ (D : va_G) (B n0 mc : Nat) (r : Option Value) (h2 : PH) : Array Value → State → Outcome → State → Prop := fun _ st oc t => (oc = .returned (r.map (pv B)) ∧ h2.length = n0 + mc ∧ Sim D B h2 t t.heap) ∧ va_F (fun q => B ≤ q) st t
def mE (D : va_G) (n0 mc ms : Nat) (r : Option Value) (h2 : PH) : List Frame → Array Value → State → Nat → State → Prop := fun below args s B => MQ below (pQ D B n0 mc r h2) args s mc ms (fun q => B ≤ q)
/-- method Y, d frames deep, with these arguments, from heap h: answers r, the heap is h2 then; mc cells of ms slots are made -/
def PM (l : Launch) (D : va_G) (Y : PMth) (d : Nat) (args : List Value) (h : PH) (mc ms : Nat) (r : Option Value) (h2 : PH) : Prop :=
  ∀ B : Nat, Met l Y.1 (Cond.code Y.1 Y.2.1 Y.2.2.1 Y.2.2.2 :: pTb) (pRm d mc ms) (fun v U => v = (args.map (pv B)).toArray ∧ pG D U ∧ Sim D B h U U.heap) (pQ D B h.length mc r h2) mc ms (fun q => B ≤ q)
theorem pm_of {l : Launch} {D : va_G} {Y : PMth} {d mc ms nA : Nat} {args : List Value} {h h2 : PH} {r : Option Value} (hb : KBp Y nA) (L : List (Option Value)) (hL : ∀ B, pL B 0 L = lv_args 0 (args.map (pv B))) (hlen : ∀ B, (lg_sl (args.map (pv B))).length ≤ Y.2.2.1) (k : Wp l D Y (pRm d mc ms) h.length (fun _ _ _ => True) (mE D h.length mc ms r h2) 0 L [] h 0) : PM l D Y d args h mc ms r h2 := by
  intro B
  refine Met.ofW (cc := Y.2.1) (maxL := Y.2.2.1) (ret := Y.2.2.2) hb.2.2.2 rfl ?_
  intro p e s m args' below meth c s₁ Bd hml hv
  obtain ⟨rfl, hG, hS⟩ := hv
  have hl := lv_entry (args.map (pv B)) (n := Y.2.2.1) (hlen B)
  rw [lg_entry_eq]
  have := k p e s m _ below meth c B s.heap [] _ ⟨Bd.exec, Bd.bytes, Bd.returns, hml, findClass_of_methodNamed Bd.named, fun w hw => atoms_spec (ws := Cond.code Y.1 Y.2.1 Y.2.2.1 Y.2.2.2 :: pTb) Bd.pre w (List.mem_cons_of_mem _ hw), Bd.notSynchronized, (name_of_methodNamed Bd.named Bd.method).1, hG⟩ trivial hS.1 (Nat.le_refl _) hS va_S.rf (by rw [hL B]; exact hl)
  rw [Nat.sub_self] at this
  exact this
theorem pGood {w : Cond} (hw : w ∈ pTb) : GoodIn pTb (w :: pTb) := by
  intro w' h'
  rcases List.mem_cons.mp h' with rfl | h'
  · exact ⟨hw, good_of_word (List.mem_filter.mp hw).2⟩
  · exact ⟨h', good_of_word (List.mem_filter.mp h').2⟩
section PCL
variable {l : Launch} {D : va_G} {Y : PMth} {R : Room} {n0 : Nat} {X : State → Array Value → Nat → Prop} {E : List Frame → Array Value → State → Nat → State → Prop} {pc nx : Nat} {L : List (Option Value)} {st st0 : List Value} {h h2 : PH} {n : Nat}
theorem pm_blind {args : List Value} {B : Nat} : FrameBlind (fun v U => v = (args.map (pv B)).toArray ∧ pG D U ∧ Sim D B h U U.heap) := by
  intro a U g mk q
  obtain ⟨q0, q1, q2⟩ := q
  exact ⟨q0, pG.same (u := U) (U := U.calling g mk a) rfl (Vm.Alike.refl U.vm) q1, Sim.moved (U := U.calling g mk a) (Vm.Alike.refl U.vm) q2⟩
/-- behind a call -/
theorem p_call {p : Program} {e : Env} {s : State} {m : MethodId} {args : Array Value} {below : List Frame} {meth : Method} {c : Code} {B : Nat} {H : Heap} {locs : List Loc} {ls : Array Slot} {cells slots mc ms : Nat} {Q : State → Prop} {rest stk : List Value} {a : Array Value} {r : Option Value} (hr : va_Run p l e R s m args below meth c H locs cells slots mc ms (F0 m pc ls stk) rest (pQ D B h.length mc r h2 a) (fun q => B ≤ q)) (hS : va_S (fun q => B ≤ q) s.heap H locs)
    (kk : ∀ (H1 : Heap) (locs1 : List Loc), h2.length = h.length + mc → Sim D B h2 s H1 → va_S (fun q => B ≤ q) s.heap H1 locs1 → W p l e R s m args below meth c H1 locs1 (cells + mc) (slots + ms) Q (F0 m (pc + 3) ls ((r.map (pv B)).toList ++ rest))) : W p l e R s m args below meth c H locs cells slots Q (F0 m pc ls stk) := by
  intro T hT X
  obtain ⟨v, st₀, t, T', Lx, h0, X', hLx, e1, e2, ⟨⟨hv, hlen, hSim⟩, hz, hk⟩, stp⟩ := hr T hT X
  cases hv
  rw [h0] at hz hk
  have hal : s.vm.Alike t.vm := by rw [← e2]; exact X'.warmed.alike
  obtain ⟨t2, a1, b1⟩ := kk T'.heap (locs ++ Lx) hlen (by rw [e1]; exact hSim.moved hal.symm)
    ⟨Nat.le_trans hS.1 (by rw [e1]; exact hz), fun q h1 h2 => by rw [e1, hk q (Nat.lt_of_lt_of_le h1 hS.1) h2]; exact hS.2.1 q h1 h2, fun q hq => by
      rcases List.mem_append.mp hq with h | h
      · exact hS.2.2 q h
      · exact hLx q h⟩ T' rfl X'
  exact ⟨t2, stp t2 a1, b1⟩
theorem p_cat (B : Nat) (vs : List Value) : ((vs.map (pv B)).map fun v => v.category).sum = (vs.map fun v => v.category).sum := by
  rw [List.map_map]; congr 1; apply List.map_congr_left; intro v _; exact pv_cat B v
theorem w_callV {Yc : PMth} {nA d mc ms a ci idx : Nat} {As : List Value} {r : Option Value} {fs : List Value} {T1 : u_T} {N1 : Nat} (hd : dc Y.2.1 pc (.invokevirtual idx) 3 nx) (hk : KVp Y.1.cls idx Yc nA) (hM : PM l D Yc d (.ref a :: As) h mc ms r h2) (hst : st0 = As.reverse ++ .ref a :: st) (hnA : As.length = nA) (hcell : h[a]? = some (.inr (ci, fs))) (hci : vwCl[ci]? = some (Yc.1.cls, T1, N1)) (hfr : d + 1 ≤ R.frames) (hlo : 8 + (Yc.2.2.1 + 11) + 40 * d ≤ R.locals) (hW : (st.map fun v => v.category).sum ≤ 8) (hrc : h.length - n0 + mc ≤ R.cells ∧ n + ms ≤ R.slots) (kk : Wp l D Y R n0 X E nx L (r.toList ++ st) h2 (n + ms)) : Wp l D Y R n0 X E pc L st0 h n := by
  intro p e s m args below meth c B H locs ls C hX h1 hn0 h3 h4 h5
  obtain ⟨hd, rfl⟩ := hd
  subst hst
  obtain ⟨hx, hb, hr, hml, hown, hts, hlk, hnm, hG⟩ := id C
  obtain ⟨⟨k1, k2, k3, k4⟩, k5, k6, k7⟩ := hk
  have h3' := id h3
  obtain ⟨hz, ca, hP, hA⟩ := h3'
  have hstk : (F0 m pc ls ((As.reverse ++ Value.ref a :: st).map (pv B))).stack = (As.map (pv B)).reverse ++ .ref (B + a) :: st.map (pv B) := by
    show (As.reverse ++ Value.ref a :: st).map (pv B) = _
    rw [List.map_append, List.map_reverse]; rfl
  have hPre : PreV s H Yc.1.cls (B + a) (fun v U => v = ((Value.ref a :: As).map (pv B)).toArray ∧ pG D U ∧ Sim D B h U U.heap) (As.map (pv B)) :=
    ⟨pm_blind, va_recv hG.1 hP hci (pW_at hcell), fun U hU hW => ⟨rfl, hG.warm hW, by rw [hU]; exact h3.moved hW.alike⟩⟩
  have hroom : 2 * (F0 m pc ls ((As.reverse ++ Value.ref a :: st).map (pv B))).monitorRoom + ((st.map (pv B)).map fun v => v.category).sum ≤ 8 := lv_room (by rw [p_cat]; exact hW)
  have hrun : va_Run p l e R s m args below meth c H locs (h.length - n0) n mc ms (F0 m pc ls ((As.reverse ++ Value.ref a :: st).map (pv B))) (st.map (pv B)) (pQ D B h.length mc r h2 (Value.ref (B + a) :: As.map (pv B)).toArray) (fun q => B ≤ q) := by
    rcases k5 with k5 | ⟨host, k5⟩
    · exact va_runV (Ts := pTb) (nL := Y.2.2.1) ⟨hx, hb, hml, hown, hts⟩ (hM B) ⟨callB_of nA hts (pGood k1) rfl rfl rfl (hts _ k2) (hts _ k5) k3 ⟨hfr, hlo⟩, hts _ k6, hts _ k7⟩ hPre rfl (by rw [List.length_map]; exact hnA) h5.1 hstk hroom hd hrc
    · exact va_runVN (Ts := pTb) (nL := Y.2.2.1) ⟨hx, hb, hml, hown, hts⟩ (hM B) ⟨va_cnB nA hts (pGood k1) rfl rfl rfl (hG.2.1 _ k5) (hts _ k2) k3 ⟨hfr, hlo⟩, hts _ k6, hts _ k7⟩ hPre rfl (by rw [List.length_map]; exact hnA) h5.1 hstk hroom hd hrc
  refine p_call hrun h4 fun H1 locs1 g1 g2 g3 => ?_
  have := kk p e s m args below meth c B H1 locs1 ls C hX h1 (by omega) g2 g3 h5
  rw [show h2.length - n0 = h.length - n0 + mc by omega] at this
  have he : (r.map (pv B)).toList ++ st.map (pv B) = (r.toList ++ st).map (pv B) := by rw [List.map_append]; cases r <;> rfl
  rw [he]
  exact this
theorem w_callS {Yc : PMth} {nA d mc ms idx : Nat} {As : List Value} {r : Option Value} (hd : dc Y.2.1 pc (.invokestatic idx) 3 nx) (hk : KSp Y.1.cls idx Yc nA) (hM : PM l D Yc d As h mc ms r h2) (hst : st0 = As.reverse ++ st) (hnA : As.length = nA) (hfr : d + 1 ≤ R.frames) (hlo : 8 + (Yc.2.2.1 + 11) + 40 * d ≤ R.locals) (hW : (st.map fun v => v.category).sum ≤ 8) (hrc : h.length - n0 + mc ≤ R.cells ∧ n + ms ≤ R.slots) (kk : Wp l D Y R n0 X E nx L (r.toList ++ st) h2 (n + ms)) : Wp l D Y R n0 X E pc L st0 h n := by
  intro p e s m args below meth c B H locs ls C hX h1 hn0 h3 h4 h5
  obtain ⟨hd, rfl⟩ := hd
  subst hst
  obtain ⟨hx, hb, hr, hml, hown, hts, hlk, hnm, hG⟩ := id C
  obtain ⟨⟨k1, k2, k3, k4⟩, k5, k6⟩ := hk
  have hstk : (F0 m pc ls ((As.reverse ++ st).map (pv B))).stack = (As.map (pv B)).reverse ++ st.map (pv B) := by
    show (As.reverse ++ st).map (pv B) = _
    rw [List.map_append, List.map_reverse]
  have hPre : PreS s H (fun v U => v = (As.map (pv B)).toArray ∧ pG D U ∧ Sim D B h U U.heap) (As.map (pv B)) :=
    ⟨pm_blind, fun U hU hW => ⟨rfl, hG.warm hW, by rw [hU]; exact h3.moved hW.alike⟩⟩
  have hroom : 2 * (F0 m pc ls ((As.reverse ++ st).map (pv B))).monitorRoom + ((st.map (pv B)).map fun v => v.category).sum ≤ 8 := lv_room (by rw [p_cat]; exact hW)
  have hrun : va_Run p l e R s m args below meth c H locs (h.length - n0) n mc ms (F0 m pc ls ((As.reverse ++ st).map (pv B))) (st.map (pv B)) (pQ D B h.length mc r h2 (As.map (pv B)).toArray) (fun q => B ≤ q) := by
    rcases k5 with k5 | ⟨host, k5⟩
    · exact va_runS (Ts := pTb) (nL := Y.2.2.1) ⟨hx, hb, hml, hown, hts⟩ (hM B) ⟨callB_of nA hts (pGood k1) rfl rfl rfl (hts _ k2) (hts _ k5) k3 ⟨hfr, hlo⟩, hts _ k6⟩ hPre rfl (by rw [List.length_map]; exact hnA) h5.1 hstk hroom hd hrc
    · exact va_runSN (Ts := pTb) (nL := Y.2.2.1) ⟨hx, hb, hml, hown, hts⟩ (hM B) ⟨va_cnB nA hts (pGood k1) rfl rfl rfl (hG.2.1 _ k5) (hts _ k2) k3 ⟨hfr, hlo⟩, hts _ k6, trivial⟩ hPre rfl (by rw [List.length_map]; exact hnA) h5.1 hstk hroom hd hrc
  refine p_call hrun h4 fun H1 locs1 g1 g2 g3 => ?_
  have := kk p e s m args below meth c B H1 locs1 ls C hX h1 (by omega) g2 g3 h5
  rw [show h2.length - n0 = h.length - n0 + mc by omega] at this
  have he : (r.map (pv B)).toList ++ st.map (pv B) = (r.toList ++ st).map (pv B) := by rw [List.map_append]; cases r <;> rfl
  rw [he]
  exact this
theorem w_callI {Yc : PMth} {nA d mc ms a idx : Nat} {As : List Value} (hd : dc Y.2.1 pc (.invokespecial idx) 3 nx) (hk : KIp Y.1.cls idx Yc nA) (hM : PM l D Yc d (.ref a :: As) h mc ms none h2) (hst : st0 = As.reverse ++ .ref a :: st) (hnA : As.length = nA) (hfr : d + 1 ≤ R.frames) (hlo : 8 + (Yc.2.2.1 + 11) + 40 * d ≤ R.locals) (hW : (st.map fun v => v.category).sum ≤ 8) (hrc : h.length - n0 + mc ≤ R.cells ∧ n + ms ≤ R.slots) (kk : Wp l D Y R n0 X E nx L st h2 (n + ms)) : Wp l D Y R n0 X E pc L st0 h n := by
  intro p e s m args below meth c B H locs ls C hX h1 hn0 h3 h4 h5
  obtain ⟨hd, rfl⟩ := hd
  subst hst
  obtain ⟨hx, hb, hr, hml, hown, hts, hlk, hnm, hG⟩ := id C
  obtain ⟨⟨k1, k2, k3, k4⟩, k5, k6, k7, k8⟩ := hk
  have hstk : (F0 m pc ls ((As.reverse ++ Value.ref a :: st).map (pv B))).stack = (As.map (pv B)).reverse ++ .ref (B + a) :: st.map (pv B) := by
    show (As.reverse ++ Value.ref a :: st).map (pv B) = _
    rw [List.map_append, List.map_reverse]; rfl
  have hPre : PreS s H (fun v U => v = ((Value.ref a :: As).map (pv B)).toArray ∧ pG D U ∧ Sim D B h U U.heap) (.ref (B + a) :: As.map (pv B)) :=
    ⟨pm_blind, fun U hU hW => ⟨rfl, hG.warm hW, by rw [hU]; exact h3.moved hW.alike⟩⟩
  have hroom : 2 * (F0 m pc ls ((As.reverse ++ Value.ref a :: st).map (pv B))).monitorRoom + ((st.map (pv B)).map fun v => v.category).sum ≤ 8 := lv_room (by rw [p_cat]; exact hW)
  have hMB := hM B
  rw [k8] at k1 hMB
  have hrun : va_Run p l e R s m args below meth c H locs (h.length - n0) n mc ms (F0 m pc ls ((As.reverse ++ Value.ref a :: st).map (pv B))) (st.map (pv B)) (pQ D B h.length mc none h2 (Value.ref (B + a) :: As.map (pv B)).toArray) (fun q => B ≤ q) := by
    rcases k5 with k5 | ⟨host, k5⟩
    · exact va_runI (Ts := pTb) (nL := Y.2.2.1) ⟨hx, hb, hml, hown, hts⟩ hMB ⟨callB_of nA hts (pGood k1) rfl rfl rfl (hts _ k2) (hts _ k5) k3 ⟨hfr, hlo⟩, k7, hts _ k6⟩ hPre rfl (by rw [List.length_map]; exact hnA) h5.1 hstk hroom hd hrc
    · exact va_runIN (Ts := pTb) (nL := Y.2.2.1) ⟨hx, hb, hml, hown, hts⟩ hMB ⟨va_cnB nA hts (pGood k1) rfl rfl rfl (hG.2.1 _ k5) (hts _ k2) k3 ⟨hfr, hlo⟩, k7, hts _ k6⟩ hPre rfl (by rw [List.length_map]; exact hnA) h5.1 hstk hroom hd hrc
  refine p_call hrun h4 fun H1 locs1 g1 g2 g3 => ?_
  have := kk p e s m args below meth c B H1 locs1 ls C hX h1 (by omega) g2 g3 h5
  rw [show h2.length - n0 = h.length - n0 + mc by omega] at this
  exact this
theorem w_objInit {a idx : Nat} (hd : dc Y.2.1 pc (.invokespecial idx) 3 nx) (hl : Cond.methodLink Y.1.cls idx Lib.objectInit ∈ pTb) (hfr : 1 ≤ R.frames) (hlo : 20 ≤ R.locals) (hW : (st.map fun v => v.category).sum ≤ 8) (kk : Wp l D Y R n0 X E nx L st h n) : Wp l D Y R n0 X E pc L (.ref a :: st) h n := by
  intro p e s m args below meth c B H locs ls C hX h1 hn0 h3 h4 h5
  obtain ⟨hd, rfl⟩ := hd
  obtain ⟨hx, hb, hr, hml, hown, hts, hlk, hnm, hG⟩ := id C
  refine W.objInit (a := B + a) (rest := st.map (pv B)) hx hb hown (hts _ hl) (hts _ o_inst) (hts _ o_code) rfl (h5.1.trans hml.symm) rfl hd hfr ?_ (kk p e s m args below meth c B H locs ls C hX h1 hn0 h3 h4 h5)
  have : 2 * (F0 m pc ls ((Value.ref a :: st).map (pv B))).monitorRoom + ((st.map (pv B)).map fun v => v.category).sum ≤ 8 := lv_room (by rw [p_cat]; exact hW)
  omega
/-- the ends of a method -/
theorem w_iret {v v' : Int32} {mc ms : Nat} (hd : dc Y.2.1 pc .ireturn 1 nx) (hr : Y.2.2.2 = some .int) (hv : v = v') (hh : h = h2) (hl : h.length = n0 + mc) (hn : n ≤ ms) : Wp l D Y R n0 X (mE D n0 mc ms (some (.int v')) h2) pc L [.int v] h n := by
  intro p e s m args below meth c B H locs ls C hX h1 hn0 h3 h4 h5
  obtain ⟨hd, rfl⟩ := hd
  subst hv; subst hh
  obtain ⟨hx, hb, hrt, hml, hown, hts, hlk, hnm, hG⟩ := id C
  refine W.widen (k := mc) (n := ms) (by omega) hn ?_
  exact W.iret hx hb (hrt.trans hr) (fun t ht hW => ⟨⟨rfl, hl, by rw [ht]; exact h3.moved hW.alike⟩, h4.F ht⟩) (fun q hq => h4.2.2 q hq) hd hlk
theorem w_zret {v v' : Int32} {mc ms : Nat} (hd : dc Y.2.1 pc .ireturn 1 nx) (hr : Y.2.2.2 = some .boolean) (hz : narrow .boolean (.int v) = .int v) (hv : v = v') (hh : h = h2) (hl : h.length = n0 + mc) (hn : n ≤ ms) : Wp l D Y R n0 X (mE D n0 mc ms (some (.int v')) h2) pc L [.int v] h n := by
  intro p e s m args below meth c B H locs ls C hX h1 hn0 h3 h4 h5
  obtain ⟨hd, rfl⟩ := hd
  subst hv; subst hh
  obtain ⟨hx, hb, hrt, hml, hown, hts, hlk, hnm, hG⟩ := id C
  refine W.widen (k := mc) (n := ms) (by omega) hn ?_
  exact W.zret hx hb (hrt.trans hr) hz (fun t ht hW => ⟨⟨rfl, hl, by rw [ht]; exact h3.moved hW.alike⟩, h4.F ht⟩) (fun q hq => h4.2.2 q hq) hd hlk
theorem w_lret {v v' : Int64} {mc ms : Nat} (hd : dc Y.2.1 pc .lreturn 1 nx) (hr : Y.2.2.2 = some .long) (hv : v = v') (hh : h = h2) (hl : h.length = n0 + mc) (hn : n ≤ ms) : Wp l D Y R n0 X (mE D n0 mc ms (some (.long v')) h2) pc L [.long v] h n := by
  intro p e s m args below meth c B H locs ls C hX h1 hn0 h3 h4 h5
  obtain ⟨hd, rfl⟩ := hd
  subst hv; subst hh
  obtain ⟨hx, hb, hrt, hml, hown, hts, hlk, hnm, hG⟩ := id C
  refine W.widen (k := mc) (n := ms) (by omega) hn ?_
  exact W.lret hx hb (hrt.trans hr) (fun t ht hW => ⟨⟨rfl, hl, by rw [ht]; exact h3.moved hW.alike⟩, h4.F ht⟩) (fun q hq => h4.2.2 q hq) hd hlk
theorem w_vret {mc ms : Nat} (hd : dc Y.2.1 pc .return_ 1 nx) (hr : Y.2.2.2 = none) (hh : h = h2) (hl : h.length = n0 + mc) (hn : n ≤ ms) : Wp l D Y R n0 X (mE D n0 mc ms none h2) pc L [] h n := by
  intro p e s m args below meth c B H locs ls C hX h1 hn0 h3 h4 h5
  obtain ⟨hd, rfl⟩ := hd
  subst hh
  obtain ⟨hx, hb, hrt, hml, hown, hts, hlk, hnm, hG⟩ := id C
  refine W.widen (k := mc) (n := ms) (by omega) hn ?_
  exact W.vret hx hb (hrt.trans hr) (fun t ht hW => ⟨⟨rfl, hl, by rw [ht]; exact h3.moved hW.alike⟩, h4.F ht⟩) (fun q hq => h4.2.2 q hq) hd hlk
end PCL
end
section
def za (N : Nat) (f : Nat → Int32) : PC := .inl (.boolean, (N, .inl f))
def qa (N : Nat) (f : Nat → Option Nat) : PC := .inl (.object RX5, (N, .inr (.inr (.inr (.inr f)))))
section PAR
variable {l : Launch} {D : va_G} {Y : PMth} {R : Room} {n0 : Nat} {X : State → Array Value → Nat → Prop} {E : List Frame → Array Value → State → Nat → State → Prop} {pc nx : Nat} {L : List (Option Value)} {st st0 : List Value} {h h2 : PH} {n : Nat}
theorem w_iald {a N : Nat} {f : Nat → Int32} {i : Int32} (hd : dc Y.2.1 pc .iaload 1 nx) (hc : h[a]? = some (ia N f)) (hi : vp_in i N) (kk : Wp l D Y R n0 X E nx L (.int (f i.toNatClampNeg) :: st) h n) : Wp l D Y R n0 X E pc L (.int i :: .ref a :: st) h n := by
  intro p e s m args below meth c B H locs ls C hX h1 hn0 h3 h4 h5
  obtain ⟨hd, rfl⟩ := hd
  obtain ⟨hx, hb, hr, hml, hown, hts, hlk, hnm, hG⟩ := id C
  have h3' := id h3
  obtain ⟨hz, ca, hP, hA⟩ := h3'
  obtain ⟨a1, a2⟩ := hA a _ _ hc
  exact va_iald (tys := [(ca a, .int)]) hx hb (pK1 hG.1 a1 a2) hP a 0 (pW_at hc) rfl hi hd (kk p e s m args below meth c B H locs ls C hX h1 hn0 h3 h4 h5)
theorem w_zald {a N : Nat} {f : Nat → Int32} {i : Int32} (hd : dc Y.2.1 pc .baload 1 nx) (hc : h[a]? = some (za N f)) (hi : vp_in i N) (kk : Wp l D Y R n0 X E nx L (.int (f i.toNatClampNeg) :: st) h n) : Wp l D Y R n0 X E pc L (.int i :: .ref a :: st) h n := by
  intro p e s m args below meth c B H locs ls C hX h1 hn0 h3 h4 h5
  obtain ⟨hd, rfl⟩ := hd
  obtain ⟨hx, hb, hr, hml, hown, hts, hlk, hnm, hG⟩ := id C
  have h3' := id h3
  obtain ⟨hz, ca, hP, hA⟩ := h3'
  obtain ⟨a1, a2⟩ := hA a _ _ hc
  exact va_zald (tys := [(ca a, .boolean)]) hx hb (pK1 hG.1 a1 a2) hP a 0 (pW_at hc) rfl hi hd (kk p e s m args below meth c B H locs ls C hX h1 hn0 h3 h4 h5)
theorem pv_rf (B : Nat) (r : Option Nat) : va_rf (r.map (fun i => B + i)) = pv B (va_rf r) := by cases r <;> rfl
theorem w_aald {a N : Nat} {f : Nat → Option Nat} {i : Int32} (hd : dc Y.2.1 pc .aaload 1 nx) (hc : h[a]? = some (qa N f)) (hi : vp_in i N) (kk : Wp l D Y R n0 X E nx L (va_rf (f i.toNatClampNeg) :: st) h n) : Wp l D Y R n0 X E pc L (.int i :: .ref a :: st) h n := by
  intro p e s m args below meth c B H locs ls C hX h1 hn0 h3 h4 h5
  obtain ⟨hd, rfl⟩ := hd
  obtain ⟨hx, hb, hr, hml, hown, hts, hlk, hnm, hG⟩ := id C
  have h3' := id h3
  obtain ⟨hz, ca, hP, hA⟩ := h3'
  obtain ⟨a1, a2⟩ := hA a _ _ hc
  refine va_aldq (tys := [(ca a, .object RX5)]) (n := N) (f := fun j => (f j).map (fun i => B + i)) hx hb (pK1 hG.1 a1 a2) hP a 0 (pW_at hc) rfl hi hd ?_
  rw [pv_rf]
  exact kk p e s m args below meth c B H locs ls C hX h1 hn0 h3 h4 h5
theorem w_iast {a N : Nat} {f : Nat → Int32} {i x : Int32} (hd : dc Y.2.1 pc .iastore 1 nx) (hc : h[a]? = some (ia N f)) (hi : vp_in i N) (kk : Wp l D Y R n0 X E nx L st (h.set a (ia N (upd f i.toNatClampNeg x))) n) : Wp l D Y R n0 X E pc L (.int x :: .int i :: .ref a :: st) h n := by
  intro p e s m args below meth c B H locs ls C hX h1 hn0 h3 h4 h5
  obtain ⟨hd, rfl⟩ := hd
  obtain ⟨hx, hb, hr, hml, hown, hts, hlk, hnm, hG⟩ := id C
  obtain ⟨hz, ca, hP, hA⟩ := h3
  obtain ⟨a1, a2⟩ := hA a _ _ hc
  refine va_iast (tys := [(ca a, .int)]) hx hb (pK1 hG.1 a1 a2) hP (pW_D B ca h) h4 a 0 (pW_at hc) rfl hi hd fun H1 locs1 g1 g2 g3 => W_size fun hle => ?_
  have hs := sim_set (c := ia N (upd f i.toNatClampNeg x)) hA hc g1 (by omega) (fun ty a q => by cases q; exact ⟨_, rfl⟩)
  have := kk p e s m args below meth c B H1 locs1 ls C hX h1 (by rw [List.length_set]; exact hn0) hs g3 h5
  rw [List.length_set] at this
  exact this
theorem w_zast {a N : Nat} {f : Nat → Int32} {i x : Int32} (hd : dc Y.2.1 pc .bastore 1 nx) (hc : h[a]? = some (za N f)) (hi : vp_in i N) (hx : vp_nar .boolean x = x) (kk : Wp l D Y R n0 X E nx L st (h.set a (za N (upd f i.toNatClampNeg x))) n) : Wp l D Y R n0 X E pc L (.int x :: .int i :: .ref a :: st) h n := by
  intro p e s m args below meth c B H locs ls C hX h1 hn0 h3 h4 h5
  obtain ⟨hd, rfl⟩ := hd
  have hxx := hx
  obtain ⟨hx, hb, hr, hml, hown, hts, hlk, hnm, hG⟩ := id C
  obtain ⟨hz, ca, hP, hA⟩ := h3
  obtain ⟨a1, a2⟩ := hA a _ _ hc
  refine va_zast (tys := [(ca a, .boolean)]) hx hb (pK1 hG.1 a1 a2) hP (pW_D B ca h) h4 a 0 (pW_at hc) rfl hi hd fun H1 locs1 g1 g2 g3 => W_size fun hle => ?_
  rw [hxx] at g1
  have hs := sim_set (c := za N (upd f i.toNatClampNeg x)) hA hc g1 (by omega) (fun ty a q => by cases q; exact ⟨_, rfl⟩)
  have := kk p e s m args below meth c B H1 locs1 ls C hX h1 (by rw [List.length_set]; exact hn0) hs g3 h5
  rw [List.length_set] at this
  exact this
theorem w_aast {a N v : Nat} {f : Nat → Option Nat} {i : Int32} {fs : List Value} (hd : dc Y.2.1 pc .aastore 1 nx) (hc : h[a]? = some (qa N f)) (hv : h[v]? = some (.inr (5, fs))) (hi : vp_in i N) (kk : Wp l D Y R n0 X E nx L st (h.set a (qa N (va_up f i.toNatClampNeg (some v)))) n) : Wp l D Y R n0 X E pc L (.ref v :: .int i :: .ref a :: st) h n := by
  intro p e s m args below meth c B H locs ls C hX h1 hn0 h3 h4 h5
  obtain ⟨hd, rfl⟩ := hd
  obtain ⟨hx, hb, hr, hml, hown, hts, hlk, hnm, hG⟩ := id C
  obtain ⟨hz, ca, hP, hA⟩ := h3
  obtain ⟨a1, a2⟩ := hA a _ _ hc
  refine va_astq (tys := [(ca a, .object RX5)]) (n := N) (v := B + v) (r := (RX5, TX5, 12)) (f := fun j => (f j).map (fun i => B + i)) hx hb (pK1 hG.1 a1 a2) hP (pW_D B ca h) h4 a 0 v 5 (pW_at hc) rfl (pW_at hv) rfl hi hd fun H1 locs1 g1 g2 g3 => W_size fun hle => ?_
  have hup : va_up (fun j => (f j).map (fun i => B + i)) i.toNatClampNeg (some (B + v)) = fun j => (va_up f i.toNatClampNeg (some v) j).map (fun i => B + i) := by
    funext j
    unfold va_up
    split <;> rfl
  rw [hup] at g1
  have hs := sim_set (c := qa N (va_up f i.toNatClampNeg (some v))) hA hc g1 (by omega) (fun ty a q => by cases q; exact ⟨_, rfl⟩)
  have := kk p e s m args below meth c B H1 locs1 ls C hX h1 (by rw [List.length_set]; exact hn0) hs g3 h5
  rw [List.length_set] at this
  exact this
theorem w_newI {x : Int32} {N q : Nat} (hd : dc Y.2.1 pc (.newarray .int) 2 nx) (hn : ¬ x < 0) (hN : x.toNatClampNeg = N) (hby : N * 4 ≤ 536870912) (hq : h.length = q) (hrc : q - n0 + 1 ≤ R.cells) (hrs : n + N ≤ R.slots) (kk : Wp l D Y R n0 X E nx L (.ref q :: st) (h ++ [ia N (fun _ => 0)]) (n + N)) : Wp l D Y R n0 X E pc L (.int x :: st) h n := by
  intro p e s m args below meth c B H locs ls C hX h1 hn0 h3 h4 h5
  obtain ⟨hd, rfl⟩ := hd
  subst hq
  obtain ⟨hx, hb, hr, hml, hown, hts, hlk, hnm, hG⟩ := id C
  obtain ⟨hz, ca, hP, hA⟩ := h3
  refine va_newa (atype := .int) (tys := []) (ty := .int) (a0 := (N, .inl (fun _ => 0))) hx hb (hts _ z_int) rfl hG.1 hP (pW_D B ca h) h4 (fun q hq => by show B ≤ q; omega) (fun cA => rfl) hn hN hby (by omega) hrs hd fun q cA H1 g0 g1 g2 g3 => W_size fun hle => ?_
  obtain ⟨rfl, hs⟩ := sim_add (c := ia N (fun _ => 0)) (cA := cA) hA g1 g2 (by omega) (fun ty a q => by cases q; exact g0.2 0 (cA, .int) rfl)
  have := kk p e s m args below meth c B H1 locs ls C hX h1 (by rw [List.length_append]; omega) hs g3 h5
  rw [show (h ++ [ia N (fun _ => 0)]).length - n0 = h.length - n0 + 1 by rw [List.length_append, List.length_singleton]; omega] at this
  exact this
theorem w_newZ {x : Int32} {N q : Nat} (hd : dc Y.2.1 pc (.newarray .boolean) 2 nx) (hn : ¬ x < 0) (hN : x.toNatClampNeg = N) (hby : N * 1 ≤ 536870912) (hq : h.length = q) (hrc : q - n0 + 1 ≤ R.cells) (hrs : n + N ≤ R.slots) (kk : Wp l D Y R n0 X E nx L (.ref q :: st) (h ++ [za N (fun _ => 0)]) (n + N)) : Wp l D Y R n0 X E pc L (.int x :: st) h n := by
  intro p e s m args below meth c B H locs ls C hX h1 hn0 h3 h4 h5
  obtain ⟨hd, rfl⟩ := hd
  subst hq
  obtain ⟨hx, hb, hr, hml, hown, hts, hlk, hnm, hG⟩ := id C
  obtain ⟨hz, ca, hP, hA⟩ := h3
  refine va_newa (atype := .boolean) (tys := []) (ty := .boolean) (a0 := (N, .inl (fun _ => 0))) hx hb (hts _ z_bool) rfl hG.1 hP (pW_D B ca h) h4 (fun q hq => by show B ≤ q; omega) (fun cA => rfl) hn hN hby (by omega) hrs hd fun q cA H1 g0 g1 g2 g3 => W_size fun hle => ?_
  obtain ⟨rfl, hs⟩ := sim_add (c := za N (fun _ => 0)) (cA := cA) hA g1 g2 (by omega) (fun ty a q => by cases q; exact g0.2 0 (cA, .boolean) rfl)
  have := kk p e s m args below meth c B H1 locs ls C hX h1 (by rw [List.length_append]; omega) hs g3 h5
  rw [show (h ++ [za N (fun _ => 0)]).length - n0 = h.length - n0 + 1 by rw [List.length_append, List.length_singleton]; omega] at this
  exact this
theorem w_newQ {x : Int32} {N q idx : Nat} (hd : dc Y.2.1 pc (.anewarray idx) 3 nx) (hcl : Cond.classLink Y.1.cls idx RX5 ∈ pTb) (hn : ¬ x < 0) (hN : x.toNatClampNeg = N) (hby : N * 4 ≤ 536870912) (hq : h.length = q) (hrc : q - n0 + 1 ≤ R.cells) (hrs : n + N ≤ R.slots) (kk : Wp l D Y R n0 X E nx L (.ref q :: st) (h ++ [qa N (fun _ => none)]) (n + N)) : Wp l D Y R n0 X E pc L (.int x :: st) h n := by
  intro p e s m args below meth c B H locs ls C hX h1 hn0 h3 h4 h5
  obtain ⟨hd, rfl⟩ := hd
  subst hq
  obtain ⟨hx, hb, hr, hml, hown, hts, hlk, hnm, hG⟩ := id C
  obtain ⟨hz, ca, hP, hA⟩ := h3
  refine va_newq (tys := []) (C := RX5) hx hb hown (hts _ hcl) hG.2.2 hG.1 hP (pW_D B ca h) h4 (fun q hq => by show B ≤ q; omega) hn hN hby (by omega) hrs hd fun q cA H1 g0 g1 g2 g3 => W_size fun hle => ?_
  obtain ⟨rfl, hs⟩ := sim_add (c := qa N (fun _ => none)) (cA := cA) hA g1 g2 (by omega) (fun ty a q => by cases q; exact g0.2 0 (cA, .object RX5) rfl)
  have := kk p e s m args below meth c B H1 locs ls C hX h1 (by rw [List.length_append]; omega) hs g3 h5
  rw [show (h ++ [qa N (fun _ => none)]).length - n0 = h.length - n0 + 1 by rw [List.length_append, List.length_singleton]; omega] at this
  exact this
theorem w_new {ci N q idx : Nat} {fs : List Value} (hd : dc Y.2.1 pc (.new idx) 3 nx) (hw : NWp Y.1.cls idx ci N fs) (hfs : ∀ B, fs.map (pv B) = fs) (hq : h.length = q) (hrc : q - n0 + 1 ≤ R.cells) (hrs : n + N ≤ R.slots) (kk : Wp l D Y R n0 X E nx L (.ref q :: st) (h ++ [.inr (ci, fs)]) (n + N)) : Wp l D Y R n0 X E pc L st h n := by
  intro p e s m args below meth c B H locs ls C hX h1 hn0 h3 h4 h5
  obtain ⟨hd, rfl⟩ := hd
  subst hq
  obtain ⟨hx, hb, hr, hml, hown, hts, hlk, hnm, hG⟩ := id C
  obtain ⟨C0, T, ty0, w1, w2, w3, w4, w5, w6, w7⟩ := hw
  obtain ⟨hz, ca, hP, hA⟩ := h3
  refine va_new (tys := []) (ci := ci) (fs := fs) hx hb hts w2 ty0 w6 hown (hts _ w3) (hts _ w4) (hts _ w5) hG.1 hP (pW_D B ca h) h4 (fun q hq => by show B ≤ q; omega) w1 w7 (by omega) hrs hd fun q H1 g1 g2 g3 => W_size fun hle => ?_
  have e0 : (Sum.inr (ci, fs) : va_E) = pE B 0 (.inr (ci, fs)) := by show _ = Sum.inr (ci, fs.map (pv B)); rw [hfs B]
  rw [e0] at g1 g2
  obtain ⟨rfl, hs⟩ := sim_add (c := .inr (ci, fs)) (cA := 0) hA g1 g2 (by omega) (fun ty a q => by cases q)
  have := kk p e s m args below meth c B H1 locs ls C hX h1 (by rw [List.length_append]; omega) hs g3 h5
  rw [show (h ++ [(.inr (ci, fs) : PC)]).length - n0 = h.length - n0 + 1 by rw [List.length_append, List.length_singleton]; omega] at this
  exact this
theorem w_mmax {x y : Int32} {idx : Nat} (hd : dc Y.2.1 pc (.invokestatic idx) 3 nx) (hl : Cond.methodLink Y.1.cls idx Lib.Math.max.name ∈ pTb) (hfr : 1 ≤ R.frames) (hlo : 21 ≤ R.locals) (hW : (st.map fun v => v.category).sum ≤ 8) (hrc : h.length - n0 ≤ R.cells ∧ n ≤ R.slots) (kk : Wp l D Y R n0 X E nx L (.int (if x < y then y else x) :: st) h n) : Wp l D Y R n0 X E pc L (.int y :: .int x :: st) h n := by
  intro p e s m args below meth c B H locs ls C hX h1 hn0 h3 h4 h5
  obtain ⟨hd, rfl⟩ := hd
  obtain ⟨hx, hb, hr, hml, hown, hts, hlk, hnm, hG⟩ := id C
  exact va_mmax (rest := st.map (pv B)) hx hb (hml.trans h5.1.symm) hown (hts _ hl) (hts _ m_max_stat) (hts _ m_ini) (hts _ m_max_code) hfr (by rw [p_cat]; omega) hrc.1 hrc.2 hd (kk p e s m args below meth c B H locs ls C hX h1 hn0 h3 h4 h5)
theorem w_mmin {x y : Int32} {idx : Nat} (hd : dc Y.2.1 pc (.invokestatic idx) 3 nx) (hl : Cond.methodLink Y.1.cls idx Lib.Math.min.name ∈ pTb) (hfr : 1 ≤ R.frames) (hlo : 21 ≤ R.locals) (hW : (st.map fun v => v.category).sum ≤ 8) (hrc : h.length - n0 ≤ R.cells ∧ n ≤ R.slots) (kk : Wp l D Y R n0 X E nx L (.int (if y < x then y else x) :: st) h n) : Wp l D Y R n0 X E pc L (.int y :: .int x :: st) h n := by
  intro p e s m args below meth c B H locs ls C hX h1 hn0 h3 h4 h5
  obtain ⟨hd, rfl⟩ := hd
  obtain ⟨hx, hb, hr, hml, hown, hts, hlk, hnm, hG⟩ := id C
  exact va_mmin (rest := st.map (pv B)) hx hb (hml.trans h5.1.symm) hown (hts _ hl) (hts _ m_min_stat) (hts _ m_ini) (hts _ m_min_code) hfr (by rw [p_cat]; omega) hrc.1 hrc.2 hd (kk p e s m args below meth c B H locs ls C hX h1 hn0 h3 h4 h5)
theorem w_copy {a0 a N0 N1 idx : Nat} {f g : Nat → Int32} {sp dp k : Int32} (hd : dc Y.2.1 pc (.invokestatic idx) 3 nx) (hl : Cond.methodLink Y.1.cls idx arraycopyName ∈ pTb) (hc0 : h[a0]? = some (ia N0 f)) (hc1 : h[a]? = some (ia N1 g)) (g1 : ¬ sp < 0) (g2 : ¬ dp < 0) (g3 : ¬ k < 0) (g4 : sp.toNatClampNeg + k.toNatClampNeg ≤ N0) (g5 : dp.toNatClampNeg + k.toNatClampNeg ≤ N1) (hfr : 1 ≤ R.frames) (hlo : 40 ≤ R.locals) (hW : (st.map fun v => v.category).sum ≤ 8) (kk : Wp l D Y R n0 X E nx L st (h.set a (ia N1 (va_cpy f g sp.toNatClampNeg dp.toNatClampNeg k.toNatClampNeg))) n) : Wp l D Y R n0 X E pc L (.int k :: .int dp :: .ref a :: .int sp :: .ref a0 :: st) h n := by
  intro p e s m args below meth c B H locs ls C hX h1 hn0 h3 h4 h5
  obtain ⟨hd, rfl⟩ := hd
  obtain ⟨hx, hb, hr, hml, hown, hts, hlk, hnm, hG⟩ := id C
  obtain ⟨hz, ca, hP, hA⟩ := h3
  obtain ⟨a1, a2⟩ := hA a _ _ hc1
  obtain ⟨a3, a4⟩ := hA a0 _ _ hc0
  have hK : va_K D vwCl [(ca a0, .int), (ca a, .int)] s := ⟨hG.1.1, fun k q hk => by
    match k, hk with
    | 0, hk => cases hk; exact ⟨a3, a4⟩
    | 1, hk => cases hk; exact ⟨a1, a2⟩⟩
  have hnw : nativeFrameWords "java/lang/System" "arraycopy" 5 + 11 ≤ 32 := by decide +kernel
  refine va_copyi (rest := st.map (pv B)) (tys := [(ca a0, .int), (ca a, .int)]) (ty := .int) hx hb (hml.trans h5.1.symm) hown (hts _ hl) (hts _ a_nat) (hts _ a_stat) (hts _ a_ini) hK hP (pW_D B ca h) h4 a0 a 0 1 (pW_at hc0) (pW_at hc1) rfl rfl rfl g1 g2 g3 g4 g5 (fun _ _ => rfl) hfr (by rw [p_cat]; omega) hd fun H1 locs1 q1 q2 q3 => W_size fun hle => ?_
  have hs := sim_set (c := ia N1 (va_cpy f g sp.toNatClampNeg dp.toNatClampNeg k.toNatClampNeg)) hA hc1 q1 (by omega) (fun ty a q => by cases q; exact ⟨_, rfl⟩)
  have := kk p e s m args below meth c B H1 locs1 ls C hX h1 (by rw [List.length_set]; exact hn0) hs q3 h5
  rw [List.length_set] at this
  exact this
end PAR
end
section
def b2i (b : Bool) : Int32 := if b then 1 else 0
theorem b2i_0 {b : Bool} : b2i b = 0 ↔ b = false := by cases b <;> decide
theorem b2i_n {b : Bool} : ¬ b2i b = 0 ↔ b = true := by cases b <;> decide
theorem b2i_nar (b : Bool) : narrow .boolean (.int (b2i b)) = .int (b2i b) := by cases b <;> rfl
def iter {α : Type} (f : Nat → α → α) : Nat → α → α
  | 0, a => a
  | n + 1, a => f n (iter f n a)
theorem pm_of2 {l : Launch} {D : va_G} {Y : PMth} {d mc ms nA n0 : Nat} {args : List Value} {h h2 : PH} {r : Option Value} (hb : KBp Y nA) (hn : h.length = n0) (L : List (Option Value)) (hL : ∀ B, pL B 0 L = lv_args 0 (args.map (pv B))) (hlen : ∀ B, (lg_sl (args.map (pv B))).length ≤ Y.2.2.1) (k : Wp l D Y (pRm d mc ms) n0 (fun _ _ _ => True) (mE D n0 mc ms r h2) 0 L [] h 0) : PM l D Y d args h mc ms r h2 := by
  subst hn
  exact pm_of hb L hL hlen k
theorem rc00 {d a b n : Nat} (hab : a = b) (hn : n ≤ 0) : a - b + 0 ≤ (pRm d 0 0).cells ∧ n + 0 ≤ (pRm d 0 0).slots := ⟨by show a - b + 0 ≤ 0; omega, by show n + 0 ≤ 0; omega⟩
theorem rc01 {d a b n : Nat} (hab : a = b) (hn : n ≤ 0) : a - b ≤ (pRm d 0 0).cells ∧ n ≤ (pRm d 0 0).slots := ⟨by show a - b ≤ 0; omega, by show n ≤ 0; omega⟩
section PMO
variable {l : Launch} {D : va_G} {Y : PMth} {R : Room} {n0 : Nat} {X : State → Array Value → Nat → Prop} {E : List Frame → Array Value → State → Nat → State → Prop} {pc nx : Nat} {L : List (Option Value)} {st st0 : List Value} {h h2 : PH} {n : Nat}
theorem w_heq (hh : h = h2) (k : Wp l D Y R n0 X E pc L st h2 n) : Wp l D Y R n0 X E pc L st h n := hh ▸ k
theorem w_top {x y : Int32} (hh : x = y) (k : Wp l D Y R n0 X E pc L (.int y :: st) h n) : Wp l D Y R n0 X E pc L (.int x :: st) h n := hh ▸ k
/-- tests of a truth value -/
theorem w_zif_eq {b : Bool} {off : Int} {tgt : Nat} (hd : dc Y.2.1 pc (.ifCond .eq off) 3 nx) (ht : (pc : Int) + off = (tgt : Int)) (kt : b = false → Wp l D Y R n0 X E tgt L st h n) (kf : b = true → Wp l D Y R n0 X E nx L st h n) : Wp l D Y R n0 X E pc L (.int (b2i b) :: st) h n :=
  w_if_eq hd ht (fun c => kt (b2i_0.mp c)) (fun c => kf (b2i_n.mp c))
theorem w_zif_ne {b : Bool} {off : Int} {tgt : Nat} (hd : dc Y.2.1 pc (.ifCond .ne off) 3 nx) (ht : (pc : Int) + off = (tgt : Int)) (kt : b = true → Wp l D Y R n0 X E tgt L st h n) (kf : b = false → Wp l D Y R n0 X E nx L st h n) : Wp l D Y R n0 X E pc L (.int (b2i b) :: st) h n :=
  w_if_ne hd ht (fun c => kt (b2i_n.mp c)) (fun c => kf (b2i_0.mp c))
theorem mrg {P : Prop} [Decidable P] {a b : Int32} {A B : Prop} {F : Int32 → Prop} (hA : F a → A) (hB : F b → B) (k : F (if P then a else b)) : (P → A) ∧ (¬ P → B) := by
  constructor
  · intro hp; rw [if_pos hp] at k; exact hA k
  · intro hp; rw [if_neg hp] at k; exact hB k
theorem w_tif_eq {x a b : Int32} {pJ : Nat} {off : Int} {tgt : Nat} (hd : dc Y.2.1 pc (.ifCond .eq off) 3 nx) (ht : (pc : Int) + off = (tgt : Int)) (hA : x = 0 → Wp l D Y R n0 X E pJ L (.int a :: st) h n → Wp l D Y R n0 X E tgt L st h n) (hB : ¬ x = 0 → Wp l D Y R n0 X E pJ L (.int b :: st) h n → Wp l D Y R n0 X E nx L st h n) (k : Wp l D Y R n0 X E pJ L (.int (if x = 0 then a else b) :: st) h n) : Wp l D Y R n0 X E pc L (.int x :: st) h n :=
  w_if_eq hd ht (fun c => hA c (by rw [if_pos c] at k; exact k)) (fun c => hB c (by rw [if_neg c] at k; exact k))
theorem w_ticmp_eq {x y a b : Int32} {pJ : Nat} {off : Int} {tgt : Nat} (hd : dc Y.2.1 pc (.if_icmp .eq off) 3 nx) (ht : (pc : Int) + off = (tgt : Int)) (hA : x = y → Wp l D Y R n0 X E pJ L (.int a :: st) h n → Wp l D Y R n0 X E tgt L st h n) (hB : ¬ x = y → Wp l D Y R n0 X E pJ L (.int b :: st) h n → Wp l D Y R n0 X E nx L st h n) (k : Wp l D Y R n0 X E pJ L (.int (if x = y then a else b) :: st) h n) : Wp l D Y R n0 X E pc L (.int y :: .int x :: st) h n :=
  w_icmp_eq hd ht (fun c => hA c (by rw [if_pos c] at k; exact k)) (fun c => hB c (by rw [if_neg c] at k; exact k))
theorem w_tif_ne {x a b : Int32} {pJ : Nat} {off : Int} {tgt : Nat} (hd : dc Y.2.1 pc (.ifCond .ne off) 3 nx) (ht : (pc : Int) + off = (tgt : Int)) (hA : ¬ x = 0 → Wp l D Y R n0 X E pJ L (.int a :: st) h n → Wp l D Y R n0 X E tgt L st h n) (hB : x = 0 → Wp l D Y R n0 X E pJ L (.int b :: st) h n → Wp l D Y R n0 X E nx L st h n) (k : Wp l D Y R n0 X E pJ L (.int (if x = 0 then b else a) :: st) h n) : Wp l D Y R n0 X E pc L (.int x :: st) h n :=
  w_if_ne hd ht (fun c => hA c (by rw [if_neg c] at k; exact k)) (fun c => hB c (by rw [if_pos c] at k; exact k))
theorem w_ticmp_ne {x y a b : Int32} {pJ : Nat} {off : Int} {tgt : Nat} (hd : dc Y.2.1 pc (.if_icmp .ne off) 3 nx) (ht : (pc : Int) + off = (tgt : Int)) (hA : ¬ x = y → Wp l D Y R n0 X E pJ L (.int a :: st) h n → Wp l D Y R n0 X E tgt L st h n) (hB : x = y → Wp l D Y R n0 X E pJ L (.int b :: st) h n → Wp l D Y R n0 X E nx L st h n) (k : Wp l D Y R n0 X E pJ L (.int (if x = y then b else a) :: st) h n) : Wp l D Y R n0 X E pc L (.int y :: .int x :: st) h n :=
  w_icmp_ne hd ht (fun c => hA c (by rw [if_neg c] at k; exact k)) (fun c => hB c (by rw [if_pos c] at k; exact k))
theorem w_tif_lt {x a b : Int32} {pJ : Nat} {off : Int} {tgt : Nat} (hd : dc Y.2.1 pc (.ifCond .lt off) 3 nx) (ht : (pc : Int) + off = (tgt : Int)) (hA : x < 0 → Wp l D Y R n0 X E pJ L (.int a :: st) h n → Wp l D Y R n0 X E tgt L st h n) (hB : ¬ x < 0 → Wp l D Y R n0 X E pJ L (.int b :: st) h n → Wp l D Y R n0 X E nx L st h n) (k : Wp l D Y R n0 X E pJ L (.int (if x < 0 then a else b) :: st) h n) : Wp l D Y R n0 X E pc L (.int x :: st) h n :=
  w_if_lt hd ht (fun c => hA c (by rw [if_pos c] at k; exact k)) (fun c => hB c (by rw [if_neg c] at k; exact k))
theorem w_ticmp_lt {x y a b : Int32} {pJ : Nat} {off : Int} {tgt : Nat} (hd : dc Y.2.1 pc (.if_icmp .lt off) 3 nx) (ht : (pc : Int) + off = (tgt : Int)) (hA : x < y → Wp l D Y R n0 X E pJ L (.int a :: st) h n → Wp l D Y R n0 X E tgt L st h n) (hB : ¬ x < y → Wp l D Y R n0 X E pJ L (.int b :: st) h n → Wp l D Y R n0 X E nx L st h n) (k : Wp l D Y R n0 X E pJ L (.int (if x < y then a else b) :: st) h n) : Wp l D Y R n0 X E pc L (.int y :: .int x :: st) h n :=
  w_icmp_lt hd ht (fun c => hA c (by rw [if_pos c] at k; exact k)) (fun c => hB c (by rw [if_neg c] at k; exact k))
theorem w_tif_ge {x a b : Int32} {pJ : Nat} {off : Int} {tgt : Nat} (hd : dc Y.2.1 pc (.ifCond .ge off) 3 nx) (ht : (pc : Int) + off = (tgt : Int)) (hA : 0 ≤ x → Wp l D Y R n0 X E pJ L (.int a :: st) h n → Wp l D Y R n0 X E tgt L st h n) (hB : ¬ 0 ≤ x → Wp l D Y R n0 X E pJ L (.int b :: st) h n → Wp l D Y R n0 X E nx L st h n) (k : Wp l D Y R n0 X E pJ L (.int (if 0 ≤ x then a else b) :: st) h n) : Wp l D Y R n0 X E pc L (.int x :: st) h n :=
  w_if_ge hd ht (fun c => hA c (by rw [if_pos c] at k; exact k)) (fun c => hB c (by rw [if_neg c] at k; exact k))
theorem w_ticmp_ge {x y a b : Int32} {pJ : Nat} {off : Int} {tgt : Nat} (hd : dc Y.2.1 pc (.if_icmp .ge off) 3 nx) (ht : (pc : Int) + off = (tgt : Int)) (hA : y ≤ x → Wp l D Y R n0 X E pJ L (.int a :: st) h n → Wp l D Y R n0 X E tgt L st h n) (hB : ¬ y ≤ x → Wp l D Y R n0 X E pJ L (.int b :: st) h n → Wp l D Y R n0 X E nx L st h n) (k : Wp l D Y R n0 X E pJ L (.int (if y ≤ x then a else b) :: st) h n) : Wp l D Y R n0 X E pc L (.int y :: .int x :: st) h n :=
  w_icmp_ge hd ht (fun c => hA c (by rw [if_pos c] at k; exact k)) (fun c => hB c (by rw [if_neg c] at k; exact k))
theorem w_tif_gt {x a b : Int32} {pJ : Nat} {off : Int} {tgt : Nat} (hd : dc Y.2.1 pc (.ifCond .gt off) 3 nx) (ht : (pc : Int) + off = (tgt : Int)) (hA : 0 < x → Wp l D Y R n0 X E pJ L (.int a :: st) h n → Wp l D Y R n0 X E tgt L st h n) (hB : ¬ 0 < x → Wp l D Y R n0 X E pJ L (.int b :: st) h n → Wp l D Y R n0 X E nx L st h n) (k : Wp l D Y R n0 X E pJ L (.int (if 0 < x then a else b) :: st) h n) : Wp l D Y R n0 X E pc L (.int x :: st) h n :=
  w_if_gt hd ht (fun c => hA c (by rw [if_pos c] at k; exact k)) (fun c => hB c (by rw [if_neg c] at k; exact k))
theorem w_ticmp_gt {x y a b : Int32} {pJ : Nat} {off : Int} {tgt : Nat} (hd : dc Y.2.1 pc (.if_icmp .gt off) 3 nx) (ht : (pc : Int) + off = (tgt : Int)) (hA : y < x → Wp l D Y R n0 X E pJ L (.int a :: st) h n → Wp l D Y R n0 X E tgt L st h n) (hB : ¬ y < x → Wp l D Y R n0 X E pJ L (.int b :: st) h n → Wp l D Y R n0 X E nx L st h n) (k : Wp l D Y R n0 X E pJ L (.int (if y < x then a else b) :: st) h n) : Wp l D Y R n0 X E pc L (.int y :: .int x :: st) h n :=
  w_icmp_gt hd ht (fun c => hA c (by rw [if_pos c] at k; exact k)) (fun c => hB c (by rw [if_neg c] at k; exact k))
theorem w_tif_le {x a b : Int32} {pJ : Nat} {off : Int} {tgt : Nat} (hd : dc Y.2.1 pc (.ifCond .le off) 3 nx) (ht : (pc : Int) + off = (tgt : Int)) (hA : x ≤ 0 → Wp l D Y R n0 X E pJ L (.int a :: st) h n → Wp l D Y R n0 X E tgt L st h n) (hB : ¬ x ≤ 0 → Wp l D Y R n0 X E pJ L (.int b :: st) h n → Wp l D Y R n0 X E nx L st h n) (k : Wp l D Y R n0 X E pJ L (.int (if x ≤ 0 then a else b) :: st) h n) : Wp l D Y R n0 X E pc L (.int x :: st) h n :=
  w_if_le hd ht (fun c => hA c (by rw [if_pos c] at k; exact k)) (fun c => hB c (by rw [if_neg c] at k; exact k))
theorem w_ticmp_le {x y a b : Int32} {pJ : Nat} {off : Int} {tgt : Nat} (hd : dc Y.2.1 pc (.if_icmp .le off) 3 nx) (ht : (pc : Int) + off = (tgt : Int)) (hA : x ≤ y → Wp l D Y R n0 X E pJ L (.int a :: st) h n → Wp l D Y R n0 X E tgt L st h n) (hB : ¬ x ≤ y → Wp l D Y R n0 X E pJ L (.int b :: st) h n → Wp l D Y R n0 X E nx L st h n) (k : Wp l D Y R n0 X E pJ L (.int (if x ≤ y then a else b) :: st) h n) : Wp l D Y R n0 X E pc L (.int y :: .int x :: st) h n :=
  w_icmp_le hd ht (fun c => hA c (by rw [if_pos c] at k; exact k)) (fun c => hB c (by rw [if_neg c] at k; exact k))
theorem w_ztif_eq {z : Bool} {a b : Int32} {pJ : Nat} {off : Int} {tgt : Nat} (hd : dc Y.2.1 pc (.ifCond .eq off) 3 nx) (ht : (pc : Int) + off = (tgt : Int)) (hA : z = false → Wp l D Y R n0 X E pJ L (.int a :: st) h n → Wp l D Y R n0 X E tgt L st h n) (hB : z = true → Wp l D Y R n0 X E pJ L (.int b :: st) h n → Wp l D Y R n0 X E nx L st h n) (k : Wp l D Y R n0 X E pJ L (.int (bif z then b else a) :: st) h n) : Wp l D Y R n0 X E pc L (.int (b2i z) :: st) h n :=
  w_zif_eq hd ht (fun c => hA c (by rw [c] at k; exact k)) (fun c => hB c (by rw [c] at k; exact k))
theorem w_ztif_ne {z : Bool} {a b : Int32} {pJ : Nat} {off : Int} {tgt : Nat} (hd : dc Y.2.1 pc (.ifCond .ne off) 3 nx) (ht : (pc : Int) + off = (tgt : Int)) (hA : z = true → Wp l D Y R n0 X E pJ L (.int a :: st) h n → Wp l D Y R n0 X E tgt L st h n) (hB : z = false → Wp l D Y R n0 X E pJ L (.int b :: st) h n → Wp l D Y R n0 X E nx L st h n) (k : Wp l D Y R n0 X E pJ L (.int (bif z then a else b) :: st) h n) : Wp l D Y R n0 X E pc L (.int (b2i z) :: st) h n :=
  w_zif_ne hd ht (fun c => hA c (by rw [c] at k; exact k)) (fun c => hB c (by rw [c] at k; exact k))
theorem w_leq {L2 : List (Option Value)} (hh : L = L2) (k : Wp l D Y R n0 X E pc L2 st h n) : Wp l D Y R n0 X E pc L st h n := hh ▸ k
theorem w_zretb {v : Int32} {z : Bool} {mc ms : Nat} (hd : dc Y.2.1 pc .ireturn 1 nx) (hr : Y.2.2.2 = some .boolean) (hv : v = b2i z) (hh : h = h2) (hl : h.length = n0 + mc) (hn : n ≤ ms) : Wp l D Y R n0 X (mE D n0 mc ms (some (.int (b2i z))) h2) pc L [.int v] h n :=
  w_zret hd hr (by rw [hv]; exact b2i_nar z) hv hh hl hn
theorem w_if_eq_t {x : Int32} {off : Int} {tgt : Nat} (hd : dc Y.2.1 pc (.ifCond .eq off) 3 nx) (ht : (pc : Int) + off = (tgt : Int)) (c : x = 0) (k : Wp l D Y R n0 X E tgt L st h n) : Wp l D Y R n0 X E pc L (.int x :: st) h n :=
  w_if_eq hd ht (fun _ => k) (fun q => absurd c q)
theorem w_if_eq_f {x : Int32} {off : Int} (hd : dc Y.2.1 pc (.ifCond .eq off) 3 nx) (ht : ∃ tgt : Nat, (pc : Int) + off = (tgt : Int)) (c : ¬ x = 0) (k : Wp l D Y R n0 X E nx L st h n) : Wp l D Y R n0 X E pc L (.int x :: st) h n := by
  obtain ⟨tgt, ht⟩ := ht
  exact w_if_eq hd ht (fun q => absurd q c) (fun _ => k)
theorem w_icmp_eq_t {x y : Int32} {off : Int} {tgt : Nat} (hd : dc Y.2.1 pc (.if_icmp .eq off) 3 nx) (ht : (pc : Int) + off = (tgt : Int)) (c : x = y) (k : Wp l D Y R n0 X E tgt L st h n) : Wp l D Y R n0 X E pc L (.int y :: .int x :: st) h n :=
  w_icmp_eq hd ht (fun _ => k) (fun q => absurd c q)
theorem w_icmp_eq_f {x y : Int32} {off : Int} (hd : dc Y.2.1 pc (.if_icmp .eq off) 3 nx) (ht : ∃ tgt : Nat, (pc : Int) + off = (tgt : Int)) (c : ¬ x = y) (k : Wp l D Y R n0 X E nx L st h n) : Wp l D Y R n0 X E pc L (.int y :: .int x :: st) h n := by
  obtain ⟨tgt, ht⟩ := ht
  exact w_icmp_eq hd ht (fun q => absurd q c) (fun _ => k)
theorem w_if_ne_t {x : Int32} {off : Int} {tgt : Nat} (hd : dc Y.2.1 pc (.ifCond .ne off) 3 nx) (ht : (pc : Int) + off = (tgt : Int)) (c : ¬ x = 0) (k : Wp l D Y R n0 X E tgt L st h n) : Wp l D Y R n0 X E pc L (.int x :: st) h n :=
  w_if_ne hd ht (fun _ => k) (fun q => absurd q c)
theorem w_if_ne_f {x : Int32} {off : Int} (hd : dc Y.2.1 pc (.ifCond .ne off) 3 nx) (ht : ∃ tgt : Nat, (pc : Int) + off = (tgt : Int)) (c : x = 0) (k : Wp l D Y R n0 X E nx L st h n) : Wp l D Y R n0 X E pc L (.int x :: st) h n := by
  obtain ⟨tgt, ht⟩ := ht
  exact w_if_ne hd ht (fun q => absurd c q) (fun _ => k)
theorem w_icmp_ne_t {x y : Int32} {off : Int} {tgt : Nat} (hd : dc Y.2.1 pc (.if_icmp .ne off) 3 nx) (ht : (pc : Int) + off = (tgt : Int)) (c : ¬ x = y) (k : Wp l D Y R n0 X E tgt L st h n) : Wp l D Y R n0 X E pc L (.int y :: .int x :: st) h n :=
  w_icmp_ne hd ht (fun _ => k) (fun q => absurd q c)
theorem w_icmp_ne_f {x y : Int32} {off : Int} (hd : dc Y.2.1 pc (.if_icmp .ne off) 3 nx) (ht : ∃ tgt : Nat, (pc : Int) + off = (tgt : Int)) (c : x = y) (k : Wp l D Y R n0 X E nx L st h n) : Wp l D Y R n0 X E pc L (.int y :: .int x :: st) h n := by
  obtain ⟨tgt, ht⟩ := ht
  exact w_icmp_ne hd ht (fun q => absurd c q) (fun _ => k)
theorem w_if_lt_t {x : Int32} {off : Int} {tgt : Nat} (hd : dc Y.2.1 pc (.ifCond .lt off) 3 nx) (ht : (pc : Int) + off = (tgt : Int)) (c : x < 0) (k : Wp l D Y R n0 X E tgt L st h n) : Wp l D Y R n0 X E pc L (.int x :: st) h n :=
  w_if_lt hd ht (fun _ => k) (fun q => absurd c q)
theorem w_if_lt_f {x : Int32} {off : Int} (hd : dc Y.2.1 pc (.ifCond .lt off) 3 nx) (ht : ∃ tgt : Nat, (pc : Int) + off = (tgt : Int)) (c : ¬ x < 0) (k : Wp l D Y R n0 X E nx L st h n) : Wp l D Y R n0 X E pc L (.int x :: st) h n := by
  obtain ⟨tgt, ht⟩ := ht
  exact w_if_lt hd ht (fun q => absurd q c) (fun _ => k)
theorem w_icmp_lt_t {x y : Int32} {off : Int} {tgt : Nat} (hd : dc Y.2.1 pc (.if_icmp .lt off) 3 nx) (ht : (pc : Int) + off = (tgt : Int)) (c : x < y) (k : Wp l D Y R n0 X E tgt L st h n) : Wp l D Y R n0 X E pc L (.int y :: .int x :: st) h n :=
  w_icmp_lt hd ht (fun _ => k) (fun q => absurd c q)
theorem w_icmp_lt_f {x y : Int32} {off : Int} (hd : dc Y.2.1 pc (.if_icmp .lt off) 3 nx) (ht : ∃ tgt : Nat, (pc : Int) + off = (tgt : Int)) (c : ¬ x < y) (k : Wp l D Y R n0 X E nx L st h n) : Wp l D Y R n0 X E pc L (.int y :: .int x :: st) h n := by
  obtain ⟨tgt, ht⟩ := ht
  exact w_icmp_lt hd ht (fun q => absurd q c) (fun _ => k)
theorem w_if_ge_t {x : Int32} {off : Int} {tgt : Nat} (hd : dc Y.2.1 pc (.ifCond .ge off) 3 nx) (ht : (pc : Int) + off = (tgt : Int)) (c : 0 ≤ x) (k : Wp l D Y R n0 X E tgt L st h n) : Wp l D Y R n0 X E pc L (.int x :: st) h n :=
  w_if_ge hd ht (fun _ => k) (fun q => absurd c q)
theorem w_if_ge_f {x : Int32} {off : Int} (hd : dc Y.2.1 pc (.ifCond .ge off) 3 nx) (ht : ∃ tgt : Nat, (pc : Int) + off = (tgt : Int)) (c : ¬ 0 ≤ x) (k : Wp l D Y R n0 X E nx L st h n) : Wp l D Y R n0 X E pc L (.int x :: st) h n := by
  obtain ⟨tgt, ht⟩ := ht
  exact w_if_ge hd ht (fun q => absurd q c) (fun _ => k)
theorem w_icmp_ge_t {x y : Int32} {off : Int} {tgt : Nat} (hd : dc Y.2.1 pc (.if_icmp .ge off) 3 nx) (ht : (pc : Int) + off = (tgt : Int)) (c : y ≤ x) (k : Wp l D Y R n0 X E tgt L st h n) : Wp l D Y R n0 X E pc L (.int y :: .int x :: st) h n :=
  w_icmp_ge hd ht (fun _ => k) (fun q => absurd c q)
theorem w_icmp_ge_f {x y : Int32} {off : Int} (hd : dc Y.2.1 pc (.if_icmp .ge off) 3 nx) (ht : ∃ tgt : Nat, (pc : Int) + off = (tgt : Int)) (c : ¬ y ≤ x) (k : Wp l D Y R n0 X E nx L st h n) : Wp l D Y R n0 X E pc L (.int y :: .int x :: st) h n := by
  obtain ⟨tgt, ht⟩ := ht
  exact w_icmp_ge hd ht (fun q => absurd q c) (fun _ => k)
theorem w_if_gt_t {x : Int32} {off : Int} {tgt : Nat} (hd : dc Y.2.1 pc (.ifCond .gt off) 3 nx) (ht : (pc : Int) + off = (tgt : Int)) (c : 0 < x) (k : Wp l D Y R n0 X E tgt L st h n) : Wp l D Y R n0 X E pc L (.int x :: st) h n :=
  w_if_gt hd ht (fun _ => k) (fun q => absurd c q)
theorem w_if_gt_f {x : Int32} {off : Int} (hd : dc Y.2.1 pc (.ifCond .gt off) 3 nx) (ht : ∃ tgt : Nat, (pc : Int) + off = (tgt : Int)) (c : ¬ 0 < x) (k : Wp l D Y R n0 X E nx L st h n) : Wp l D Y R n0 X E pc L (.int x :: st) h n := by
  obtain ⟨tgt, ht⟩ := ht
  exact w_if_gt hd ht (fun q => absurd q c) (fun _ => k)
theorem w_icmp_gt_t {x y : Int32} {off : Int} {tgt : Nat} (hd : dc Y.2.1 pc (.if_icmp .gt off) 3 nx) (ht : (pc : Int) + off = (tgt : Int)) (c : y < x) (k : Wp l D Y R n0 X E tgt L st h n) : Wp l D Y R n0 X E pc L (.int y :: .int x :: st) h n :=
  w_icmp_gt hd ht (fun _ => k) (fun q => absurd c q)
theorem w_icmp_gt_f {x y : Int32} {off : Int} (hd : dc Y.2.1 pc (.if_icmp .gt off) 3 nx) (ht : ∃ tgt : Nat, (pc : Int) + off = (tgt : Int)) (c : ¬ y < x) (k : Wp l D Y R n0 X E nx L st h n) : Wp l D Y R n0 X E pc L (.int y :: .int x :: st) h n := by
  obtain ⟨tgt, ht⟩ := ht
  exact w_icmp_gt hd ht (fun q => absurd q c) (fun _ => k)
theorem w_if_le_t {x : Int32} {off : Int} {tgt : Nat} (hd : dc Y.2.1 pc (.ifCond .le off) 3 nx) (ht : (pc : Int) + off = (tgt : Int)) (c : x ≤ 0) (k : Wp l D Y R n0 X E tgt L st h n) : Wp l D Y R n0 X E pc L (.int x :: st) h n :=
  w_if_le hd ht (fun _ => k) (fun q => absurd c q)
theorem w_if_le_f {x : Int32} {off : Int} (hd : dc Y.2.1 pc (.ifCond .le off) 3 nx) (ht : ∃ tgt : Nat, (pc : Int) + off = (tgt : Int)) (c : ¬ x ≤ 0) (k : Wp l D Y R n0 X E nx L st h n) : Wp l D Y R n0 X E pc L (.int x :: st) h n := by
  obtain ⟨tgt, ht⟩ := ht
  exact w_if_le hd ht (fun q => absurd q c) (fun _ => k)
theorem w_icmp_le_t {x y : Int32} {off : Int} {tgt : Nat} (hd : dc Y.2.1 pc (.if_icmp .le off) 3 nx) (ht : (pc : Int) + off = (tgt : Int)) (c : x ≤ y) (k : Wp l D Y R n0 X E tgt L st h n) : Wp l D Y R n0 X E pc L (.int y :: .int x :: st) h n :=
  w_icmp_le hd ht (fun _ => k) (fun q => absurd c q)
theorem w_icmp_le_f {x y : Int32} {off : Int} (hd : dc Y.2.1 pc (.if_icmp .le off) 3 nx) (ht : ∃ tgt : Nat, (pc : Int) + off = (tgt : Int)) (c : ¬ x ≤ y) (k : Wp l D Y R n0 X E nx L st h n) : Wp l D Y R n0 X E pc L (.int y :: .int x :: st) h n := by
  obtain ⟨tgt, ht⟩ := ht
  exact w_icmp_le hd ht (fun q => absurd q c) (fun _ => k)
theorem w_zif_eq_t {b : Bool} {off : Int} {tgt : Nat} (hd : dc Y.2.1 pc (.ifCond .eq off) 3 nx) (ht : (pc : Int) + off = (tgt : Int)) (c : b = false) (k : Wp l D Y R n0 X E tgt L st h n) : Wp l D Y R n0 X E pc L (.int (b2i b) :: st) h n :=
  w_zif_eq hd ht (fun _ => k) (fun q => by rw [c] at q; cases q)
theorem w_zif_eq_f {b : Bool} {off : Int} (hd : dc Y.2.1 pc (.ifCond .eq off) 3 nx) (ht : ∃ tgt : Nat, (pc : Int) + off = (tgt : Int)) (c : b = true) (k : Wp l D Y R n0 X E nx L st h n) : Wp l D Y R n0 X E pc L (.int (b2i b) :: st) h n := by
  obtain ⟨tgt, ht⟩ := ht
  exact w_zif_eq hd ht (fun q => by rw [c] at q; cases q) (fun _ => k)
theorem w_zif_ne_t {b : Bool} {off : Int} {tgt : Nat} (hd : dc Y.2.1 pc (.ifCond .ne off) 3 nx) (ht : (pc : Int) + off = (tgt : Int)) (c : b = true) (k : Wp l D Y R n0 X E tgt L st h n) : Wp l D Y R n0 X E pc L (.int (b2i b) :: st) h n :=
  w_zif_ne hd ht (fun _ => k) (fun q => by rw [c] at q; cases q)
theorem w_zif_ne_f {b : Bool} {off : Int} (hd : dc Y.2.1 pc (.ifCond .ne off) 3 nx) (ht : ∃ tgt : Nat, (pc : Int) + off = (tgt : Int)) (c : b = false) (k : Wp l D Y R n0 X E nx L st h n) : Wp l D Y R n0 X E pc L (.int (b2i b) :: st) h n := by
  obtain ⟨tgt, ht⟩ := ht
  exact w_zif_ne hd ht (fun q => by rw [c] at q; cases q) (fun _ => k)
theorem w_callVr {Yc : PMth} {nA d a ci idx : Nat} {As : List Value} {v : Value} {fs : List Value} {T1 : u_T} {N1 : Nat} (hd : dc Y.2.1 pc (.invokevirtual idx) 3 nx) (hk : KVp Y.1.cls idx Yc nA) (hM : PM l D Yc d (.ref a :: As) h 0 0 (some v) h2) (hst : st0 = As.reverse ++ .ref a :: st) (hnA : As.length = nA) (hcell : h[a]? = some (.inr (ci, fs))) (hci : vwCl[ci]? = some (Yc.1.cls, T1, N1)) (hfr : d + 1 ≤ R.frames) (hlo : 8 + (Yc.2.2.1 + 11) + 40 * d ≤ R.locals) (hW : (st.map fun v => v.category).sum ≤ 8) (hrc : h.length - n0 + 0 ≤ R.cells ∧ n + 0 ≤ R.slots) (kk : Wp l D Y R n0 X E nx L (v :: st) h2 n) : Wp l D Y R n0 X E pc L st0 h n :=
  w_callV hd hk hM hst hnA hcell hci hfr hlo hW hrc kk
theorem w_callVv {Yc : PMth} {nA d a ci idx : Nat} {As : List Value} {fs : List Value} {T1 : u_T} {N1 : Nat} (hd : dc Y.2.1 pc (.invokevirtual idx) 3 nx) (hk : KVp Y.1.cls idx Yc nA) (hM : PM l D Yc d (.ref a :: As) h 0 0 none h2) (hst : st0 = As.reverse ++ .ref a :: st) (hnA : As.length = nA) (hcell : h[a]? = some (.inr (ci, fs))) (hci : vwCl[ci]? = some (Yc.1.cls, T1, N1)) (hfr : d + 1 ≤ R.frames) (hlo : 8 + (Yc.2.2.1 + 11) + 40 * d ≤ R.locals) (hW : (st.map fun v => v.category).sum ≤ 8) (hrc : h.length - n0 + 0 ≤ R.cells ∧ n + 0 ≤ R.slots) (kk : Wp l D Y R n0 X E nx L st h2 n) : Wp l D Y R n0 X E pc L st0 h n :=
  w_callV hd hk hM hst hnA hcell hci hfr hlo hW hrc kk
theorem w_callSr {Yc : PMth} {nA d idx : Nat} {As : List Value} {v : Value} (hd : dc Y.2.1 pc (.invokestatic idx) 3 nx) (hk : KSp Y.1.cls idx Yc nA) (hM : PM l D Yc d As h 0 0 (some v) h2) (hst : st0 = As.reverse ++ st) (hnA : As.length = nA) (hfr : d + 1 ≤ R.frames) (hlo : 8 + (Yc.2.2.1 + 11) + 40 * d ≤ R.locals) (hW : (st.map fun v => v.category).sum ≤ 8) (hrc : h.length - n0 + 0 ≤ R.cells ∧ n + 0 ≤ R.slots) (kk : Wp l D Y R n0 X E nx L (v :: st) h2 n) : Wp l D Y R n0 X E pc L st0 h n :=
  w_callS hd hk hM hst hnA hfr hlo hW hrc kk
theorem w_loc_0 {x y : Int32} (hh : x = y) (k : Wp l D Y R n0 X E pc (some (.int y) :: L) st h n) : Wp l D Y R n0 X E pc (some (.int x) :: L) st h n := hh ▸ k
theorem w_loc_1 {a0 : Option Value} {x y : Int32} (hh : x = y) (k : Wp l D Y R n0 X E pc (a0 :: some (.int y) :: L) st h n) : Wp l D Y R n0 X E pc (a0 :: some (.int x) :: L) st h n := hh ▸ k
theorem w_loc_2 {a0 a1 : Option Value} {x y : Int32} (hh : x = y) (k : Wp l D Y R n0 X E pc (a0 :: a1 :: some (.int y) :: L) st h n) : Wp l D Y R n0 X E pc (a0 :: a1 :: some (.int x) :: L) st h n := hh ▸ k
theorem w_loc_3 {a0 a1 a2 : Option Value} {x y : Int32} (hh : x = y) (k : Wp l D Y R n0 X E pc (a0 :: a1 :: a2 :: some (.int y) :: L) st h n) : Wp l D Y R n0 X E pc (a0 :: a1 :: a2 :: some (.int x) :: L) st h n := hh ▸ k
theorem w_loc_4 {a0 a1 a2 a3 : Option Value} {x y : Int32} (hh : x = y) (k : Wp l D Y R n0 X E pc (a0 :: a1 :: a2 :: a3 :: some (.int y) :: L) st h n) : Wp l D Y R n0 X E pc (a0 :: a1 :: a2 :: a3 :: some (.int x) :: L) st h n := hh ▸ k
theorem w_loc_5 {a0 a1 a2 a3 a4 : Option Value} {x y : Int32} (hh : x = y) (k : Wp l D Y R n0 X E pc (a0 :: a1 :: a2 :: a3 :: a4 :: some (.int y) :: L) st h n) : Wp l D Y R n0 X E pc (a0 :: a1 :: a2 :: a3 :: a4 :: some (.int x) :: L) st h n := hh ▸ k
theorem w_loc_6 {a0 a1 a2 a3 a4 a5 : Option Value} {x y : Int32} (hh : x = y) (k : Wp l D Y R n0 X E pc (a0 :: a1 :: a2 :: a3 :: a4 :: a5 :: some (.int y) :: L) st h n) : Wp l D Y R n0 X E pc (a0 :: a1 :: a2 :: a3 :: a4 :: a5 :: some (.int x) :: L) st h n := hh ▸ k
theorem w_loc_7 {a0 a1 a2 a3 a4 a5 a6 : Option Value} {x y : Int32} (hh : x = y) (k : Wp l D Y R n0 X E pc (a0 :: a1 :: a2 :: a3 :: a4 :: a5 :: a6 :: some (.int y) :: L) st h n) : Wp l D Y R n0 X E pc (a0 :: a1 :: a2 :: a3 :: a4 :: a5 :: a6 :: some (.int x) :: L) st h n := hh ▸ k
theorem w_loc_8 {a0 a1 a2 a3 a4 a5 a6 a7 : Option Value} {x y : Int32} (hh : x = y) (k : Wp l D Y R n0 X E pc (a0 :: a1 :: a2 :: a3 :: a4 :: a5 :: a6 :: a7 :: some (.int y) :: L) st h n) : Wp l D Y R n0 X E pc (a0 :: a1 :: a2 :: a3 :: a4 :: a5 :: a6 :: a7 :: some (.int x) :: L) st h n := hh ▸ k
theorem w_loc_9 {a0 a1 a2 a3 a4 a5 a6 a7 a8 : Option Value} {x y : Int32} (hh : x = y) (k : Wp l D Y R n0 X E pc (a0 :: a1 :: a2 :: a3 :: a4 :: a5 :: a6 :: a7 :: a8 :: some (.int y) :: L) st h n) : Wp l D Y R n0 X E pc (a0 :: a1 :: a2 :: a3 :: a4 :: a5 :: a6 :: a7 :: a8 :: some (.int x) :: L) st h n := hh ▸ k
theorem w_loc_10 {a0 a1 a2 a3 a4 a5 a6 a7 a8 a9 : Option Value} {x y : Int32} (hh : x = y) (k : Wp l D Y R n0 X E pc (a0 :: a1 :: a2 :: a3 :: a4 :: a5 :: a6 :: a7 :: a8 :: a9 :: some (.int y) :: L) st h n) : Wp l D Y R n0 X E pc (a0 :: a1 :: a2 :: a3 :: a4 :: a5 :: a6 :: a7 :: a8 :: a9 :: some (.int x) :: L) st h n := hh ▸ k
theorem w_loc_11 {a0 a1 a2 a3 a4 a5 a6 a7 a8 a9 a10 : Option Value} {x y : Int32} (hh : x = y) (k : Wp l D Y R n0 X E pc (a0 :: a1 :: a2 :: a3 :: a4 :: a5 :: a6 :: a7 :: a8 :: a9 :: a10 :: some (.int y) :: L) st h n) : Wp l D Y R n0 X E pc (a0 :: a1 :: a2 :: a3 :: a4 :: a5 :: a6 :: a7 :: a8 :: a9 :: a10 :: some (.int x) :: L) st h n := hh ▸ k
theorem w_loc_12 {a0 a1 a2 a3 a4 a5 a6 a7 a8 a9 a10 a11 : Option Value} {x y : Int32} (hh : x = y) (k : Wp l D Y R n0 X E pc (a0 :: a1 :: a2 :: a3 :: a4 :: a5 :: a6 :: a7 :: a8 :: a9 :: a10 :: a11 :: some (.int y) :: L) st h n) : Wp l D Y R n0 X E pc (a0 :: a1 :: a2 :: a3 :: a4 :: a5 :: a6 :: a7 :: a8 :: a9 :: a10 :: a11 :: some (.int x) :: L) st h n := hh ▸ k
theorem w_loc_13 {a0 a1 a2 a3 a4 a5 a6 a7 a8 a9 a10 a11 a12 : Option Value} {x y : Int32} (hh : x = y) (k : Wp l D Y R n0 X E pc (a0 :: a1 :: a2 :: a3 :: a4 :: a5 :: a6 :: a7 :: a8 :: a9 :: a10 :: a11 :: a12 :: some (.int y) :: L) st h n) : Wp l D Y R n0 X E pc (a0 :: a1 :: a2 :: a3 :: a4 :: a5 :: a6 :: a7 :: a8 :: a9 :: a10 :: a11 :: a12 :: some (.int x) :: L) st h n := hh ▸ k
end PMO
theorem ite_le {a b : Int32} {α : Type} {x y : α} : (if b ≤ a then x else y) = (if a < b then y else x) := by
  by_cases h : a < b
  · rw [if_pos h, if_neg (Int32.not_le.mpr h)]
  · rw [if_neg h, if_pos (Int32.not_lt.mp h)]
theorem e_and (p q : Bool) : (bif p then (bif q then 1 else 0) else 0) = b2i (p && q) := by cases p <;> cases q <;> rfl
theorem e_z (p : Bool) : (bif p then 1 else 0) = b2i p := by cases p <;> rfl
theorem e_zn (p : Bool) : (bif p then 0 else 1) = b2i (!p) := by cases p <;> rfl
end
section
def sIn (x a b : Int32) : Bool := decide (a ≤ x) && decide (x ≤ b)
def sSoul (s : Int32) : Bool := decide (0 ≤ s) && decide (s < 8)
def sBox (b : Int32) : Bool := decide (0 ≤ b) && decide (b < 6)
def sBit (bits p : Int32) : Bool := decide ((bits >>> (p &&& 31)) &&& 1 = 1)
def ushr (x y : Int32) : Int32 := (x.toUInt32 >>> (y.toUInt32 &&& Int32.toUInt32 31)).toInt32
def bc1 (x : Int32) : Int32 := x - (ushr x 1 &&& 1431655765)
def bc2 (x : Int32) : Int32 := (x &&& 858993459) + (ushr x 2 &&& 858993459)
def bc3 (x : Int32) : Int32 := (x + ushr x 4) &&& 252645135
def bc4 (x : Int32) : Int32 := x + ushr x 8
def bc5 (x : Int32) : Int32 := x + ushr x 16
def bc (x : Int32) : Int32 := bc5 (bc4 (bc3 (bc2 (bc1 x)))) &&& 63
def sDeb (a b : Int32) : Int32 := a * 8 + b
def lpow (v : Int64) : Nat → Int64
  | 0 => 1
  | n + 1 => lpow v n * v
set_option maxRecDepth 100000 in
set_option maxHeartbeats 4000000 in
theorem pm_X6_isWithin {l : Launch} {D : va_G} {h : PH} {x a b : Int32} : PM l D YX6_isWithin 1 [.int x, .int a, .int b] h 0 0 (some (.int (b2i (sIn x a b)))) h := by
  refine pm_of2 (n0 := h.length) kb_YX6_isWithin rfl [some (.int x), some (.int a), some (.int b)] (fun _ => rfl) (fun _ => (Nat.le_of_ble_eq_true rfl)) ?_
  refine w_iload_n dX6_isWithin_0 rfl ?_
  refine w_iload_n dX6_isWithin_1 rfl ?_
  refine w_ticmp_lt (a := ?a2) (b := ?b2) (pJ := 15) (tgt := 14) dX6_isWithin_2 (by decide) (fun c_2 k => ?hA2) (fun c_2 k => ?hB2) ?hk2
  case hA2 =>
    refine w_iconst (v := 0) dX6_isWithin_14 (by decide) ?_
    exact k
  case hB2 =>
    refine w_iload_n dX6_isWithin_5 rfl ?_
    refine w_iload_n dX6_isWithin_6 rfl ?_
    refine w_ticmp_gt (a := ?a7) (b := ?b7) (pJ := 15) (tgt := 14) dX6_isWithin_7 (by decide) (fun c_7 k => ?hA7) (fun c_7 k => ?hB7) ?hk7
    case hA7 =>
      refine w_iconst (v := 0) dX6_isWithin_14 (by decide) ?_
      exact k
    case hB7 =>
      refine w_iconst (v := 1) dX6_isWithin_10 (by decide) ?_
      refine w_goto (tgt := 15) dX6_isWithin_11 (by decide) ?_
      exact k
    exact k
  exact w_zretb dX6_isWithin_15 rfl (by simp only [b2i, sIn, sSoul, sBox, sBit, Bool.and_eq_true, decide_eq_true_eq, ← Int32.not_lt] <;> repeat (split <;> simp_all)) rfl rfl (Nat.le_refl 0)

set_option maxRecDepth 100000 in
set_option maxHeartbeats 4000000 in
theorem pm_X6_isSoul {l : Launch} {D : va_G} {h : PH} {x : Int32} : PM l D YX6_isSoul 1 [.int x] h 0 0 (some (.int (b2i (sSoul x)))) h := by
  refine pm_of2 (n0 := h.length) kb_YX6_isSoul rfl [some (.int x)] (fun _ => rfl) (fun _ => (Nat.le_of_ble_eq_true rfl)) ?_
  refine w_iload_n dX6_isSoul_0 rfl ?_
  refine w_tif_lt (a := ?a1) (b := ?b1) (pJ := 15) (tgt := 14) dX6_isSoul_1 (by decide) (fun c_1 k => ?hA1) (fun c_1 k => ?hB1) ?hk1
  case hA1 =>
    refine w_iconst (v := 0) dX6_isSoul_14 (by decide) ?_
    exact k
  case hB1 =>
    refine w_iload_n dX6_isSoul_4 rfl ?_
    refine w_bipush (v := 8) dX6_isSoul_5 (by decide) ?_
    refine w_ticmp_ge (a := ?a7) (b := ?b7) (pJ := 15) (tgt := 14) dX6_isSoul_7 (by decide) (fun c_7 k => ?hA7) (fun c_7 k => ?hB7) ?hk7
    case hA7 =>
      refine w_iconst (v := 0) dX6_isSoul_14 (by decide) ?_
      exact k
    case hB7 =>
      refine w_iconst (v := 1) dX6_isSoul_10 (by decide) ?_
      refine w_goto (tgt := 15) dX6_isSoul_11 (by decide) ?_
      exact k
    exact k
  exact w_zretb dX6_isSoul_15 rfl (by simp only [b2i, sIn, sSoul, sBox, sBit, Bool.and_eq_true, decide_eq_true_eq, ← Int32.not_lt] <;> repeat (split <;> simp_all)) rfl rfl (Nat.le_refl 0)

set_option maxRecDepth 100000 in
set_option maxHeartbeats 4000000 in
theorem pm_X6_isBox {l : Launch} {D : va_G} {h : PH} {x : Int32} : PM l D YX6_isBox 1 [.int x] h 0 0 (some (.int (b2i (sBox x)))) h := by
  refine pm_of2 (n0 := h.length) kb_YX6_isBox rfl [some (.int x)] (fun _ => rfl) (fun _ => (Nat.le_of_ble_eq_true rfl)) ?_
  refine w_iload_n dX6_isBox_0 rfl ?_
  refine w_tif_lt (a := ?a1) (b := ?b1) (pJ := 15) (tgt := 14) dX6_isBox_1 (by decide) (fun c_1 k => ?hA1) (fun c_1 k => ?hB1) ?hk1
  case hA1 =>
    refine w_iconst (v := 0) dX6_isBox_14 (by decide) ?_
    exact k
  case hB1 =>
    refine w_iload_n dX6_isBox_4 rfl ?_
    refine w_bipush (v := 6) dX6_isBox_5 (by decide) ?_
    refine w_ticmp_ge (a := ?a7) (b := ?b7) (pJ := 15) (tgt := 14) dX6_isBox_7 (by decide) (fun c_7 k => ?hA7) (fun c_7 k => ?hB7) ?hk7
    case hA7 =>
      refine w_iconst (v := 0) dX6_isBox_14 (by decide) ?_
      exact k
    case hB7 =>
      refine w_iconst (v := 1) dX6_isBox_10 (by decide) ?_
      refine w_goto (tgt := 15) dX6_isBox_11 (by decide) ?_
      exact k
    exact k
  exact w_zretb dX6_isBox_15 rfl (by simp only [b2i, sIn, sSoul, sBox, sBit, Bool.and_eq_true, decide_eq_true_eq, ← Int32.not_lt] <;> repeat (split <;> simp_all)) rfl rfl (Nat.le_refl 0)

set_option maxRecDepth 100000 in
set_option maxHeartbeats 4000000 in
theorem pm_X6_hasBit {l : Launch} {D : va_G} {h : PH} {x y : Int32} : PM l D YX6_hasBit 1 [.int x, .int y] h 0 0 (some (.int (b2i (sBit x y)))) h := by
  refine pm_of2 (n0 := h.length) kb_YX6_hasBit rfl [some (.int x), some (.int y)] (fun _ => rfl) (fun _ => (Nat.le_of_ble_eq_true rfl)) ?_
  refine w_iload_n dX6_hasBit_0 rfl ?_
  refine w_iload_n dX6_hasBit_1 rfl ?_
  refine w_ishr dX6_hasBit_2 ?_
  refine w_iconst (v := 1) dX6_hasBit_3 (by decide) ?_
  refine w_iand dX6_hasBit_4 ?_
  refine w_iconst (v := 1) dX6_hasBit_5 (by decide) ?_
  refine w_ticmp_ne (a := ?a6) (b := ?b6) (pJ := 14) (tgt := 13) dX6_hasBit_6 (by decide) (fun c_6 k => ?hA6) (fun c_6 k => ?hB6) ?hk6
  case hA6 =>
    refine w_iconst (v := 0) dX6_hasBit_13 (by decide) ?_
    exact k
  case hB6 =>
    refine w_iconst (v := 1) dX6_hasBit_9 (by decide) ?_
    refine w_goto (tgt := 14) dX6_hasBit_10 (by decide) ?_
    exact k
  exact w_zretb dX6_hasBit_14 rfl (by simp only [b2i, sIn, sSoul, sBox, sBit, Bool.and_eq_true, decide_eq_true_eq, ← Int32.not_lt] <;> repeat (split <;> simp_all)) rfl rfl (Nat.le_refl 0)

set_option maxRecDepth 100000 in
set_option maxHeartbeats 4000000 in
theorem pm_X5_debtPlace {l : Launch} {D : va_G} {h : PH} {x y : Int32} : PM l D YX5_debtPlace 1 [.int x, .int y] h 0 0 (some (.int (sDeb x y))) h := by
  refine pm_of2 (n0 := h.length) kb_YX5_debtPlace rfl [some (.int x), some (.int y)] (fun _ => rfl) (fun _ => (Nat.le_of_ble_eq_true rfl)) ?_
  refine w_iload_n dX5_debtPlace_0 rfl ?_
  refine w_bipush (v := 8) dX5_debtPlace_1 (by decide) ?_
  refine w_imul dX5_debtPlace_3 ?_
  refine w_iload_n dX5_debtPlace_4 rfl ?_
  refine w_iadd dX5_debtPlace_5 ?_
  exact w_iret dX5_debtPlace_6 rfl rfl rfl rfl (Nat.le_refl 0)

set_option maxRecDepth 100000 in
set_option maxHeartbeats 4000000 in
theorem pm_bitCount {l : Launch} {D : va_G} {h : PH} {x : Int32} : PM l D YJ6_bitCount_0f7a4 1 [.int x] h 0 0 (some (.int (bc x))) h := by
  refine pm_of2 (n0 := h.length) kb_YJ6_bitCount_0f7a4 rfl [some (.int x)] (fun _ => rfl) (fun _ => (Nat.le_of_ble_eq_true rfl)) ?_
  refine w_iload_n dJ6_bitCount_0f7a4_0 rfl ?_
  refine w_iload_n dJ6_bitCount_0f7a4_1 rfl ?_
  refine w_iconst (v := 1) dJ6_bitCount_0f7a4_2 (by decide) ?_
  refine w_iushr dJ6_bitCount_0f7a4_3 ?_
  refine w_ldcw dJ6_bitCount_0f7a4_4 q_J6_265 ?_
  refine w_iand dJ6_bitCount_0f7a4_7 ?_
  refine w_isub dJ6_bitCount_0f7a4_8 ?_
  refine w_istore_0 dJ6_bitCount_0f7a4_9 (Nat.le_of_ble_eq_true rfl) ?_
  refine w_leq (L2 := [some (.int (bc1 x))]) rfl ?_
  refine w_iload_n dJ6_bitCount_0f7a4_10 rfl ?_
  refine w_ldcw dJ6_bitCount_0f7a4_11 q_J6_266 ?_
  refine w_iand dJ6_bitCount_0f7a4_14 ?_
  refine w_iload_n dJ6_bitCount_0f7a4_15 rfl ?_
  refine w_iconst (v := 2) dJ6_bitCount_0f7a4_16 (by decide) ?_
  refine w_iushr dJ6_bitCount_0f7a4_17 ?_
  refine w_ldcw dJ6_bitCount_0f7a4_18 q_J6_266 ?_
  refine w_iand dJ6_bitCount_0f7a4_21 ?_
  refine w_iadd dJ6_bitCount_0f7a4_22 ?_
  refine w_istore_0 dJ6_bitCount_0f7a4_23 (Nat.le_of_ble_eq_true rfl) ?_
  refine w_leq (L2 := [some (.int (bc2 (bc1 x)))]) rfl ?_
  refine w_iload_n dJ6_bitCount_0f7a4_24 rfl ?_
  refine w_iload_n dJ6_bitCount_0f7a4_25 rfl ?_
  refine w_iconst (v := 4) dJ6_bitCount_0f7a4_26 (by decide) ?_
  refine w_iushr dJ6_bitCount_0f7a4_27 ?_
  refine w_iadd dJ6_bitCount_0f7a4_28 ?_
  refine w_ldcw dJ6_bitCount_0f7a4_29 q_J6_267 ?_
  refine w_iand dJ6_bitCount_0f7a4_32 ?_
  refine w_istore_0 dJ6_bitCount_0f7a4_33 (Nat.le_of_ble_eq_true rfl) ?_
  refine w_leq (L2 := [some (.int (bc3 (bc2 (bc1 x))))]) rfl ?_
  refine w_iload_n dJ6_bitCount_0f7a4_34 rfl ?_
  refine w_iload_n dJ6_bitCount_0f7a4_35 rfl ?_
  refine w_bipush (v := 8) dJ6_bitCount_0f7a4_36 (by decide) ?_
  refine w_iushr dJ6_bitCount_0f7a4_38 ?_
  refine w_iadd dJ6_bitCount_0f7a4_39 ?_
  refine w_istore_0 dJ6_bitCount_0f7a4_40 (Nat.le_of_ble_eq_true rfl) ?_
  refine w_leq (L2 := [some (.int (bc4 (bc3 (bc2 (bc1 x)))))]) rfl ?_
  refine w_iload_n dJ6_bitCount_0f7a4_41 rfl ?_
  refine w_iload_n dJ6_bitCount_0f7a4_42 rfl ?_
  refine w_bipush (v := 16) dJ6_bitCount_0f7a4_43 (by decide) ?_
  refine w_iushr dJ6_bitCount_0f7a4_45 ?_
  refine w_iadd dJ6_bitCount_0f7a4_46 ?_
  refine w_istore_0 dJ6_bitCount_0f7a4_47 (Nat.le_of_ble_eq_true rfl) ?_
  refine w_leq (L2 := [some (.int (bc5 (bc4 (bc3 (bc2 (bc1 x))))))]) rfl ?_
  refine w_iload_n dJ6_bitCount_0f7a4_48 rfl ?_
  refine w_bipush (v := 63) dJ6_bitCount_0f7a4_49 (by decide) ?_
  refine w_iand dJ6_bitCount_0f7a4_51 ?_
  exact w_iret dJ6_bitCount_0f7a4_52 rfl rfl rfl rfl (Nat.le_refl 0)

set_option maxRecDepth 100000 in
set_option maxHeartbeats 4000000 in
theorem pm_X7_in {l : Launch} {D : va_G} {h : PH} {x a b : Int32} : PM l D YX7_in 1 [.int x, .int a, .int b] h 0 0 (some (.int (b2i (sIn x a b)))) h := by
  refine pm_of2 (n0 := h.length) kb_YX7_in rfl [some (.int x), some (.int a), some (.int b)] (fun _ => rfl) (fun _ => (Nat.le_of_ble_eq_true rfl)) ?_
  refine w_iload_n dX7_in_0 rfl ?_
  refine w_iload_n dX7_in_1 rfl ?_
  refine w_ticmp_lt (a := ?a2) (b := ?b2) (pJ := 15) (tgt := 14) dX7_in_2 (by decide) (fun c_2 k => ?hA2) (fun c_2 k => ?hB2) ?hk2
  case hA2 =>
    refine w_iconst (v := 0) dX7_in_14 (by decide) ?_
    exact k
  case hB2 =>
    refine w_iload_n dX7_in_5 rfl ?_
    refine w_iload_n dX7_in_6 rfl ?_
    refine w_ticmp_gt (a := ?a7) (b := ?b7) (pJ := 15) (tgt := 14) dX7_in_7 (by decide) (fun c_7 k => ?hA7) (fun c_7 k => ?hB7) ?hk7
    case hA7 =>
      refine w_iconst (v := 0) dX7_in_14 (by decide) ?_
      exact k
    case hB7 =>
      refine w_iconst (v := 1) dX7_in_10 (by decide) ?_
      refine w_goto (tgt := 15) dX7_in_11 (by decide) ?_
      exact k
    exact k
  exact w_zretb dX7_in_15 rfl (by simp only [b2i, sIn, sSoul, sBox, sBit, Bool.and_eq_true, decide_eq_true_eq, ← Int32.not_lt] <;> repeat (split <;> simp_all)) rfl rfl (Nat.le_refl 0)

set_option maxRecDepth 100000 in
set_option maxHeartbeats 4000000 in
theorem pm_X7_has {l : Launch} {D : va_G} {h : PH} {x y : Int32} : PM l D YX7_has 1 [.int x, .int y] h 0 0 (some (.int (b2i (sBit x y)))) h := by
  refine pm_of2 (n0 := h.length) kb_YX7_has rfl [some (.int x), some (.int y)] (fun _ => rfl) (fun _ => (Nat.le_of_ble_eq_true rfl)) ?_
  refine w_iload_n dX7_has_0 rfl ?_
  refine w_iload_n dX7_has_1 rfl ?_
  refine w_ishr dX7_has_2 ?_
  refine w_iconst (v := 1) dX7_has_3 (by decide) ?_
  refine w_iand dX7_has_4 ?_
  refine w_iconst (v := 1) dX7_has_5 (by decide) ?_
  refine w_ticmp_ne (a := ?a6) (b := ?b6) (pJ := 14) (tgt := 13) dX7_has_6 (by decide) (fun c_6 k => ?hA6) (fun c_6 k => ?hB6) ?hk6
  case hA6 =>
    refine w_iconst (v := 0) dX7_has_13 (by decide) ?_
    exact k
  case hB6 =>
    refine w_iconst (v := 1) dX7_has_9 (by decide) ?_
    refine w_goto (tgt := 14) dX7_has_10 (by decide) ?_
    exact k
  exact w_zretb dX7_has_14 rfl (by simp only [b2i, sIn, sSoul, sBox, sBit, Bool.and_eq_true, decide_eq_true_eq, ← Int32.not_lt] <;> repeat (split <;> simp_all)) rfl rfl (Nat.le_refl 0)
end
section
abbrev WS : Type := Int32 × Int32 × Int32 × Int32 × (Nat → Int32) × (Nat → Int32) × (Nat → Int32) × (Nat → Int32) × (Nat → Int32) × (Nat → Int32) × (Nat → Int32) × (Nat → Int32)
def wlv (S : WS) : Int32 := S.1
def wyr (S : WS) : Int32 := S.2.1
def wsg (S : WS) : Int32 := S.2.2.1
def wop (S : WS) : Int32 := S.2.2.2.1
def wmk (S : WS) : Nat → Int32 := S.2.2.2.2.1
def wpu (S : WS) : Nat → Int32 := S.2.2.2.2.2.1
def wwa (S : WS) : Nat → Int32 := S.2.2.2.2.2.2.1
def wde (S : WS) : Nat → Int32 := S.2.2.2.2.2.2.2.1
def wwn (S : WS) : Nat → Int32 := S.2.2.2.2.2.2.2.2.1
def whi (S : WS) : Nat → Int32 := S.2.2.2.2.2.2.2.2.2.1
def wco (S : WS) : Nat → Int32 := S.2.2.2.2.2.2.2.2.2.2.1
def wsm (S : WS) : Nat → Int32 := S.2.2.2.2.2.2.2.2.2.2.2
def slv (S : WS) (x : Int32) : WS := (x, wyr S, wsg S, wop S, wmk S, wpu S, wwa S, wde S, wwn S, whi S, wco S, wsm S)
def syr (S : WS) (x : Int32) : WS := (wlv S, x, wsg S, wop S, wmk S, wpu S, wwa S, wde S, wwn S, whi S, wco S, wsm S)
def ssg (S : WS) (x : Int32) : WS := (wlv S, wyr S, x, wop S, wmk S, wpu S, wwa S, wde S, wwn S, whi S, wco S, wsm S)
def sop (S : WS) (x : Int32) : WS := (wlv S, wyr S, wsg S, x, wmk S, wpu S, wwa S, wde S, wwn S, whi S, wco S, wsm S)
def smk (S : WS) (x : Nat → Int32) : WS := (wlv S, wyr S, wsg S, wop S, x, wpu S, wwa S, wde S, wwn S, whi S, wco S, wsm S)
def spu (S : WS) (x : Nat → Int32) : WS := (wlv S, wyr S, wsg S, wop S, wmk S, x, wwa S, wde S, wwn S, whi S, wco S, wsm S)
def swa (S : WS) (x : Nat → Int32) : WS := (wlv S, wyr S, wsg S, wop S, wmk S, wpu S, x, wde S, wwn S, whi S, wco S, wsm S)
def sde (S : WS) (x : Nat → Int32) : WS := (wlv S, wyr S, wsg S, wop S, wmk S, wpu S, wwa S, x, wwn S, whi S, wco S, wsm S)
def swn (S : WS) (x : Nat → Int32) : WS := (wlv S, wyr S, wsg S, wop S, wmk S, wpu S, wwa S, wde S, x, whi S, wco S, wsm S)
def shi (S : WS) (x : Nat → Int32) : WS := (wlv S, wyr S, wsg S, wop S, wmk S, wpu S, wwa S, wde S, wwn S, x, wco S, wsm S)
def sco (S : WS) (x : Nat → Int32) : WS := (wlv S, wyr S, wsg S, wop S, wmk S, wpu S, wwa S, wde S, wwn S, whi S, x, wsm S)
def ssm (S : WS) (x : Nat → Int32) : WS := (wlv S, wyr S, wsg S, wop S, wmk S, wpu S, wwa S, wde S, wwn S, whi S, wco S, x)
def wobj (b : Nat) (S : WS) : PC := .inr (5, [.int (wlv S), .int (wyr S), .int (wsg S), .int (wop S), .ref (b + 1), .ref (b + 2), .ref (b + 3), .ref (b + 4), .ref (b + 5), .ref (b + 6), .ref (b + 7), .ref (b + 8)])
def wc (b : Nat) (S : WS) : PH := [wobj b S, ia 8 (wmk S), ia 8 (wpu S), ia 8 (wwa S), ia 64 (wde S), ia 6 (wwn S), ia 6 (whi S), ia 6 (wco S), ia 8 (wsm S)]
def wput (h : PH) (b : Nat) (S : WS) : PH := h.take b ++ (wc b S ++ h.drop (b + 9))
theorem wlen {h : PH} {b : Nat} {S : WS} (hb : b + 8 < h.length) : (wput h b S).length = h.length := by
  have h1 : (wc b S).length = 9 := rfl
  simp only [wput, List.length_append, List.length_take, List.length_drop, h1]
  omega
theorem wat {h : PH} {b k : Nat} {S : WS} {c : PC} (hb : b + 8 < h.length) (hk : k < 9) (hc : (wc b S)[k]? = some c) : (wput h b S)[b + k]? = some c := by
  have h1 : (wc b S).length = 9 := rfl
  unfold wput
  rw [List.getElem?_append_right (by rw [List.length_take]; omega), List.length_take, Nat.min_eq_left (by omega), Nat.add_sub_cancel_left, List.getElem?_append_left (by omega)]
  exact hc
theorem wst {h : PH} {b k : Nat} {S S2 : WS} {c : PC} (hb : b + 8 < h.length) (hk : k < 9) (hc : (wc b S).set k c = wc b S2) : (wput h b S).set (b + k) c = wput h b S2 := by
  have h1 : (wc b S).length = 9 := rfl
  unfold wput
  rw [List.set_append_right _ _ (by rw [List.length_take]; omega), List.length_take, Nat.min_eq_left (by omega), Nat.add_sub_cancel_left, List.set_append_left _ _ (by omega), hc]
theorem wput2 {h : PH} {b : Nat} {S S2 : WS} (hb : b + 8 < h.length) : wput (wput h b S) b S2 = wput h b S2 := by
  have h1 : (wc b S).length = 9 := rfl
  have e1 : (wput h b S).take b = h.take b := by
    unfold wput
    rw [List.take_append_of_le_length (by rw [List.length_take]; omega), List.take_take, Nat.min_self]
  have e2 : (wput h b S).drop (b + 9) = h.drop (b + 9) := by
    unfold wput
    rw [List.drop_append, List.length_take, Nat.min_eq_left (by omega), Nat.add_sub_cancel_left, List.drop_of_length_le (by rw [List.length_take]; omega), List.drop_append, h1, Nat.sub_self, List.drop_of_length_le (by omega)]
    rfl
  show (wput h b S).take b ++ (wc b S2 ++ (wput h b S).drop (b + 9)) = _
  rw [e1, e2]; rfl
theorem wg0 {h : PH} {b : Nat} {S : WS} (hb : b + 8 < h.length) : (wput h b S)[b]? = some (.inr (5, [.int (wlv S), .int (wyr S), .int (wsg S), .int (wop S), .ref (b + 1), .ref (b + 2), .ref (b + 3), .ref (b + 4), .ref (b + 5), .ref (b + 6), .ref (b + 7), .ref (b + 8)])) := wat (k := 0) hb (by decide) rfl
theorem wg1 {h : PH} {b : Nat} {S : WS} (hb : b + 8 < h.length) : (wput h b S)[b + 1]? = some (ia 8 (wmk S)) := wat (k := 1) hb (by decide) rfl
theorem wg2 {h : PH} {b : Nat} {S : WS} (hb : b + 8 < h.length) : (wput h b S)[b + 2]? = some (ia 8 (wpu S)) := wat (k := 2) hb (by decide) rfl
theorem wg3 {h : PH} {b : Nat} {S : WS} (hb : b + 8 < h.length) : (wput h b S)[b + 3]? = some (ia 8 (wwa S)) := wat (k := 3) hb (by decide) rfl
theorem wg4 {h : PH} {b : Nat} {S : WS} (hb : b + 8 < h.length) : (wput h b S)[b + 4]? = some (ia 64 (wde S)) := wat (k := 4) hb (by decide) rfl
theorem wg5 {h : PH} {b : Nat} {S : WS} (hb : b + 8 < h.length) : (wput h b S)[b + 5]? = some (ia 6 (wwn S)) := wat (k := 5) hb (by decide) rfl
theorem wg6 {h : PH} {b : Nat} {S : WS} (hb : b + 8 < h.length) : (wput h b S)[b + 6]? = some (ia 6 (whi S)) := wat (k := 6) hb (by decide) rfl
theorem wg7 {h : PH} {b : Nat} {S : WS} (hb : b + 8 < h.length) : (wput h b S)[b + 7]? = some (ia 6 (wco S)) := wat (k := 7) hb (by decide) rfl
theorem wg8 {h : PH} {b : Nat} {S : WS} (hb : b + 8 < h.length) : (wput h b S)[b + 8]? = some (ia 8 (wsm S)) := wat (k := 8) hb (by decide) rfl
section PWO
variable {l : Launch} {D : va_G} {Y : PMth} {R : Room} {n0 : Nat} {X : State → Array Value → Nat → Prop} {E : List Frame → Array Value → State → Nat → State → Prop} {pc nx : Nat} {L : List (Option Value)} {st st0 : List Value} {h h2 : PH} {n b : Nat} {S : WS}
theorem w_pW0 {v : Int32} {idx : Nat} (hd : dc Y.2.1 pc (.putfield idx) 3 nx) (hf : FLp Y.1.cls idx 5 0 false .int) (hb : b + 8 < h.length) (kk : Wp l D Y R n0 X E nx L st (wput h b (slv S v)) n) : Wp l D Y R n0 X E pc L (.int v :: .ref b :: st) (wput h b S) n := by
  refine w_put hd hf (wg0 hb) (Nat.le_of_ble_eq_true rfl) (fun _ => rfl) (fun _ => rfl) ?_
  refine w_heq (wst (k := 0) hb (by decide) rfl) kk
theorem w_pW1 {v : Int32} {idx : Nat} (hd : dc Y.2.1 pc (.putfield idx) 3 nx) (hf : FLp Y.1.cls idx 5 1 false .int) (hb : b + 8 < h.length) (kk : Wp l D Y R n0 X E nx L st (wput h b (syr S v)) n) : Wp l D Y R n0 X E pc L (.int v :: .ref b :: st) (wput h b S) n := by
  refine w_put hd hf (wg0 hb) (Nat.le_of_ble_eq_true rfl) (fun _ => rfl) (fun _ => rfl) ?_
  refine w_heq (wst (k := 0) hb (by decide) rfl) kk
theorem w_pW2 {v : Int32} {idx : Nat} (hd : dc Y.2.1 pc (.putfield idx) 3 nx) (hf : FLp Y.1.cls idx 5 2 false .int) (hb : b + 8 < h.length) (kk : Wp l D Y R n0 X E nx L st (wput h b (ssg S v)) n) : Wp l D Y R n0 X E pc L (.int v :: .ref b :: st) (wput h b S) n := by
  refine w_put hd hf (wg0 hb) (Nat.le_of_ble_eq_true rfl) (fun _ => rfl) (fun _ => rfl) ?_
  refine w_heq (wst (k := 0) hb (by decide) rfl) kk
theorem w_pW3 {v : Int32} {idx : Nat} (hd : dc Y.2.1 pc (.putfield idx) 3 nx) (hf : FLp Y.1.cls idx 5 3 false .int) (hb : b + 8 < h.length) (kk : Wp l D Y R n0 X E nx L st (wput h b (sop S v)) n) : Wp l D Y R n0 X E pc L (.int v :: .ref b :: st) (wput h b S) n := by
  refine w_put hd hf (wg0 hb) (Nat.le_of_ble_eq_true rfl) (fun _ => rfl) (fun _ => rfl) ?_
  refine w_heq (wst (k := 0) hb (by decide) rfl) kk
theorem w_aW1 {i x : Int32} (hd : dc Y.2.1 pc .iastore 1 nx) (hb : b + 8 < h.length) (hi : vp_in i 8) (kk : Wp l D Y R n0 X E nx L st (wput h b (smk S (upd (wmk S) i.toNatClampNeg x))) n) : Wp l D Y R n0 X E pc L (.int x :: .int i :: .ref (b + 1) :: st) (wput h b S) n := by
  refine w_iast hd (wg1 hb) hi ?_
  refine w_heq (wst (k := 1) hb (by decide) rfl) kk
theorem w_aW2 {i x : Int32} (hd : dc Y.2.1 pc .iastore 1 nx) (hb : b + 8 < h.length) (hi : vp_in i 8) (kk : Wp l D Y R n0 X E nx L st (wput h b (spu S (upd (wpu S) i.toNatClampNeg x))) n) : Wp l D Y R n0 X E pc L (.int x :: .int i :: .ref (b + 2) :: st) (wput h b S) n := by
  refine w_iast hd (wg2 hb) hi ?_
  refine w_heq (wst (k := 2) hb (by decide) rfl) kk
theorem w_aW3 {i x : Int32} (hd : dc Y.2.1 pc .iastore 1 nx) (hb : b + 8 < h.length) (hi : vp_in i 8) (kk : Wp l D Y R n0 X E nx L st (wput h b (swa S (upd (wwa S) i.toNatClampNeg x))) n) : Wp l D Y R n0 X E pc L (.int x :: .int i :: .ref (b + 3) :: st) (wput h b S) n := by
  refine w_iast hd (wg3 hb) hi ?_
  refine w_heq (wst (k := 3) hb (by decide) rfl) kk
theorem w_aW4 {i x : Int32} (hd : dc Y.2.1 pc .iastore 1 nx) (hb : b + 8 < h.length) (hi : vp_in i 64) (kk : Wp l D Y R n0 X E nx L st (wput h b (sde S (upd (wde S) i.toNatClampNeg x))) n) : Wp l D Y R n0 X E pc L (.int x :: .int i :: .ref (b + 4) :: st) (wput h b S) n := by
  refine w_iast hd (wg4 hb) hi ?_
  refine w_heq (wst (k := 4) hb (by decide) rfl) kk
theorem w_aW5 {i x : Int32} (hd : dc Y.2.1 pc .iastore 1 nx) (hb : b + 8 < h.length) (hi : vp_in i 6) (kk : Wp l D Y R n0 X E nx L st (wput h b (swn S (upd (wwn S) i.toNatClampNeg x))) n) : Wp l D Y R n0 X E pc L (.int x :: .int i :: .ref (b + 5) :: st) (wput h b S) n := by
  refine w_iast hd (wg5 hb) hi ?_
  refine w_heq (wst (k := 5) hb (by decide) rfl) kk
theorem w_aW6 {i x : Int32} (hd : dc Y.2.1 pc .iastore 1 nx) (hb : b + 8 < h.length) (hi : vp_in i 6) (kk : Wp l D Y R n0 X E nx L st (wput h b (shi S (upd (whi S) i.toNatClampNeg x))) n) : Wp l D Y R n0 X E pc L (.int x :: .int i :: .ref (b + 6) :: st) (wput h b S) n := by
  refine w_iast hd (wg6 hb) hi ?_
  refine w_heq (wst (k := 6) hb (by decide) rfl) kk
theorem w_aW7 {i x : Int32} (hd : dc Y.2.1 pc .iastore 1 nx) (hb : b + 8 < h.length) (hi : vp_in i 6) (kk : Wp l D Y R n0 X E nx L st (wput h b (sco S (upd (wco S) i.toNatClampNeg x))) n) : Wp l D Y R n0 X E pc L (.int x :: .int i :: .ref (b + 7) :: st) (wput h b S) n := by
  refine w_iast hd (wg7 hb) hi ?_
  refine w_heq (wst (k := 7) hb (by decide) rfl) kk
theorem w_aW8 {i x : Int32} (hd : dc Y.2.1 pc .iastore 1 nx) (hb : b + 8 < h.length) (hi : vp_in i 8) (kk : Wp l D Y R n0 X E nx L st (wput h b (ssm S (upd (wsm S) i.toNatClampNeg x))) n) : Wp l D Y R n0 X E pc L (.int x :: .int i :: .ref (b + 8) :: st) (wput h b S) n := by
  refine w_iast hd (wg8 hb) hi ?_
  refine w_heq (wst (k := 8) hb (by decide) rfl) kk
end PWO
end
section
def sLiv (S : WS) (s : Int32) : Bool := sSoul s && sBit (wlv S) s
def sFelt (S : WS) (x s : Int32) : Int32 := bc (wwn S x.toNatClampNeg &&& wmk S s.toNatClampNeg)
def sLets (S : WS) (x s : Int32) : Bool := sBox x && (sLiv S s && decide (whi S x.toNatClampNeg ≤ sFelt S x s))
def fOr (c : Nat → Bool) (i : Nat) (acc : Int32) : Int32 := if c i then acc ||| (1 <<< (nI i &&& 31)) else acc
def bitsOf (c : Nat → Bool) (n : Nat) : Int32 := iter (fOr c) n 0
def sLetIn (S : WS) (x : Int32) : Int32 := bitsOf (fun i => sLets S x (nI i)) 8
def sBoxes (S : WS) (s : Int32) : Int32 := bitsOf (fun i => sLets S (nI i) s) 6
def sCred (S : WS) (s : Int32) : Int32 := bitsOf (fun i => decide (0 < wde S (sDeb s (nI i)).toNatClampNeg)) 8
def fCb (S : WS) (j : Nat) (a : Int32) : Int32 := if sBit a (nI j) then a ||| sCred S (nI j) else a
def sBehind (S : WS) (s : Int32) : Int32 := iter (fun _ a => iter (fCb S) 8 a) 8 (sCred S s)
def sAnoF (S : WS) (s set : Int32) (i : Nat) : Bool := !decide (nI i = s) && (sLiv S (nI i) && decide (wmk S (nI i).toNatClampNeg &&& set = set))
def sAno (S : WS) (s set : Int32) : Bool := (List.range 8).any (sAnoF S s set)
def fNote (S : WS) (s : Int32) (i : Nat) (best : Int32) : Int32 := if decide (nI i &&& wmk S s.toNatClampNeg = nI i) && (decide (best = -6 ∨ bc (nI i) < bc best) && !sAno S s (nI i)) then nI i else best
def sNote (S : WS) (s : Int32) : Int32 := iter (fNote S s) 256 (-6)
def sFeelL (S : WS) (x : Int32) (i : Nat) : Int32 := if sLiv S (nI i) then sFelt S x (nI i) else 0
def sAll (S : WS) (x : Int32) (n : Nat) : Int32 := iter (fun i a => a + sFeelL S x i) n 0
def sOver (S : WS) (x : Int32) (n : Nat) : Int32 := iter (fun i a => a - wco S x.toNatClampNeg * sFeelL S x i / sAll S x 8) n (wco S x.toNatClampNeg)
def sFst (S : WS) (x s : Int32) (i : Nat) : Bool := decide (sFelt S x s < sFeelL S x i) || (decide (sFeelL S x i = sFelt S x s) && decide (nI i < s))
def sAhead (S : WS) (x s : Int32) (n : Nat) : Int32 := iter (fun i a => if sFst S x s i then a + 1 else a) n 0
def sShare (S : WS) (x s : Int32) : Int32 := if sFelt S x s = 0 ∨ sAll S x 8 = 0 then 0 else wco S x.toNatClampNeg * sFelt S x s / sAll S x 8 + (if sAhead S x s 8 < sOver S x 8 then 1 else 0)
def sPurs (S : WS) : Int32 := iter (fun i a => a + (if sLiv S (nI i) then wpu S (nI i).toNatClampNeg else 0)) 8 0
def sCoin (S : WS) : Int32 := iter (fun i a => a + wco S (nI i).toNatClampNeg) 6 0
def sDebz (s : Int32) (j : Nat) (d : Nat → Int32) : Nat → Int32 := upd (upd d (sDeb s (nI j)).toNatClampNeg 0) (sDeb (nI j) s).toNatClampNeg 0
def sBear (S : WS) (s m p : Int32) : WS := (wlv S ||| (1 <<< (s &&& 31)), wyr S, wsg S, wop S, upd (wmk S) s.toNatClampNeg m, upd (wpu S) s.toNatClampNeg p, upd (wwa S) s.toNatClampNeg (-6), iter (sDebz s) 8 (wde S), wwn S, whi S, wco S, wsm S)
def mvD (f t : Int32) (d : Nat → Int32) : Nat → Int32 := upd (upd d t.toNatClampNeg (d f.toNatClampNeg)) f.toNatClampNeg 0
def fMv (s o : Int32) (j : Nat) (d : Nat → Int32) : Nat → Int32 := mvD (sDeb (nI j) s) (sDeb (nI j) o) (mvD (sDeb s (nI j)) (sDeb o (nI j)) d)
def sBack (S : WS) (s o : Int32) : WS := ((wlv S ^^^ (1 <<< (s &&& 31))) ||| (1 <<< (o &&& 31)), wyr S, wsg S, wop S, upd (upd (wmk S) o.toNatClampNeg (wmk S s.toNatClampNeg &&& (wmk S s.toNatClampNeg - 1))) s.toNatClampNeg 0, upd (upd (wpu S) o.toNatClampNeg (wpu S s.toNatClampNeg / 2)) s.toNatClampNeg 0, upd (wwa S) o.toNatClampNeg s, iter (fMv s o) 8 (wde S), wwn S, whi S, wco S, wsm S)
def sFill (S : WS) (s k : Int32) : WS := spu S (upd (wpu S) s.toNatClampNeg (if wpu S s.toNatClampNeg + k < 999 then wpu S s.toNatClampNeg + k else 999))
def sCanL (S : WS) (a b k : Int32) : Bool := decide (k ≤ wpu S a.toNatClampNeg) && decide (wde S (sDeb b a).toNatClampNeg + k ≤ 999)
def sLend1 (S : WS) (a b k : Int32) : WS := sFill (spu S (upd (wpu S) a.toNatClampNeg (wpu S a.toNatClampNeg - k))) b k
def sLend (S : WS) (a b k : Int32) : WS := sde (sLend1 S a b k) (upd (wde S) (sDeb b a).toNatClampNeg (wde S (sDeb b a).toNatClampNeg + k))
def sTry (S : WS) (s x : Int32) : WS := if sLets S x s then sco (sFill S s (wco S x.toNatClampNeg)) (upd (wco S) x.toNatClampNeg 0) else S
def sHind (S : WS) (k f s c : Int32) : Int32 := if k = 0 then (if wyr S < 99 then 0 else 5) else if sLiv S f = false then 1 else if k = 3 then 0 else if f = s then 2 else if k = 1 then (if sSoul s = false ∨ sLiv S s = true then 3 else 0) else if sLiv S s = false then 3 else if sCanL S f s c then 0 else 4
def sPerf (S : WS) (k f s c : Int32) : WS := if k = 0 then syr S (wyr S + 1) else if k = 1 then sBack S f s else if k = 2 then sLend S f s c else sTry S f s
def sAddS (S : WS) (m o : Int32) : WS := if wsg S < 8 then (wlv S, wyr S, wsg S + 1, wop S ||| (if o = 0 then (0 : Int32) else 1 <<< (wsg S &&& 31)), wmk S, wpu S, wwa S, wde S, wwn S, whi S, wco S, upd (wsm S) (wsg S).toNatClampNeg m) else S
theorem vin_soul {s : Int32} (h : sSoul s = true) : vp_in s 8 := by
  simp only [sSoul, Bool.and_eq_true, decide_eq_true_eq, Int32.le_iff_toInt_le, Int32.lt_iff_toInt_lt] at h
  exact vp_in_iff.mpr ⟨h.1, h.2⟩
theorem vin_box {s : Int32} (h : sBox s = true) : vp_in s 6 := by
  simp only [sBox, Bool.and_eq_true, decide_eq_true_eq, Int32.le_iff_toInt_le, Int32.lt_iff_toInt_lt] at h
  exact vp_in_iff.mpr ⟨h.1, h.2⟩
theorem vin_liv {S : WS} {s : Int32} (h : sLiv S s = true) : vp_in s 8 := by
  simp only [sLiv, Bool.and_eq_true] at h
  exact vin_soul h.1
theorem vin_8 {i k n : Nat} (h : i + (k + 1) = n) (hn : n < 2 ^ 31) : vp_in (nI i) n := vp_in_nI (by omega) hn
theorem deb_nI (a b : Nat) : sDeb (nI a) (nI b) = nI (a * 8 + b) := by
  unfold sDeb
  rw [show (8 : Int32) = nI 8 from rfl, pk_mul, nI_add]
theorem vin_deb {a b : Int32} (ha : vp_in a 8) (hb : vp_in b 8) : vp_in (sDeb a b) 64 := by
  obtain ⟨i, hi, rfl⟩ := vp_in_of ha (by decide)
  obtain ⟨j, hj, rfl⟩ := vp_in_of hb (by decide)
  rw [deb_nI]
  exact vp_in_nI (by omega) (by decide)
theorem lp_x {i n : Nat} {x : Int32} (h : i + 0 = n) (hn : n < 2 ^ 31) (hx : x = nI n) : x ≤ nI i := by
  have : i = n := by omega
  rw [this, hx]; exact Int32.le_refl _
theorem lp_g {i k n : Nat} {x : Int32} (h : i + (k + 1) = n) (hn : n < 2 ^ 31) (hx : x = nI n) : ¬ x ≤ nI i := by
  rw [hx]; exact nI_ge (by omega) hn
theorem sLet_box {S : WS} {x s : Int32} (h : sLets S x s = true) : sBox x = true := by simp only [sLets, Bool.and_eq_true] at h; exact h.1
theorem sLet_liv {S : WS} {x s : Int32} (h : sLets S x s = true) : sLiv S s = true := by simp only [sLets, Bool.and_eq_true] at h; exact h.2.1
theorem ci_nI {i k n : Nat} (h : i + (k + 1) = n) (hn : n < 2 ^ 31) : (nI i).toNatClampNeg = i := nI_clamp (by omega)
set_option maxRecDepth 100000 in
set_option maxHeartbeats 4000000 in
theorem pm_X5_isLiving {l : Launch} {D : va_G} {h : PH} {b : Nat} {S : WS} (hb : b + 8 < h.length) {s : Int32} : PM l D YX5_isLiving 2 [.ref b, .int s] (wput h b S) 0 0 (some (.int (b2i (sLiv S s)))) (wput h b S) := by
  refine pm_of2 (n0 := h.length) kb_YX5_isLiving (wlen hb) [some (.ref b), some (.int s)] (fun _ => rfl) (fun _ => (Nat.le_of_ble_eq_true rfl)) ?_
  refine w_iload_n dX5_isLiving_0 rfl ?_
  refine w_callSr dX5_isLiving_1 k_X5_55 (pm_X6_isSoul) rfl rfl (Nat.le_of_ble_eq_true rfl) (Nat.le_of_ble_eq_true rfl) (Nat.le_of_ble_eq_true rfl) (rc00 (wlen hb) (Nat.le_refl 0)) ?_
  refine w_ztif_eq (a := ?a4) (b := ?b4) (pJ := 23) (tgt := 22) dX5_isLiving_4 (by decide) (fun c_4 k => ?hA4) (fun c_4 k => ?hB4) ?hk4
  case hA4 =>
    refine w_iconst (v := 0) dX5_isLiving_22 (by decide) ?_
    exact k
  case hB4 =>
    refine w_aload_n dX5_isLiving_7 rfl ?_
    refine w_get dX5_isLiving_8 f_X5_9 (wg0 hb) rfl ?_
    refine w_iload_n dX5_isLiving_11 rfl ?_
    refine w_callSr dX5_isLiving_12 k_X5_59 (pm_X6_hasBit) rfl rfl (Nat.le_of_ble_eq_true rfl) (Nat.le_of_ble_eq_true rfl) (Nat.le_of_ble_eq_true rfl) (rc00 (wlen hb) (Nat.le_refl 0)) ?_
    refine w_ztif_eq (a := ?a15) (b := ?b15) (pJ := 23) (tgt := 22) dX5_isLiving_15 (by decide) (fun c_15 k => ?hA15) (fun c_15 k => ?hB15) ?hk15
    case hA15 =>
      refine w_iconst (v := 0) dX5_isLiving_22 (by decide) ?_
      exact k
    case hB15 =>
      refine w_iconst (v := 1) dX5_isLiving_18 (by decide) ?_
      refine w_goto (tgt := 23) dX5_isLiving_19 (by decide) ?_
      exact k
    exact k
  exact w_zretb dX5_isLiving_23 rfl (e_and _ _) rfl (wlen hb) (Nat.le_refl 0)

set_option maxRecDepth 100000 in
set_option maxHeartbeats 4000000 in
theorem pm_X5_felt {l : Launch} {D : va_G} {h : PH} {b : Nat} {S : WS} (hb : b + 8 < h.length) {x s : Int32} (h1 : vp_in x 6) (h2 : vp_in s 8) : PM l D YX5_felt 2 [.ref b, .int x, .int s] (wput h b S) 0 0 (some (.int (sFelt S x s))) (wput h b S) := by
  refine pm_of2 (n0 := h.length) kb_YX5_felt (wlen hb) [some (.ref b), some (.int x), some (.int s)] (fun _ => rfl) (fun _ => (Nat.le_of_ble_eq_true rfl)) ?_
  refine w_aload_n dX5_felt_0 rfl ?_
  refine w_get dX5_felt_1 f_X5_37 (wg0 hb) rfl ?_
  refine w_iload_n dX5_felt_4 rfl ?_
  refine w_iald dX5_felt_5 (wg5 hb) (by assumption) ?_
  refine w_aload_n dX5_felt_6 rfl ?_
  refine w_get dX5_felt_7 f_X5_24 (wg0 hb) rfl ?_
  refine w_iload_n dX5_felt_10 rfl ?_
  refine w_iald dX5_felt_11 (wg1 hb) (by assumption) ?_
  refine w_iand dX5_felt_12 ?_
  refine w_callSr dX5_felt_13 k_X5_67 (pm_bitCount) rfl rfl (Nat.le_of_ble_eq_true rfl) (Nat.le_of_ble_eq_true rfl) (Nat.le_of_ble_eq_true rfl) (rc00 (wlen hb) (Nat.le_refl 0)) ?_
  exact w_iret dX5_felt_16 rfl rfl rfl (wlen hb) (Nat.le_refl 0)

set_option maxRecDepth 100000 in
set_option maxHeartbeats 4000000 in
theorem pm_X5_letsIn {l : Launch} {D : va_G} {h : PH} {b : Nat} {S : WS} (hb : b + 8 < h.length) {x s : Int32} : PM l D YX5_letsIn 3 [.ref b, .int x, .int s] (wput h b S) 0 0 (some (.int (b2i (sLets S x s)))) (wput h b S) := by
  refine pm_of2 (n0 := h.length) kb_YX5_letsIn (wlen hb) [some (.ref b), some (.int x), some (.int s)] (fun _ => rfl) (fun _ => (Nat.le_of_ble_eq_true rfl)) ?_
  refine w_iload_n dX5_letsIn_0 rfl ?_
  refine w_callSr dX5_letsIn_1 k_X5_73 (pm_X6_isBox) rfl rfl (Nat.le_of_ble_eq_true rfl) (Nat.le_of_ble_eq_true rfl) (Nat.le_of_ble_eq_true rfl) (rc00 (wlen hb) (Nat.le_refl 0)) ?_
  refine w_ztif_eq (a := ?a4) (b := ?b4) (pJ := 35) (tgt := 34) dX5_letsIn_4 (by decide) (fun c_4 k => ?hA4) (fun c_4 k => ?hB4) ?hk4
  case hA4 =>
    refine w_iconst (v := 0) dX5_letsIn_34 (by decide) ?_
    exact k
  case hB4 =>
    refine w_aload_n dX5_letsIn_7 rfl ?_
    refine w_iload_n dX5_letsIn_8 rfl ?_
    refine w_callVr dX5_letsIn_9 k_X5_76 (pm_X5_isLiving hb) rfl rfl (wg0 hb) rfl (Nat.le_of_ble_eq_true rfl) (Nat.le_of_ble_eq_true rfl) (Nat.le_of_ble_eq_true rfl) (rc00 (wlen hb) (Nat.le_refl 0)) ?_
    refine w_ztif_eq (a := ?a12) (b := ?b12) (pJ := 35) (tgt := 34) dX5_letsIn_12 (by decide) (fun c_12 k => ?hA12) (fun c_12 k => ?hB12) ?hk12
    case hA12 =>
      refine w_iconst (v := 0) dX5_letsIn_34 (by decide) ?_
      exact k
    case hB12 =>
      refine w_aload_n dX5_letsIn_15 rfl ?_
      refine w_iload_n dX5_letsIn_16 rfl ?_
      refine w_iload_n dX5_letsIn_17 rfl ?_
      refine w_callVr dX5_letsIn_18 k_X5_79 (pm_X5_felt hb (by first | assumption | exact vin_box (by assumption)) (by first | assumption | exact vin_liv (by assumption) | exact vin_8 (by assumption) (by decide))) rfl rfl (wg0 hb) rfl (Nat.le_of_ble_eq_true rfl) (Nat.le_of_ble_eq_true rfl) (Nat.le_of_ble_eq_true rfl) (rc00 (wlen hb) (Nat.le_refl 0)) ?_
      refine w_aload_n dX5_letsIn_21 rfl ?_
      refine w_get dX5_letsIn_22 f_X5_40 (wg0 hb) rfl ?_
      refine w_iload_n dX5_letsIn_25 rfl ?_
      refine w_iald dX5_letsIn_26 (wg6 hb) (vin_box (by assumption)) ?_
      refine w_ticmp_lt (a := ?a27) (b := ?b27) (pJ := 35) (tgt := 34) dX5_letsIn_27 (by decide) (fun c_27 k => ?hA27) (fun c_27 k => ?hB27) ?hk27
      case hA27 =>
        refine w_iconst (v := 0) dX5_letsIn_34 (by decide) ?_
        exact k
      case hB27 =>
        refine w_iconst (v := 1) dX5_letsIn_30 (by decide) ?_
        refine w_goto (tgt := 35) dX5_letsIn_31 (by decide) ?_
        exact k
      exact k
    exact k
  exact w_zretb dX5_letsIn_35 rfl (by simp only [sLets]; cases sBox x <;> cases sLiv S s <;> by_cases hq : whi S x.toNatClampNeg ≤ sFelt S x s <;> simp [b2i, hq, Int32.not_lt, Int32.not_le]) rfl (wlen hb) (Nat.le_refl 0)

set_option maxRecDepth 100000 in
set_option maxHeartbeats 4000000 in
theorem pm_X5_soulsLetIn {l : Launch} {D : va_G} {h : PH} {b : Nat} {S : WS} (hb : b + 8 < h.length) {x : Int32} : PM l D YX5_soulsLetIn 4 [.ref b, .int x] (wput h b S) 0 0 (some (.int (sLetIn S x))) (wput h b S) := by
  refine pm_of2 (n0 := h.length) kb_YX5_soulsLetIn (wlen hb) [some (.ref b), some (.int x), none, none] (fun _ => rfl) (fun _ => (Nat.le_of_ble_eq_true rfl)) ?_
  have loop : ∀ (k i : Nat), i + k = 8 → Wp l D YX5_soulsLetIn (pRm 4 0 0) h.length (fun _ _ _ => True) (mE D h.length 0 0 (some (.int (sLetIn S x))) (wput h b S)) 4 [some (.ref b), some (.int x), some (.int (iter (fOr (fun i => sLets S x (nI i))) i 0)), some (.int (nI i))] [] (wput h b S) 0 := by
    intro k
    induction k with
    | zero =>
      intro i hi
      refine w_iload_n dX5_soulsLetIn_4 rfl ?_
      refine w_bipush (v := 8) dX5_soulsLetIn_5 (by decide) ?_
      refine w_icmp_ge_t (tgt := 31) dX5_soulsLetIn_7 (by decide) (lp_x hi (by decide) rfl) ?_
      have hi : i = 8 := by omega
      subst hi
      refine w_iload_n dX5_soulsLetIn_31 rfl ?_
      exact w_iret dX5_soulsLetIn_32 rfl rfl rfl (wlen hb) (Nat.le_refl 0)
    | succ k ih =>
      intro i hi
      refine w_iload_n dX5_soulsLetIn_4 rfl ?_
      refine w_bipush (v := 8) dX5_soulsLetIn_5 (by decide) ?_
      refine w_icmp_ge_f dX5_soulsLetIn_7 ⟨31, by decide⟩ (lp_g hi (by decide) rfl) ?_
      refine w_aload_n dX5_soulsLetIn_10 rfl ?_
      refine w_iload_n dX5_soulsLetIn_11 rfl ?_
      refine w_iload_n dX5_soulsLetIn_12 rfl ?_
      refine w_callVr dX5_soulsLetIn_13 k_X5_82 (pm_X5_letsIn hb) rfl rfl (wg0 hb) rfl (Nat.le_of_ble_eq_true rfl) (Nat.le_of_ble_eq_true rfl) (Nat.le_of_ble_eq_true rfl) (rc00 (wlen hb) (Nat.le_refl 0)) ?_
      refine w_zif_eq (tgt := 25) dX5_soulsLetIn_16 (by decide) (fun c_16 => ?_) (fun c_16 => ?_)
      · skip
        refine w_iinc_3 (v := 1) dX5_soulsLetIn_25 (by decide) (Nat.le_of_ble_eq_true rfl) rfl ?_
        refine w_goto (tgt := 4) dX5_soulsLetIn_28 (by decide) ?_
        exact w_leq (by simp [iter, fOr, nI_1, c_16]) (ih (i + 1) (by omega))
      · skip
        refine w_iload_n dX5_soulsLetIn_19 rfl ?_
        refine w_iconst (v := 1) dX5_soulsLetIn_20 (by decide) ?_
        refine w_iload_n dX5_soulsLetIn_21 rfl ?_
        refine w_ishl dX5_soulsLetIn_22 ?_
        refine w_ior dX5_soulsLetIn_23 ?_
        refine w_istore_2 dX5_soulsLetIn_24 (Nat.le_of_ble_eq_true rfl) rfl ?_
        refine w_iinc_3 (v := 1) dX5_soulsLetIn_25 (by decide) (Nat.le_of_ble_eq_true rfl) rfl ?_
        refine w_goto (tgt := 4) dX5_soulsLetIn_28 (by decide) ?_
        exact w_leq (by simp [iter, fOr, nI_1, c_16]) (ih (i + 1) (by omega))
  refine w_iconst (v := 0) dX5_soulsLetIn_0 (by decide) ?_
  refine w_istore_2 dX5_soulsLetIn_1 (Nat.le_of_ble_eq_true rfl) rfl ?_
  refine w_iconst (v := 0) dX5_soulsLetIn_2 (by decide) ?_
  refine w_istore_3 dX5_soulsLetIn_3 (Nat.le_of_ble_eq_true rfl) rfl ?_
  exact loop 8 0 rfl

set_option maxRecDepth 100000 in
set_option maxHeartbeats 4000000 in
theorem pm_X5_boxesFor {l : Launch} {D : va_G} {h : PH} {b : Nat} {S : WS} (hb : b + 8 < h.length) {s : Int32} : PM l D YX5_boxesFor 4 [.ref b, .int s] (wput h b S) 0 0 (some (.int (sBoxes S s))) (wput h b S) := by
  refine pm_of2 (n0 := h.length) kb_YX5_boxesFor (wlen hb) [some (.ref b), some (.int s), none, none] (fun _ => rfl) (fun _ => (Nat.le_of_ble_eq_true rfl)) ?_
  have loop : ∀ (k i : Nat), i + k = 6 → Wp l D YX5_boxesFor (pRm 4 0 0) h.length (fun _ _ _ => True) (mE D h.length 0 0 (some (.int (sBoxes S s))) (wput h b S)) 4 [some (.ref b), some (.int s), some (.int (iter (fOr (fun i => sLets S (nI i) s)) i 0)), some (.int (nI i))] [] (wput h b S) 0 := by
    intro k
    induction k with
    | zero =>
      intro i hi
      refine w_iload_n dX5_boxesFor_4 rfl ?_
      refine w_bipush (v := 6) dX5_boxesFor_5 (by decide) ?_
      refine w_icmp_ge_t (tgt := 31) dX5_boxesFor_7 (by decide) (lp_x hi (by decide) rfl) ?_
      have hi : i = 6 := by omega
      subst hi
      refine w_iload_n dX5_boxesFor_31 rfl ?_
      exact w_iret dX5_boxesFor_32 rfl rfl rfl (wlen hb) (Nat.le_refl 0)
    | succ k ih =>
      intro i hi
      refine w_iload_n dX5_boxesFor_4 rfl ?_
      refine w_bipush (v := 6) dX5_boxesFor_5 (by decide) ?_
      refine w_icmp_ge_f dX5_boxesFor_7 ⟨31, by decide⟩ (lp_g hi (by decide) rfl) ?_
      refine w_aload_n dX5_boxesFor_10 rfl ?_
      refine w_iload_n dX5_boxesFor_11 rfl ?_
      refine w_iload_n dX5_boxesFor_12 rfl ?_
      refine w_callVr dX5_boxesFor_13 k_X5_82 (pm_X5_letsIn hb) rfl rfl (wg0 hb) rfl (Nat.le_of_ble_eq_true rfl) (Nat.le_of_ble_eq_true rfl) (Nat.le_of_ble_eq_true rfl) (rc00 (wlen hb) (Nat.le_refl 0)) ?_
      refine w_zif_eq (tgt := 25) dX5_boxesFor_16 (by decide) (fun c_16 => ?_) (fun c_16 => ?_)
      · skip
        refine w_iinc_3 (v := 1) dX5_boxesFor_25 (by decide) (Nat.le_of_ble_eq_true rfl) rfl ?_
        refine w_goto (tgt := 4) dX5_boxesFor_28 (by decide) ?_
        exact w_leq (by simp [iter, fOr, nI_1, c_16]) (ih (i + 1) (by omega))
      · skip
        refine w_iload_n dX5_boxesFor_19 rfl ?_
        refine w_iconst (v := 1) dX5_boxesFor_20 (by decide) ?_
        refine w_iload_n dX5_boxesFor_21 rfl ?_
        refine w_ishl dX5_boxesFor_22 ?_
        refine w_ior dX5_boxesFor_23 ?_
        refine w_istore_2 dX5_boxesFor_24 (Nat.le_of_ble_eq_true rfl) rfl ?_
        refine w_iinc_3 (v := 1) dX5_boxesFor_25 (by decide) (Nat.le_of_ble_eq_true rfl) rfl ?_
        refine w_goto (tgt := 4) dX5_boxesFor_28 (by decide) ?_
        exact w_leq (by simp [iter, fOr, nI_1, c_16]) (ih (i + 1) (by omega))
  refine w_iconst (v := 0) dX5_boxesFor_0 (by decide) ?_
  refine w_istore_2 dX5_boxesFor_1 (Nat.le_of_ble_eq_true rfl) rfl ?_
  refine w_iconst (v := 0) dX5_boxesFor_2 (by decide) ?_
  refine w_istore_3 dX5_boxesFor_3 (Nat.le_of_ble_eq_true rfl) rfl ?_
  exact loop 6 0 rfl

set_option maxRecDepth 100000 in
set_option maxHeartbeats 4000000 in
theorem pm_X5_creditorsOf {l : Launch} {D : va_G} {h : PH} {b : Nat} {S : WS} (hb : b + 8 < h.length) {s : Int32} (hs : vp_in s 8) : PM l D YX5_creditorsOf 2 [.ref b, .int s] (wput h b S) 0 0 (some (.int (sCred S s))) (wput h b S) := by
  refine pm_of2 (n0 := h.length) kb_YX5_creditorsOf (wlen hb) [some (.ref b), some (.int s), none, none] (fun _ => rfl) (fun _ => (Nat.le_of_ble_eq_true rfl)) ?_
  have loop : ∀ (k i : Nat), i + k = 8 → Wp l D YX5_creditorsOf (pRm 2 0 0) h.length (fun _ _ _ => True) (mE D h.length 0 0 (some (.int (sCred S s))) (wput h b S)) 4 [some (.ref b), some (.int s), some (.int (iter (fOr (fun i => decide (0 < wde S (sDeb s (nI i)).toNatClampNeg))) i 0)), some (.int (nI i))] [] (wput h b S) 0 := by
    intro k
    induction k with
    | zero =>
      intro i hi
      refine w_iload_n dX5_creditorsOf_4 rfl ?_
      refine w_bipush (v := 8) dX5_creditorsOf_5 (by decide) ?_
      refine w_icmp_ge_t (tgt := 35) dX5_creditorsOf_7 (by decide) (lp_x hi (by decide) rfl) ?_
      have hi : i = 8 := by omega
      subst hi
      refine w_iload_n dX5_creditorsOf_35 rfl ?_
      exact w_iret dX5_creditorsOf_36 rfl rfl rfl (wlen hb) (Nat.le_refl 0)
    | succ k ih =>
      intro i hi
      refine w_iload_n dX5_creditorsOf_4 rfl ?_
      refine w_bipush (v := 8) dX5_creditorsOf_5 (by decide) ?_
      refine w_icmp_ge_f dX5_creditorsOf_7 ⟨35, by decide⟩ (lp_g hi (by decide) rfl) ?_
      refine w_aload_n dX5_creditorsOf_10 rfl ?_
      refine w_get dX5_creditorsOf_11 f_X5_34 (wg0 hb) rfl ?_
      refine w_iload_n dX5_creditorsOf_14 rfl ?_
      refine w_iload_n dX5_creditorsOf_15 rfl ?_
      refine w_callSr dX5_creditorsOf_16 k_X5_63 (pm_X5_debtPlace) rfl rfl (Nat.le_of_ble_eq_true rfl) (Nat.le_of_ble_eq_true rfl) (Nat.le_of_ble_eq_true rfl) (rc00 (wlen hb) (Nat.le_refl 0)) ?_
      refine w_iald dX5_creditorsOf_19 (wg4 hb) (vin_deb hs (vin_8 hi (by decide))) ?_
      refine w_if_le (tgt := 29) dX5_creditorsOf_20 (by decide) (fun c_20 => ?_) (fun c_20 => ?_)
      · skip
        refine w_iinc_3 (v := 1) dX5_creditorsOf_29 (by decide) (Nat.le_of_ble_eq_true rfl) rfl ?_
        refine w_goto (tgt := 4) dX5_creditorsOf_32 (by decide) ?_
        exact w_leq (by simp [iter, fOr, nI_1, ← Int32.not_le, c_20]) (ih (i + 1) (by omega))
      · skip
        refine w_iload_n dX5_creditorsOf_23 rfl ?_
        refine w_iconst (v := 1) dX5_creditorsOf_24 (by decide) ?_
        refine w_iload_n dX5_creditorsOf_25 rfl ?_
        refine w_ishl dX5_creditorsOf_26 ?_
        refine w_ior dX5_creditorsOf_27 ?_
        refine w_istore_2 dX5_creditorsOf_28 (Nat.le_of_ble_eq_true rfl) rfl ?_
        refine w_iinc_3 (v := 1) dX5_creditorsOf_29 (by decide) (Nat.le_of_ble_eq_true rfl) rfl ?_
        refine w_goto (tgt := 4) dX5_creditorsOf_32 (by decide) ?_
        exact w_leq (by simp [iter, fOr, nI_1, ← Int32.not_le, c_20]) (ih (i + 1) (by omega))
  refine w_iconst (v := 0) dX5_creditorsOf_0 (by decide) ?_
  refine w_istore_2 dX5_creditorsOf_1 (Nat.le_of_ble_eq_true rfl) rfl ?_
  refine w_iconst (v := 0) dX5_creditorsOf_2 (by decide) ?_
  refine w_istore_3 dX5_creditorsOf_3 (Nat.le_of_ble_eq_true rfl) rfl ?_
  exact loop 8 0 rfl

set_option maxRecDepth 100000 in
set_option maxHeartbeats 4000000 in
theorem pm_X5_creditorsBehind {l : Launch} {D : va_G} {h : PH} {b : Nat} {S : WS} (hb : b + 8 < h.length) {s : Int32} (hs : vp_in s 8) : PM l D YX5_creditorsBehind 3 [.ref b, .int s] (wput h b S) 0 0 (some (.int (sBehind S s))) (wput h b S) := by
  refine pm_of2 (n0 := h.length) kb_YX5_creditorsBehind (wlen hb) [some (.ref b), some (.int s), none, none, none] (fun _ => rfl) (fun _ => (Nat.le_of_ble_eq_true rfl)) ?_
  have inner : ∀ (i : Nat) (a : Int32), (∀ o, Wp l D YX5_creditorsBehind (pRm 3 0 0) h.length (fun _ _ _ => True) (mE D h.length 0 0 (some (.int (sBehind S s))) (wput h b S)) 48 [some (.ref b), some (.int s), some (.int (iter (fCb S) 8 a)), some (.int (nI i)), o] [] (wput h b S) 0) → ∀ (k j : Nat), j + k = 8 → Wp l D YX5_creditorsBehind (pRm 3 0 0) h.length (fun _ _ _ => True) (mE D h.length 0 0 (some (.int (sBehind S s))) (wput h b S)) 17 [some (.ref b), some (.int s), some (.int (iter (fCb S) j a)), some (.int (nI i)), some (.int (nI j))] [] (wput h b S) 0 := by
    intro i a out k
    induction k with
    | zero =>
      intro j hj
      refine w_iload dX5_creditorsBehind_17 rfl ?_
      refine w_bipush (v := 8) dX5_creditorsBehind_19 (by decide) ?_
      refine w_icmp_ge_t (tgt := 48) dX5_creditorsBehind_21 (by decide) (lp_x hj (by decide) rfl) ?_
      have hj : j = 8 := by omega
      subst hj
      exact out _
    | succ k ih =>
      intro j hj
      refine w_iload dX5_creditorsBehind_17 rfl ?_
      refine w_bipush (v := 8) dX5_creditorsBehind_19 (by decide) ?_
      refine w_icmp_ge_f dX5_creditorsBehind_21 ⟨48, by decide⟩ (lp_g hj (by decide) rfl) ?_
      refine w_iload_n dX5_creditorsBehind_24 rfl ?_
      refine w_iload dX5_creditorsBehind_25 rfl ?_
      refine w_callSr dX5_creditorsBehind_27 k_X5_59 (pm_X6_hasBit) rfl rfl (Nat.le_of_ble_eq_true rfl) (Nat.le_of_ble_eq_true rfl) (Nat.le_of_ble_eq_true rfl) (rc00 (wlen hb) (Nat.le_refl 0)) ?_
      refine w_zif_eq (tgt := 42) dX5_creditorsBehind_30 (by decide) (fun c_30 => ?_) (fun c_30 => ?_)
      · skip
        refine w_iinc_4 (v := 1) dX5_creditorsBehind_42 (by decide) (Nat.le_of_ble_eq_true rfl) rfl ?_
        refine w_goto (tgt := 17) dX5_creditorsBehind_45 (by decide) ?_
        exact w_leq (by simp [iter, fCb, nI_1, c_30]) (ih (j + 1) (by omega))
      · skip
        refine w_iload_n dX5_creditorsBehind_33 rfl ?_
        refine w_aload_n dX5_creditorsBehind_34 rfl ?_
        refine w_iload dX5_creditorsBehind_35 rfl ?_
        refine w_callVr dX5_creditorsBehind_37 k_X5_124 (pm_X5_creditorsOf hb (by first | assumption | exact vin_8 hj (by decide))) rfl rfl (wg0 hb) rfl (Nat.le_of_ble_eq_true rfl) (Nat.le_of_ble_eq_true rfl) (Nat.le_of_ble_eq_true rfl) (rc00 (wlen hb) (Nat.le_refl 0)) ?_
        refine w_ior dX5_creditorsBehind_40 ?_
        refine w_istore_2 dX5_creditorsBehind_41 (Nat.le_of_ble_eq_true rfl) rfl ?_
        refine w_iinc_4 (v := 1) dX5_creditorsBehind_42 (by decide) (Nat.le_of_ble_eq_true rfl) rfl ?_
        refine w_goto (tgt := 17) dX5_creditorsBehind_45 (by decide) ?_
        exact w_leq (by simp [iter, fCb, nI_1, c_30]) (ih (j + 1) (by omega))
  have loop : ∀ (k i : Nat), i + k = 8 → ∀ o, Wp l D YX5_creditorsBehind (pRm 3 0 0) h.length (fun _ _ _ => True) (mE D h.length 0 0 (some (.int (sBehind S s))) (wput h b S)) 8 [some (.ref b), some (.int s), some (.int (iter (fun _ a => iter (fCb S) 8 a) i (sCred S s))), some (.int (nI i)), o] [] (wput h b S) 0 := by
    intro k
    induction k with
    | zero =>
      intro i hi o
      refine w_iload_n dX5_creditorsBehind_8 rfl ?_
      refine w_bipush (v := 8) dX5_creditorsBehind_9 (by decide) ?_
      refine w_icmp_ge_t (tgt := 54) dX5_creditorsBehind_11 (by decide) (lp_x hi (by decide) rfl) ?_
      have hi : i = 8 := by omega
      subst hi
      refine w_iload_n dX5_creditorsBehind_54 rfl ?_
      exact w_iret dX5_creditorsBehind_55 rfl rfl rfl (wlen hb) (Nat.le_refl 0)
    | succ k ih =>
      intro i hi o
      refine w_iload_n dX5_creditorsBehind_8 rfl ?_
      refine w_bipush (v := 8) dX5_creditorsBehind_9 (by decide) ?_
      refine w_icmp_ge_f dX5_creditorsBehind_11 ⟨54, by decide⟩ (lp_g hi (by decide) rfl) ?_
      refine w_iconst (v := 0) dX5_creditorsBehind_14 (by decide) ?_
      refine w_istore_4 dX5_creditorsBehind_15 (Nat.le_of_ble_eq_true rfl) rfl ?_
      refine inner i _ (fun o => ?_) 8 0 rfl
      refine w_iinc_3 (v := 1) dX5_creditorsBehind_48 (by decide) (Nat.le_of_ble_eq_true rfl) rfl ?_
      refine w_goto (tgt := 8) dX5_creditorsBehind_51 (by decide) ?_
      exact w_leq (by simp [iter, nI_1]) (ih (i + 1) (by omega) o)
  refine w_aload_n dX5_creditorsBehind_0 rfl ?_
  refine w_iload_n dX5_creditorsBehind_1 rfl ?_
  refine w_callVr dX5_creditorsBehind_2 k_X5_124 (pm_X5_creditorsOf hb (by first | assumption | exact vin_8 hj (by decide))) rfl rfl (wg0 hb) rfl (Nat.le_of_ble_eq_true rfl) (Nat.le_of_ble_eq_true rfl) (Nat.le_of_ble_eq_true rfl) (rc00 (wlen hb) (Nat.le_refl 0)) ?_
  refine w_istore_2 dX5_creditorsBehind_5 (Nat.le_of_ble_eq_true rfl) rfl ?_
  refine w_iconst (v := 0) dX5_creditorsBehind_6 (by decide) ?_
  refine w_istore_3 dX5_creditorsBehind_7 (Nat.le_of_ble_eq_true rfl) rfl ?_
  exact loop 8 0 rfl _

theorem any_t {f : Nat → Bool} {n i : Nat} (hi : i < n) (h : f i = true) : (List.range n).any f = true := List.any_eq_true.mpr ⟨i, List.mem_range.mpr hi, h⟩
theorem any_f {f : Nat → Bool} {n : Nat} (h : ∀ i, i < n → f i = false) : (List.range n).any f = false := by
  rw [List.any_eq_false]
  intro x hx
  rw [h x (List.mem_range.mp hx)]
  decide
set_option maxRecDepth 100000 in
set_option maxHeartbeats 4000000 in
theorem pm_X5_anotherHas {l : Launch} {D : va_G} {h : PH} {b : Nat} {S : WS} (hb : b + 8 < h.length) {s q : Int32} : PM l D YX5_anotherHas 3 [.ref b, .int s, .int q] (wput h b S) 0 0 (some (.int (b2i (sAno S s q)))) (wput h b S) := by
  refine pm_of2 (n0 := h.length) kb_YX5_anotherHas (wlen hb) [some (.ref b), some (.int s), some (.int q), none] (fun _ => rfl) (fun _ => (Nat.le_of_ble_eq_true rfl)) ?_
  have loop : ∀ (k i : Nat), i + k = 8 → (∀ j, j < i → sAnoF S s q j = false) → Wp l D YX5_anotherHas (pRm 3 0 0) h.length (fun _ _ _ => True) (mE D h.length 0 0 (some (.int (b2i (sAno S s q)))) (wput h b S)) 2 [some (.ref b), some (.int s), some (.int q), some (.int (nI i))] [] (wput h b S) 0 := by
    intro k
    induction k with
    | zero =>
      intro i hi ho
      refine w_iload_n dX5_anotherHas_2 rfl ?_
      refine w_bipush (v := 8) dX5_anotherHas_3 (by decide) ?_
      refine w_icmp_ge_t (tgt := 41) dX5_anotherHas_5 (by decide) (lp_x hi (by decide) rfl) ?_
      unfold sAno
      refine w_iconst (v := 0) dX5_anotherHas_41 (by decide) ?_
      exact w_zretb dX5_anotherHas_42 rfl (by rw [any_f (fun j hj => ho j (by omega))]; rfl) rfl (wlen hb) (Nat.le_refl 0)
    | succ k ih =>
      intro i hi ho
      refine w_iload_n dX5_anotherHas_2 rfl ?_
      refine w_bipush (v := 8) dX5_anotherHas_3 (by decide) ?_
      refine w_icmp_ge_f dX5_anotherHas_5 ⟨41, by decide⟩ (lp_g hi (by decide) rfl) ?_
      refine w_iload_n dX5_anotherHas_8 rfl ?_
      refine w_iload_n dX5_anotherHas_9 rfl ?_
      refine w_icmp_eq (tgt := 35) dX5_anotherHas_10 (by decide) (fun c_10 => ?_) (fun c_10 => ?_)
      · skip
        refine w_iinc_3 (v := 1) dX5_anotherHas_35 (by decide) (Nat.le_of_ble_eq_true rfl) rfl ?_
        refine w_goto (tgt := 2) dX5_anotherHas_38 (by decide) ?_
        exact w_leq (by rw [nI_1]) (ih (i + 1) (by omega) (lt_s ho (by simp [sAnoF, *])))
      · skip
        refine w_aload_n dX5_anotherHas_13 rfl ?_
        refine w_iload_n dX5_anotherHas_14 rfl ?_
        refine w_callVr dX5_anotherHas_15 k_X5_76 (pm_X5_isLiving hb) rfl rfl (wg0 hb) rfl (Nat.le_of_ble_eq_true rfl) (Nat.le_of_ble_eq_true rfl) (Nat.le_of_ble_eq_true rfl) (rc00 (wlen hb) (Nat.le_refl 0)) ?_
        refine w_zif_eq (tgt := 35) dX5_anotherHas_18 (by decide) (fun c_18 => ?_) (fun c_18 => ?_)
        · skip
          refine w_iinc_3 (v := 1) dX5_anotherHas_35 (by decide) (Nat.le_of_ble_eq_true rfl) rfl ?_
          refine w_goto (tgt := 2) dX5_anotherHas_38 (by decide) ?_
          exact w_leq (by rw [nI_1]) (ih (i + 1) (by omega) (lt_s ho (by simp [sAnoF, *])))
        · skip
          refine w_aload_n dX5_anotherHas_21 rfl ?_
          refine w_get dX5_anotherHas_22 f_X5_24 (wg0 hb) rfl ?_
          refine w_iload_n dX5_anotherHas_25 rfl ?_
          refine w_iald dX5_anotherHas_26 (wg1 hb) (vin_8 hi (by decide)) ?_
          refine w_iload_n dX5_anotherHas_27 rfl ?_
          refine w_iand dX5_anotherHas_28 ?_
          refine w_iload_n dX5_anotherHas_29 rfl ?_
          refine w_icmp_ne (tgt := 35) dX5_anotherHas_30 (by decide) (fun c_30 => ?_) (fun c_30 => ?_)
          · skip
            refine w_iinc_3 (v := 1) dX5_anotherHas_35 (by decide) (Nat.le_of_ble_eq_true rfl) rfl ?_
            refine w_goto (tgt := 2) dX5_anotherHas_38 (by decide) ?_
            exact w_leq (by rw [nI_1]) (ih (i + 1) (by omega) (lt_s ho (by simp [sAnoF, *])))
          · skip
            unfold sAno
            refine w_iconst (v := 1) dX5_anotherHas_33 (by decide) ?_
            exact w_zretb dX5_anotherHas_34 rfl (by rw [any_t (i := i) (by omega) (by simp [sAnoF, c_10, c_18, c_30])]; rfl) rfl (wlen hb) (Nat.le_refl 0)
  refine w_iconst (v := 0) dX5_anotherHas_0 (by decide) ?_
  refine w_istore_3 dX5_anotherHas_1 (Nat.le_of_ble_eq_true rfl) rfl ?_
  exact loop 8 0 rfl (fun j hj => absurd hj (by omega))

theorem lp_x1 {i n : Nat} {x : Int32} (h : i + 0 = n + 1) (hn : n + 1 < 2 ^ 31) (hx : x = nI n) : x < nI i := by
  have : i = n + 1 := by omega
  rw [this, hx]; exact nI_lt (by omega) hn
theorem lp_g1 {i k n : Nat} {x : Int32} (h : i + (k + 1) = n + 1) (hn : n + 1 < 2 ^ 31) (hx : x = nI n) : ¬ x < nI i := by
  rw [hx]; exact nI_nlt (by omega) (by omega)
theorem note_v {b x y : Int32} : (if b = -6 then (1 : Int32) else if y ≤ x then 0 else 1) = 0 ↔ ¬ (b = -6 ∨ x < y) := by
  by_cases h1 : b = -6
  · simp [h1]
  · by_cases h2 : y ≤ x
    · simp [h1, h2, Int32.not_lt]
    · simp [h1, h2, Int32.not_le.mp h2]
set_option maxRecDepth 100000 in
set_option maxHeartbeats 4000000 in
theorem pm_X5_shortestNote {l : Launch} {D : va_G} {h : PH} {b : Nat} {S : WS} (hb : b + 8 < h.length) {s : Int32} (hs : vp_in s 8) : PM l D YX5_shortestNote 4 [.ref b, .int s] (wput h b S) 0 0 (some (.int (sNote S s))) (wput h b S) := by
  refine pm_of2 (n0 := h.length) kb_YX5_shortestNote (wlen hb) [some (.ref b), some (.int s), none, none, none] (fun _ => rfl) (fun _ => (Nat.le_of_ble_eq_true rfl)) ?_
  have loop : ∀ (k i : Nat), i + k = 255 + 1 → ∀ o, Wp l D YX5_shortestNote (pRm 4 0 0) h.length (fun _ _ _ => True) (mE D h.length 0 0 (some (.int (sNote S s))) (wput h b S)) 5 [some (.ref b), some (.int s), some (.int (iter (fNote S s) i (-6))), some (.int (nI i)), o] [] (wput h b S) 0 := by
    intro k
    induction k with
    | zero =>
      intro i hi o
      refine w_iload_n dX5_shortestNote_5 rfl ?_
      refine w_sipush (v := 255) dX5_shortestNote_6 (by decide) ?_
      refine w_icmp_gt_t (tgt := 70) dX5_shortestNote_9 (by decide) (lp_x1 hi (by decide) rfl) ?_
      have hi : i = 256 := by omega
      subst hi
      refine w_iload_n dX5_shortestNote_70 rfl ?_
      exact w_iret dX5_shortestNote_71 rfl rfl rfl (wlen hb) (Nat.le_refl 0)
    | succ k ih =>
      intro i hi o
      have hB : iter (fNote S s) (i + 1) (-6) = fNote S s i (iter (fNote S s) i (-6)) := rfl
      generalize iter (fNote S s) i (-6) = best at hB ⊢
      refine w_iload_n dX5_shortestNote_5 rfl ?_
      refine w_sipush (v := 255) dX5_shortestNote_6 (by decide) ?_
      refine w_icmp_gt_f dX5_shortestNote_9 ⟨70, by decide⟩ (lp_g1 hi (by decide) rfl) ?_
      refine w_iload_n dX5_shortestNote_12 rfl ?_
      refine w_bipush (v := (-6)) dX5_shortestNote_13 (by decide) ?_
      refine w_ticmp_eq (a := ?a15) (b := ?b15) (pJ := 34) (tgt := 29) dX5_shortestNote_15 (by decide) (fun c_15 k => ?hA15) (fun c_15 k => ?hB15) ?hk15
      case hA15 =>
        refine w_iconst (v := 1) dX5_shortestNote_29 (by decide) ?_
        refine w_goto (tgt := 34) dX5_shortestNote_30 (by decide) ?_
        exact k
      case hB15 =>
        refine w_iload_n dX5_shortestNote_18 rfl ?_
        refine w_callSr dX5_shortestNote_19 k_X5_67 (pm_bitCount) rfl rfl (Nat.le_of_ble_eq_true rfl) (Nat.le_of_ble_eq_true rfl) (Nat.le_of_ble_eq_true rfl) (rc00 (wlen hb) (Nat.le_refl 0)) ?_
        refine w_iload_n dX5_shortestNote_22 rfl ?_
        refine w_callSr dX5_shortestNote_23 k_X5_67 (pm_bitCount) rfl rfl (Nat.le_of_ble_eq_true rfl) (Nat.le_of_ble_eq_true rfl) (Nat.le_of_ble_eq_true rfl) (rc00 (wlen hb) (Nat.le_refl 0)) ?_
        refine w_ticmp_ge (a := ?a26) (b := ?b26) (pJ := 34) (tgt := 33) dX5_shortestNote_26 (by decide) (fun c_26 k => ?hA26) (fun c_26 k => ?hB26) ?hk26
        case hA26 =>
          refine w_iconst (v := 0) dX5_shortestNote_33 (by decide) ?_
          exact k
        case hB26 =>
          refine w_iconst (v := 1) dX5_shortestNote_29 (by decide) ?_
          refine w_goto (tgt := 34) dX5_shortestNote_30 (by decide) ?_
          exact k
        exact k
      refine w_istore_4 dX5_shortestNote_34 (Nat.le_of_ble_eq_true rfl) rfl ?_
      refine w_iload_n dX5_shortestNote_36 rfl ?_
      refine w_aload_n dX5_shortestNote_37 rfl ?_
      refine w_get dX5_shortestNote_38 f_X5_24 (wg0 hb) rfl ?_
      refine w_iload_n dX5_shortestNote_41 rfl ?_
      refine w_iald dX5_shortestNote_42 (wg1 hb) (by assumption) ?_
      refine w_iand dX5_shortestNote_43 ?_
      refine w_iload_n dX5_shortestNote_44 rfl ?_
      refine w_icmp_ne (tgt := 64) dX5_shortestNote_45 (by decide) (fun c_45 => ?_) (fun c_45 => ?_)
      · skip
        refine w_iinc_3 (v := 1) dX5_shortestNote_64 (by decide) (Nat.le_of_ble_eq_true rfl) rfl ?_
        refine w_goto (tgt := 5) dX5_shortestNote_67 (by decide) ?_
        refine w_loc_3 (nI_1 i) (w_loc_2 ?_ (ih (i + 1) (by omega) _))
        rw [hB, fNote]
        try rw [note_v] at c_50
        simp [*]
      · skip
        refine w_iload dX5_shortestNote_48 rfl ?_
        refine w_if_eq (tgt := 64) dX5_shortestNote_50 (by decide) (fun c_50 => ?_) (fun c_50 => ?_)
        · skip
          refine w_iinc_3 (v := 1) dX5_shortestNote_64 (by decide) (Nat.le_of_ble_eq_true rfl) rfl ?_
          refine w_goto (tgt := 5) dX5_shortestNote_67 (by decide) ?_
          refine w_loc_3 (nI_1 i) (w_loc_2 ?_ (ih (i + 1) (by omega) _))
          rw [hB, fNote]
          try rw [note_v] at c_50
          simp [*]
        · skip
          refine w_aload_n dX5_shortestNote_53 rfl ?_
          refine w_iload_n dX5_shortestNote_54 rfl ?_
          refine w_iload_n dX5_shortestNote_55 rfl ?_
          refine w_callVr dX5_shortestNote_56 k_X5_127 (pm_X5_anotherHas hb) rfl rfl (wg0 hb) rfl (Nat.le_of_ble_eq_true rfl) (Nat.le_of_ble_eq_true rfl) (Nat.le_of_ble_eq_true rfl) (rc00 (wlen hb) (Nat.le_refl 0)) ?_
          refine w_zif_ne (tgt := 64) dX5_shortestNote_59 (by decide) (fun c_59 => ?_) (fun c_59 => ?_)
          · skip
            refine w_iinc_3 (v := 1) dX5_shortestNote_64 (by decide) (Nat.le_of_ble_eq_true rfl) rfl ?_
            refine w_goto (tgt := 5) dX5_shortestNote_67 (by decide) ?_
            refine w_loc_3 (nI_1 i) (w_loc_2 ?_ (ih (i + 1) (by omega) _))
            rw [hB, fNote]
            try rw [note_v] at c_50
            simp [*]
          · skip
            refine w_iload_n dX5_shortestNote_62 rfl ?_
            refine w_istore_2 dX5_shortestNote_63 (Nat.le_of_ble_eq_true rfl) rfl ?_
            refine w_iinc_3 (v := 1) dX5_shortestNote_64 (by decide) (Nat.le_of_ble_eq_true rfl) rfl ?_
            refine w_goto (tgt := 5) dX5_shortestNote_67 (by decide) ?_
            refine w_loc_3 (nI_1 i) (w_loc_2 ?_ (ih (i + 1) (by omega) _))
            rw [hB, fNote]
            try rw [note_v] at c_50
            simp [*]
  refine w_bipush (v := (-6)) dX5_shortestNote_0 (by decide) ?_
  refine w_istore_2 dX5_shortestNote_2 (Nat.le_of_ble_eq_true rfl) rfl ?_
  refine w_iconst (v := 0) dX5_shortestNote_3 (by decide) ?_
  refine w_istore_3 dX5_shortestNote_4 (Nat.le_of_ble_eq_true rfl) rfl ?_
  exact loop 256 0 rfl _

set_option maxRecDepth 100000 in
set_option maxHeartbeats 4000000 in
theorem pm_X5_pursesTogether {l : Launch} {D : va_G} {h : PH} {b : Nat} {S : WS} (hb : b + 8 < h.length)  : PM l D YX5_pursesTogether 3 [.ref b] (wput h b S) 0 0 (some (.int (sPurs S))) (wput h b S) := by
  refine pm_of2 (n0 := h.length) kb_YX5_pursesTogether (wlen hb) [some (.ref b), none, none] (fun _ => rfl) (fun _ => (Nat.le_of_ble_eq_true rfl)) ?_
  have loop : ∀ (k i : Nat), i + k = 8 → Wp l D YX5_pursesTogether (pRm 3 0 0) h.length (fun _ _ _ => True) (mE D h.length 0 0 (some (.int (sPurs S))) (wput h b S)) 4 [some (.ref b), some (.int (iter (fun i a => a + (if sLiv S (nI i) then wpu S (nI i).toNatClampNeg else 0)) i 0)), some (.int (nI i))] [] (wput h b S) 0 := by
    intro k
    induction k with
    | zero =>
      intro i hi
      refine w_iload_n dX5_pursesTogether_4 rfl ?_
      refine w_bipush (v := 8) dX5_pursesTogether_5 (by decide) ?_
      refine w_icmp_ge_t (tgt := 37) dX5_pursesTogether_7 (by decide) (lp_x hi (by decide) rfl) ?_
      have hi : i = 8 := by omega
      subst hi
      refine w_iload_n dX5_pursesTogether_37 rfl ?_
      exact w_iret dX5_pursesTogether_38 rfl rfl rfl (wlen hb) (Nat.le_refl 0)
    | succ k ih =>
      intro i hi
      refine w_iload_n dX5_pursesTogether_4 rfl ?_
      refine w_bipush (v := 8) dX5_pursesTogether_5 (by decide) ?_
      refine w_icmp_ge_f dX5_pursesTogether_7 ⟨37, by decide⟩ (lp_g hi (by decide) rfl) ?_
      refine w_iload_n dX5_pursesTogether_10 rfl ?_
      refine w_aload_n dX5_pursesTogether_11 rfl ?_
      refine w_iload_n dX5_pursesTogether_12 rfl ?_
      refine w_callVr dX5_pursesTogether_13 k_X5_76 (pm_X5_isLiving hb) rfl rfl (wg0 hb) rfl (Nat.le_of_ble_eq_true rfl) (Nat.le_of_ble_eq_true rfl) (Nat.le_of_ble_eq_true rfl) (rc00 (wlen hb) (Nat.le_refl 0)) ?_
      refine w_ztif_eq (a := ?a16) (b := ?b16) (pJ := 29) (tgt := 28) dX5_pursesTogether_16 (by decide) (fun c_16 k => ?hA16) (fun c_16 k => ?hB16) ?hk16
      case hA16 =>
        refine w_iconst (v := 0) dX5_pursesTogether_28 (by decide) ?_
        exact k
      case hB16 =>
        refine w_aload_n dX5_pursesTogether_19 rfl ?_
        refine w_get dX5_pursesTogether_20 f_X5_28 (wg0 hb) rfl ?_
        refine w_iload_n dX5_pursesTogether_23 rfl ?_
        refine w_iald dX5_pursesTogether_24 (wg2 hb) (vin_8 hi (by decide)) ?_
        refine w_goto (tgt := 29) dX5_pursesTogether_25 (by decide) ?_
        exact k
      refine w_iadd dX5_pursesTogether_29 ?_
      refine w_istore_1 dX5_pursesTogether_30 (Nat.le_of_ble_eq_true rfl) rfl ?_
      refine w_iinc_2 (v := 1) dX5_pursesTogether_31 (by decide) (Nat.le_of_ble_eq_true rfl) rfl ?_
      refine w_goto (tgt := 4) dX5_pursesTogether_34 (by decide) ?_
      exact w_leq (by simp [iter, nI_1, cond_eq_ite]) (ih (i + 1) (by omega))
  refine w_iconst (v := 0) dX5_pursesTogether_0 (by decide) ?_
  refine w_istore_1 dX5_pursesTogether_1 (Nat.le_of_ble_eq_true rfl) rfl ?_
  refine w_iconst (v := 0) dX5_pursesTogether_2 (by decide) ?_
  refine w_istore_2 dX5_pursesTogether_3 (Nat.le_of_ble_eq_true rfl) rfl ?_
  exact loop 8 0 rfl

set_option maxRecDepth 100000 in
set_option maxHeartbeats 4000000 in
theorem pm_X5_coinsLeft {l : Launch} {D : va_G} {h : PH} {b : Nat} {S : WS} (hb : b + 8 < h.length)  : PM l D YX5_coinsLeft 1 [.ref b] (wput h b S) 0 0 (some (.int (sCoin S))) (wput h b S) := by
  refine pm_of2 (n0 := h.length) kb_YX5_coinsLeft (wlen hb) [some (.ref b), none, none] (fun _ => rfl) (fun _ => (Nat.le_of_ble_eq_true rfl)) ?_
  have loop : ∀ (k i : Nat), i + k = 6 → Wp l D YX5_coinsLeft (pRm 1 0 0) h.length (fun _ _ _ => True) (mE D h.length 0 0 (some (.int (sCoin S))) (wput h b S)) 4 [some (.ref b), some (.int (iter (fun i a => a + wco S (nI i).toNatClampNeg) i 0)), some (.int (nI i))] [] (wput h b S) 0 := by
    intro k
    induction k with
    | zero =>
      intro i hi
      refine w_iload_n dX5_coinsLeft_4 rfl ?_
      refine w_bipush (v := 6) dX5_coinsLeft_5 (by decide) ?_
      refine w_icmp_ge_t (tgt := 25) dX5_coinsLeft_7 (by decide) (lp_x hi (by decide) rfl) ?_
      have hi : i = 6 := by omega
      subst hi
      refine w_iload_n dX5_coinsLeft_25 rfl ?_
      exact w_iret dX5_coinsLeft_26 rfl rfl rfl (wlen hb) (Nat.le_refl 0)
    | succ k ih =>
      intro i hi
      refine w_iload_n dX5_coinsLeft_4 rfl ?_
      refine w_bipush (v := 6) dX5_coinsLeft_5 (by decide) ?_
      refine w_icmp_ge_f dX5_coinsLeft_7 ⟨25, by decide⟩ (lp_g hi (by decide) rfl) ?_
      refine w_iload_n dX5_coinsLeft_10 rfl ?_
      refine w_aload_n dX5_coinsLeft_11 rfl ?_
      refine w_get dX5_coinsLeft_12 f_X5_43 (wg0 hb) rfl ?_
      refine w_iload_n dX5_coinsLeft_15 rfl ?_
      refine w_iald dX5_coinsLeft_16 (wg7 hb) (vin_8 hi (by decide)) ?_
      refine w_iadd dX5_coinsLeft_17 ?_
      refine w_istore_1 dX5_coinsLeft_18 (Nat.le_of_ble_eq_true rfl) rfl ?_
      refine w_iinc_2 (v := 1) dX5_coinsLeft_19 (by decide) (Nat.le_of_ble_eq_true rfl) rfl ?_
      refine w_goto (tgt := 4) dX5_coinsLeft_22 (by decide) ?_
      exact w_leq (by simp [iter, nI_1, cond_eq_ite]) (ih (i + 1) (by omega))
  refine w_iconst (v := 0) dX5_coinsLeft_0 (by decide) ?_
  refine w_istore_1 dX5_coinsLeft_1 (Nat.le_of_ble_eq_true rfl) rfl ?_
  refine w_iconst (v := 0) dX5_coinsLeft_2 (by decide) ?_
  refine w_istore_2 dX5_coinsLeft_3 (Nat.le_of_ble_eq_true rfl) rfl ?_
  exact loop 6 0 rfl

set_option maxRecDepth 100000 in
set_option maxHeartbeats 4000000 in
theorem pm_X5_shareOf {l : Launch} {D : va_G} {h : PH} {b : Nat} {S : WS} (hb : b + 8 < h.length) {x s : Int32} (hx : vp_in x 6) (hs : vp_in s 8) : PM l D YX5_shareOf 3 [.ref b, .int x, .int s] (wput h b S) 0 0 (some (.int (sShare S x s))) (wput h b S) := by
  refine pm_of2 (n0 := h.length) kb_YX5_shareOf (wlen hb) [some (.ref b), some (.int x), some (.int s), none, none, none, none, none, none] (fun _ => rfl) (fun _ => (Nat.le_of_ble_eq_true rfl)) ?_
  have loop2 : ¬ sFelt S x s = 0 → ¬ sAll S x 8 = 0 → ∀ (k i : Nat), i + k = 8 → ∀ o, Wp l D YX5_shareOf (pRm 3 0 0) h.length (fun _ _ _ => True) (mE D h.length 0 0 (some (.int (sShare S x s))) (wput h b S)) 76 [some (.ref b), some (.int x), some (.int s), some (.int (sFelt S x s)), some (.int (sAll S x 8)), some (.int (sOver S x i)), some (.int (sAhead S x s i)), some (.int (nI i)), o] [] (wput h b S) 0 := by
    intro hf h0 k
    induction k with
    | zero =>
      intro i hi o
      refine w_iload dX5_shareOf_76 rfl ?_
      refine w_bipush (v := 8) dX5_shareOf_78 (by decide) ?_
      refine w_icmp_ge_t (tgt := 149) dX5_shareOf_80 (by decide) (lp_x hi (by decide) rfl) ?_
      have hi : i = 8 := by omega
      subst hi
      refine w_aload_n dX5_shareOf_149 rfl ?_
      refine w_get dX5_shareOf_150 f_X5_43 (wg0 hb) rfl ?_
      refine w_iload_n dX5_shareOf_153 rfl ?_
      refine w_iald dX5_shareOf_154 (wg7 hb) (by assumption) ?_
      refine w_iload_n dX5_shareOf_155 rfl ?_
      refine w_imul dX5_shareOf_156 ?_
      refine w_iload dX5_shareOf_157 rfl ?_
      refine w_idiv dX5_shareOf_159 h0 ?_
      refine w_iload dX5_shareOf_160 rfl ?_
      refine w_iload dX5_shareOf_162 rfl ?_
      refine w_ticmp_ge (a := ?a164) (b := ?b164) (pJ := 172) (tgt := 171) dX5_shareOf_164 (by decide) (fun c_164 k => ?hA164) (fun c_164 k => ?hB164) ?hk164
      case hA164 =>
        refine w_iconst (v := 0) dX5_shareOf_171 (by decide) ?_
        exact k
      case hB164 =>
        refine w_iconst (v := 1) dX5_shareOf_167 (by decide) ?_
        refine w_goto (tgt := 172) dX5_shareOf_168 (by decide) ?_
        exact k
      refine w_iadd dX5_shareOf_172 ?_
      exact w_iret dX5_shareOf_173 rfl (by rw [ite_le]; exact (if_neg (fun q => Or.elim q hf h0)).symm) rfl (wlen hb) (Nat.le_refl 0)
    | succ k ih =>
      intro i hi o
      have e1 : sOver S x (i + 1) = sOver S x i - wco S x.toNatClampNeg * sFeelL S x i / sAll S x 8 := rfl
      have e2 : sAhead S x s (i + 1) = if sFst S x s i then sAhead S x s i + 1 else sAhead S x s i := rfl
      refine w_iload dX5_shareOf_76 rfl ?_
      refine w_bipush (v := 8) dX5_shareOf_78 (by decide) ?_
      refine w_icmp_ge_f dX5_shareOf_80 ⟨149, by decide⟩ (lp_g hi (by decide) rfl) ?_
      refine w_aload_n dX5_shareOf_83 rfl ?_
      refine w_iload dX5_shareOf_84 rfl ?_
      refine w_callVr dX5_shareOf_86 k_X5_76 (pm_X5_isLiving hb) rfl rfl (wg0 hb) rfl (Nat.le_of_ble_eq_true rfl) (Nat.le_of_ble_eq_true rfl) (Nat.le_of_ble_eq_true rfl) (rc00 (wlen hb) (Nat.le_refl 0)) ?_
      refine w_ztif_eq (a := ?a89) (b := ?b89) (pJ := 103) (tgt := 102) dX5_shareOf_89 (by decide) (fun c_89 k => ?hA89) (fun c_89 k => ?hB89) ?hk89
      case hA89 =>
        refine w_iconst (v := 0) dX5_shareOf_102 (by decide) ?_
        exact k
      case hB89 =>
        refine w_aload_n dX5_shareOf_92 rfl ?_
        refine w_iload_n dX5_shareOf_93 rfl ?_
        refine w_iload dX5_shareOf_94 rfl ?_
        refine w_callVr dX5_shareOf_96 k_X5_79 (pm_X5_felt hb (by first | assumption | exact vin_box (by assumption)) (by first | assumption | exact vin_liv (by assumption) | exact vin_8 (by assumption) (by decide))) rfl rfl (wg0 hb) rfl (Nat.le_of_ble_eq_true rfl) (Nat.le_of_ble_eq_true rfl) (Nat.le_of_ble_eq_true rfl) (rc00 (wlen hb) (Nat.le_refl 0)) ?_
        refine w_goto (tgt := 103) dX5_shareOf_99 (by decide) ?_
        exact k
      refine w_istore_8 dX5_shareOf_103 (Nat.le_of_ble_eq_true rfl) rfl ?_
      refine w_leq (L2 := [some (.ref b), some (.int x), some (.int s), some (.int (sFelt S x s)), some (.int (sAll S x 8)), some (.int (sOver S x i)), some (.int (sAhead S x s i)), some (.int (nI i)), some (.int (sFeelL S x i))]) (by simp [sFeelL, cond_eq_ite]) ?_
      refine w_iload dX5_shareOf_105 rfl ?_
      refine w_aload_n dX5_shareOf_107 rfl ?_
      refine w_get dX5_shareOf_108 f_X5_43 (wg0 hb) rfl ?_
      refine w_iload_n dX5_shareOf_111 rfl ?_
      refine w_iald dX5_shareOf_112 (wg7 hb) (by assumption) ?_
      refine w_iload dX5_shareOf_113 rfl ?_
      refine w_imul dX5_shareOf_115 ?_
      refine w_iload dX5_shareOf_116 rfl ?_
      refine w_idiv dX5_shareOf_118 h0 ?_
      refine w_isub dX5_shareOf_119 ?_
      refine w_istore_5 dX5_shareOf_120 (Nat.le_of_ble_eq_true rfl) rfl ?_
      refine w_iload dX5_shareOf_122 rfl ?_
      refine w_iload_n dX5_shareOf_124 rfl ?_
      refine w_icmp_gt (tgt := 140) dX5_shareOf_125 (by decide) (fun c_125 => ?_) (fun c_125 => ?_)
      · skip
        refine w_iinc_6 (v := 1) dX5_shareOf_140 (by decide) (Nat.le_of_ble_eq_true rfl) rfl ?_
        refine w_iinc_7 (v := 1) dX5_shareOf_143 (by decide) (Nat.le_of_ble_eq_true rfl) rfl ?_
        refine w_goto (tgt := 76) dX5_shareOf_146 (by decide) ?_
        refine w_loc_7 (nI_1 i) (w_loc_6 ?_ (w_loc_5 e1.symm (ih (i + 1) (by omega) _)))
        rw [e2]
        simp [sFst, ← Int32.not_le, *]
      · skip
        refine w_iload dX5_shareOf_128 rfl ?_
        refine w_iload_n dX5_shareOf_130 rfl ?_
        refine w_icmp_ne (tgt := 143) dX5_shareOf_131 (by decide) (fun c_131 => ?_) (fun c_131 => ?_)
        · skip
          refine w_iinc_7 (v := 1) dX5_shareOf_143 (by decide) (Nat.le_of_ble_eq_true rfl) rfl ?_
          refine w_goto (tgt := 76) dX5_shareOf_146 (by decide) ?_
          refine w_loc_7 (nI_1 i) (w_loc_6 ?_ (w_loc_5 e1.symm (ih (i + 1) (by omega) _)))
          rw [e2]
          simp [sFst, ← Int32.not_le, *]
        · skip
          refine w_iload dX5_shareOf_134 rfl ?_
          refine w_iload_n dX5_shareOf_136 rfl ?_
          refine w_icmp_ge (tgt := 143) dX5_shareOf_137 (by decide) (fun c_137 => ?_) (fun c_137 => ?_)
          · skip
            refine w_iinc_7 (v := 1) dX5_shareOf_143 (by decide) (Nat.le_of_ble_eq_true rfl) rfl ?_
            refine w_goto (tgt := 76) dX5_shareOf_146 (by decide) ?_
            refine w_loc_7 (nI_1 i) (w_loc_6 ?_ (w_loc_5 e1.symm (ih (i + 1) (by omega) _)))
            rw [e2]
            simp [sFst, ← Int32.not_le, *]
          · skip
            refine w_iinc_6 (v := 1) dX5_shareOf_140 (by decide) (Nat.le_of_ble_eq_true rfl) rfl ?_
            refine w_iinc_7 (v := 1) dX5_shareOf_143 (by decide) (Nat.le_of_ble_eq_true rfl) rfl ?_
            refine w_goto (tgt := 76) dX5_shareOf_146 (by decide) ?_
            refine w_loc_7 (nI_1 i) (w_loc_6 ?_ (w_loc_5 e1.symm (ih (i + 1) (by omega) _)))
            rw [e2]
            simp [sFst, ← Int32.not_le, *]
  have loop1 : ∀ (k i : Nat), i + k = 8 → Wp l D YX5_shareOf (pRm 3 0 0) h.length (fun _ _ _ => True) (mE D h.length 0 0 (some (.int (sShare S x s))) (wput h b S)) 13 [some (.ref b), some (.int x), some (.int s), some (.int (sFelt S x s)), some (.int (sAll S x i)), some (.int (nI i)), none, none, none] [] (wput h b S) 0 := by
    intro k
    induction k with
    | zero =>
      intro i hi
      refine w_iload dX5_shareOf_13 rfl ?_
      refine w_bipush (v := 8) dX5_shareOf_15 (by decide) ?_
      refine w_icmp_ge_t (tgt := 51) dX5_shareOf_17 (by decide) (lp_x hi (by decide) rfl) ?_
      have hi : i = 8 := by omega
      subst hi
      refine w_iload_n dX5_shareOf_51 rfl ?_
      refine w_if_eq (tgt := 60) dX5_shareOf_52 (by decide) (fun c_52 => ?_) (fun c_52 => ?_)
      · skip
        refine w_iconst (v := 0) dX5_shareOf_60 (by decide) ?_
        exact w_iret dX5_shareOf_61 rfl (by rw [sShare, if_pos (by simp [*])]) rfl (wlen hb) (Nat.le_refl 0)
      · skip
        refine w_iload dX5_shareOf_55 rfl ?_
        refine w_if_ne (tgt := 62) dX5_shareOf_57 (by decide) (fun c_57 => ?_) (fun c_57 => ?_)
        · skip
          refine w_aload_n dX5_shareOf_62 rfl ?_
          refine w_get dX5_shareOf_63 f_X5_43 (wg0 hb) rfl ?_
          refine w_iload_n dX5_shareOf_66 rfl ?_
          refine w_iald dX5_shareOf_67 (wg7 hb) (by assumption) ?_
          refine w_istore_5 dX5_shareOf_68 (Nat.le_of_ble_eq_true rfl) rfl ?_
          refine w_iconst (v := 0) dX5_shareOf_70 (by decide) ?_
          refine w_istore_6 dX5_shareOf_71 (Nat.le_of_ble_eq_true rfl) rfl ?_
          refine w_iconst (v := 0) dX5_shareOf_73 (by decide) ?_
          refine w_istore_7 dX5_shareOf_74 (Nat.le_of_ble_eq_true rfl) rfl ?_
          exact loop2 (by assumption) (by assumption) 8 0 rfl _
        · skip
          refine w_iconst (v := 0) dX5_shareOf_60 (by decide) ?_
          exact w_iret dX5_shareOf_61 rfl (by rw [sShare, if_pos (by simp [*])]) rfl (wlen hb) (Nat.le_refl 0)
    | succ k ih =>
      intro i hi
      have e1 : sAll S x (i + 1) = sAll S x i + sFeelL S x i := rfl
      refine w_iload dX5_shareOf_13 rfl ?_
      refine w_bipush (v := 8) dX5_shareOf_15 (by decide) ?_
      refine w_icmp_ge_f dX5_shareOf_17 ⟨51, by decide⟩ (lp_g hi (by decide) rfl) ?_
      refine w_iload dX5_shareOf_20 rfl ?_
      refine w_aload_n dX5_shareOf_22 rfl ?_
      refine w_iload dX5_shareOf_23 rfl ?_
      refine w_callVr dX5_shareOf_25 k_X5_76 (pm_X5_isLiving hb) rfl rfl (wg0 hb) rfl (Nat.le_of_ble_eq_true rfl) (Nat.le_of_ble_eq_true rfl) (Nat.le_of_ble_eq_true rfl) (rc00 (wlen hb) (Nat.le_refl 0)) ?_
      refine w_ztif_eq (a := ?a28) (b := ?b28) (pJ := 42) (tgt := 41) dX5_shareOf_28 (by decide) (fun c_28 k => ?hA28) (fun c_28 k => ?hB28) ?hk28
      case hA28 =>
        refine w_iconst (v := 0) dX5_shareOf_41 (by decide) ?_
        exact k
      case hB28 =>
        refine w_aload_n dX5_shareOf_31 rfl ?_
        refine w_iload_n dX5_shareOf_32 rfl ?_
        refine w_iload dX5_shareOf_33 rfl ?_
        refine w_callVr dX5_shareOf_35 k_X5_79 (pm_X5_felt hb (by first | assumption | exact vin_box (by assumption)) (by first | assumption | exact vin_liv (by assumption) | exact vin_8 (by assumption) (by decide))) rfl rfl (wg0 hb) rfl (Nat.le_of_ble_eq_true rfl) (Nat.le_of_ble_eq_true rfl) (Nat.le_of_ble_eq_true rfl) (rc00 (wlen hb) (Nat.le_refl 0)) ?_
        refine w_goto (tgt := 42) dX5_shareOf_38 (by decide) ?_
        exact k
      refine w_iadd dX5_shareOf_42 ?_
      refine w_istore_4 dX5_shareOf_43 (Nat.le_of_ble_eq_true rfl) rfl ?_
      refine w_iinc_5 (v := 1) dX5_shareOf_45 (by decide) (Nat.le_of_ble_eq_true rfl) rfl ?_
      refine w_goto (tgt := 13) dX5_shareOf_48 (by decide) ?_
      exact w_leq (by rw [e1, nI_1]; simp [sFeelL, cond_eq_ite]) (ih (i + 1) (by omega))
  refine w_aload_n dX5_shareOf_0 rfl ?_
  refine w_iload_n dX5_shareOf_1 rfl ?_
  refine w_iload_n dX5_shareOf_2 rfl ?_
  refine w_callVr dX5_shareOf_3 k_X5_79 (pm_X5_felt hb (by first | assumption | exact vin_box (by assumption)) (by first | assumption | exact vin_liv (by assumption) | exact vin_8 (by assumption) (by decide))) rfl rfl (wg0 hb) rfl (Nat.le_of_ble_eq_true rfl) (Nat.le_of_ble_eq_true rfl) (Nat.le_of_ble_eq_true rfl) (rc00 (wlen hb) (Nat.le_refl 0)) ?_
  refine w_istore_3 dX5_shareOf_6 (Nat.le_of_ble_eq_true rfl) rfl ?_
  refine w_iconst (v := 0) dX5_shareOf_7 (by decide) ?_
  refine w_istore_4 dX5_shareOf_8 (Nat.le_of_ble_eq_true rfl) rfl ?_
  refine w_iconst (v := 0) dX5_shareOf_10 (by decide) ?_
  refine w_istore_5 dX5_shareOf_11 (Nat.le_of_ble_eq_true rfl) rfl ?_
  exact loop1 8 0 rfl
end
section
set_option maxRecDepth 100000 in
set_option maxHeartbeats 4000000 in
theorem pm_X5_bear {l : Launch} {D : va_G} {h : PH} {b : Nat} {S : WS} (hb : b + 8 < h.length) {s q p : Int32} (hs : vp_in s 8) : PM l D YX5_bear 2 [.ref b, .int s, .int q, .int p] (wput h b S) 0 0 none (wput h b (sBear S s q p)) := by
  refine pm_of2 (n0 := h.length) kb_YX5_bear (wlen hb) [some (.ref b), some (.int s), some (.int q), some (.int p), none] (fun _ => rfl) (fun _ => (Nat.le_of_ble_eq_true rfl)) ?_
  have loop : ∀ (k i : Nat), i + k = 8 → Wp l D YX5_bear (pRm 2 0 0) h.length (fun _ _ _ => True) (mE D h.length 0 0 none (wput h b (sBear S s q p))) 37 [some (.ref b), some (.int s), some (.int q), some (.int p), some (.int (nI i))] [] (wput h b (wlv S ||| (1 <<< (s &&& 31)), wyr S, wsg S, wop S, upd (wmk S) s.toNatClampNeg q, upd (wpu S) s.toNatClampNeg p, upd (wwa S) s.toNatClampNeg (-6), iter (sDebz s) i (wde S), wwn S, whi S, wco S, wsm S)) 0 := by
    intro k
    induction k with
    | zero =>
      intro i hi
      refine w_iload dX5_bear_37 rfl ?_
      refine w_bipush (v := 8) dX5_bear_39 (by decide) ?_
      refine w_icmp_ge_t (tgt := 74) dX5_bear_41 (by decide) (lp_x hi (by decide) rfl) ?_
      have hi : i = 8 := by omega
      subst hi
      exact w_vret dX5_bear_74 rfl rfl (wlen hb) (Nat.le_refl 0)
    | succ k ih =>
      intro i hi
      refine w_iload dX5_bear_37 rfl ?_
      refine w_bipush (v := 8) dX5_bear_39 (by decide) ?_
      refine w_icmp_ge_f dX5_bear_41 ⟨74, by decide⟩ (lp_g hi (by decide) rfl) ?_
      refine w_aload_n dX5_bear_44 rfl ?_
      refine w_get dX5_bear_45 f_X5_34 (wg0 hb) rfl ?_
      refine w_iload_n dX5_bear_48 rfl ?_
      refine w_iload dX5_bear_49 rfl ?_
      refine w_callSr dX5_bear_51 k_X5_63 (pm_X5_debtPlace) rfl rfl (Nat.le_of_ble_eq_true rfl) (Nat.le_of_ble_eq_true rfl) (Nat.le_of_ble_eq_true rfl) (rc00 (wlen hb) (Nat.le_refl 0)) ?_
      refine w_iconst (v := 0) dX5_bear_54 (by decide) ?_
      refine w_aW4 dX5_bear_55 hb (vin_deb hs (vin_8 hi (by decide))) ?_
      refine w_aload_n dX5_bear_56 rfl ?_
      refine w_get dX5_bear_57 f_X5_34 (wg0 hb) rfl ?_
      refine w_iload dX5_bear_60 rfl ?_
      refine w_iload_n dX5_bear_62 rfl ?_
      refine w_callSr dX5_bear_63 k_X5_63 (pm_X5_debtPlace) rfl rfl (Nat.le_of_ble_eq_true rfl) (Nat.le_of_ble_eq_true rfl) (Nat.le_of_ble_eq_true rfl) (rc00 (wlen hb) (Nat.le_refl 0)) ?_
      refine w_iconst (v := 0) dX5_bear_66 (by decide) ?_
      refine w_aW4 dX5_bear_67 hb (vin_deb (vin_8 hi (by decide)) hs) ?_
      refine w_iinc_4 (v := 1) dX5_bear_68 (by decide) (Nat.le_of_ble_eq_true rfl) rfl ?_
      refine w_goto (tgt := 37) dX5_bear_71 (by decide) ?_
      exact w_loc_4 (nI_1 i) (w_heq rfl (ih (i + 1) (by omega)))
  refine w_aload_n dX5_bear_0 rfl ?_
  refine w_dup dX5_bear_1 rfl ?_
  refine w_get dX5_bear_2 f_X5_9 (wg0 hb) rfl ?_
  refine w_iconst (v := 1) dX5_bear_5 (by decide) ?_
  refine w_iload_n dX5_bear_6 rfl ?_
  refine w_ishl dX5_bear_7 ?_
  refine w_ior dX5_bear_8 ?_
  refine w_pW0 dX5_bear_9 f_X5_9 hb ?_
  refine w_aload_n dX5_bear_12 rfl ?_
  refine w_get dX5_bear_13 f_X5_24 (wg0 hb) rfl ?_
  refine w_iload_n dX5_bear_16 rfl ?_
  refine w_iload_n dX5_bear_17 rfl ?_
  refine w_aW1 dX5_bear_18 hb hs ?_
  refine w_aload_n dX5_bear_19 rfl ?_
  refine w_get dX5_bear_20 f_X5_28 (wg0 hb) rfl ?_
  refine w_iload_n dX5_bear_23 rfl ?_
  refine w_iload_n dX5_bear_24 rfl ?_
  refine w_aW2 dX5_bear_25 hb hs ?_
  refine w_aload_n dX5_bear_26 rfl ?_
  refine w_get dX5_bear_27 f_X5_31 (wg0 hb) rfl ?_
  refine w_iload_n dX5_bear_30 rfl ?_
  refine w_bipush (v := (-6)) dX5_bear_31 (by decide) ?_
  refine w_aW3 dX5_bear_33 hb hs ?_
  refine w_iconst (v := 0) dX5_bear_34 (by decide) ?_
  refine w_istore_4 dX5_bear_35 (Nat.le_of_ble_eq_true rfl) rfl ?_
  exact w_heq rfl (loop 8 0 rfl)

set_option maxRecDepth 100000 in
set_option maxHeartbeats 4000000 in
theorem pm_X5_moveDebt {l : Launch} {D : va_G} {h : PH} {b : Nat} {S : WS} (hb : b + 8 < h.length) {f t : Int32} (hf : vp_in f 64) (ht : vp_in t 64) : PM l D YX5_moveDebt 1 [.ref b, .int f, .int t] (wput h b S) 0 0 none (wput h b (sde S (mvD f t (wde S)))) := by
  refine pm_of2 (n0 := h.length) kb_YX5_moveDebt (wlen hb) [some (.ref b), some (.int f), some (.int t)] (fun _ => rfl) (fun _ => (Nat.le_of_ble_eq_true rfl)) ?_
  refine w_aload_n dX5_moveDebt_0 rfl ?_
  refine w_get dX5_moveDebt_1 f_X5_34 (wg0 hb) rfl ?_
  refine w_iload_n dX5_moveDebt_4 rfl ?_
  refine w_aload_n dX5_moveDebt_5 rfl ?_
  refine w_get dX5_moveDebt_6 f_X5_34 (wg0 hb) rfl ?_
  refine w_iload_n dX5_moveDebt_9 rfl ?_
  refine w_iald dX5_moveDebt_10 (wg4 hb) (by assumption) ?_
  refine w_aW4 dX5_moveDebt_11 hb (by assumption) ?_
  refine w_aload_n dX5_moveDebt_12 rfl ?_
  refine w_get dX5_moveDebt_13 f_X5_34 (wg0 hb) rfl ?_
  refine w_iload_n dX5_moveDebt_16 rfl ?_
  refine w_iconst (v := 0) dX5_moveDebt_17 (by decide) ?_
  refine w_aW4 dX5_moveDebt_18 hb (by assumption) ?_
  exact w_vret dX5_moveDebt_19 rfl rfl (wlen hb) (Nat.le_refl 0)

set_option maxRecDepth 100000 in
set_option maxHeartbeats 4000000 in
theorem pm_X5_comeBack {l : Launch} {D : va_G} {h : PH} {b : Nat} {S : WS} (hb : b + 8 < h.length) {s o : Int32} (hs : vp_in s 8) (ho : vp_in o 8) (hso : ¬ s.toNatClampNeg = o.toNatClampNeg) : PM l D YX5_comeBack 2 [.ref b, .int s, .int o] (wput h b S) 0 0 none (wput h b (sBack S s o)) := by
  refine pm_of2 (n0 := h.length) kb_YX5_comeBack (wlen hb) [some (.ref b), some (.int s), some (.int o), none] (fun _ => rfl) (fun _ => (Nat.le_of_ble_eq_true rfl)) ?_
  have loop : ∀ (k i : Nat), i + k = 8 → Wp l D YX5_comeBack (pRm 2 0 0) h.length (fun _ _ _ => True) (mE D h.length 0 0 none (wput h b (sBack S s o))) 82 [some (.ref b), some (.int s), some (.int o), some (.int (nI i))] [] (wput h b ((wlv S ^^^ (1 <<< (s &&& 31))) ||| (1 <<< (o &&& 31)), wyr S, wsg S, wop S, upd (upd (wmk S) o.toNatClampNeg (wmk S s.toNatClampNeg &&& (wmk S s.toNatClampNeg - 1))) s.toNatClampNeg 0, upd (upd (wpu S) o.toNatClampNeg (wpu S s.toNatClampNeg / 2)) s.toNatClampNeg 0, upd (wwa S) o.toNatClampNeg s, iter (fMv s o) i (wde S), wwn S, whi S, wco S, wsm S)) 0 := by
    intro k
    induction k with
    | zero =>
      intro i hi
      refine w_iload_n dX5_comeBack_82 rfl ?_
      refine w_bipush (v := 8) dX5_comeBack_83 (by decide) ?_
      refine w_icmp_ge_t (tgt := 122) dX5_comeBack_85 (by decide) (lp_x hi (by decide) rfl) ?_
      have hi : i = 8 := by omega
      subst hi
      exact w_vret dX5_comeBack_122 rfl rfl (wlen hb) (Nat.le_refl 0)
    | succ k ih =>
      intro i hi
      refine w_iload_n dX5_comeBack_82 rfl ?_
      refine w_bipush (v := 8) dX5_comeBack_83 (by decide) ?_
      refine w_icmp_ge_f dX5_comeBack_85 ⟨122, by decide⟩ (lp_g hi (by decide) rfl) ?_
      refine w_aload_n dX5_comeBack_88 rfl ?_
      refine w_iload_n dX5_comeBack_89 rfl ?_
      refine w_iload_n dX5_comeBack_90 rfl ?_
      refine w_callSr dX5_comeBack_91 k_X5_63 (pm_X5_debtPlace) rfl rfl (Nat.le_of_ble_eq_true rfl) (Nat.le_of_ble_eq_true rfl) (Nat.le_of_ble_eq_true rfl) (rc00 (wlen hb) (Nat.le_refl 0)) ?_
      refine w_iload_n dX5_comeBack_94 rfl ?_
      refine w_iload_n dX5_comeBack_95 rfl ?_
      refine w_callSr dX5_comeBack_96 k_X5_63 (pm_X5_debtPlace) rfl rfl (Nat.le_of_ble_eq_true rfl) (Nat.le_of_ble_eq_true rfl) (Nat.le_of_ble_eq_true rfl) (rc00 (wlen hb) (Nat.le_refl 0)) ?_
      refine w_callVv dX5_comeBack_99 k_X5_116 (pm_X5_moveDebt hb (by first | exact vin_deb hs (vin_8 hi (by decide)) | exact vin_deb (vin_8 hi (by decide)) hs) (by first | exact vin_deb ho (vin_8 hi (by decide)) | exact vin_deb (vin_8 hi (by decide)) ho)) rfl rfl (wg0 hb) rfl (Nat.le_of_ble_eq_true rfl) (Nat.le_of_ble_eq_true rfl) (Nat.le_of_ble_eq_true rfl) (rc00 (wlen hb) (Nat.le_refl 0)) ?_
      refine w_aload_n dX5_comeBack_102 rfl ?_
      refine w_iload_n dX5_comeBack_103 rfl ?_
      refine w_iload_n dX5_comeBack_104 rfl ?_
      refine w_callSr dX5_comeBack_105 k_X5_63 (pm_X5_debtPlace) rfl rfl (Nat.le_of_ble_eq_true rfl) (Nat.le_of_ble_eq_true rfl) (Nat.le_of_ble_eq_true rfl) (rc00 (wlen hb) (Nat.le_refl 0)) ?_
      refine w_iload_n dX5_comeBack_108 rfl ?_
      refine w_iload_n dX5_comeBack_109 rfl ?_
      refine w_callSr dX5_comeBack_110 k_X5_63 (pm_X5_debtPlace) rfl rfl (Nat.le_of_ble_eq_true rfl) (Nat.le_of_ble_eq_true rfl) (Nat.le_of_ble_eq_true rfl) (rc00 (wlen hb) (Nat.le_refl 0)) ?_
      refine w_callVv dX5_comeBack_113 k_X5_116 (pm_X5_moveDebt hb (by first | exact vin_deb hs (vin_8 hi (by decide)) | exact vin_deb (vin_8 hi (by decide)) hs) (by first | exact vin_deb ho (vin_8 hi (by decide)) | exact vin_deb (vin_8 hi (by decide)) ho)) rfl rfl (wg0 hb) rfl (Nat.le_of_ble_eq_true rfl) (Nat.le_of_ble_eq_true rfl) (Nat.le_of_ble_eq_true rfl) (rc00 (wlen hb) (Nat.le_refl 0)) ?_
      refine w_iinc_3 (v := 1) dX5_comeBack_116 (by decide) (Nat.le_of_ble_eq_true rfl) rfl ?_
      refine w_goto (tgt := 82) dX5_comeBack_119 (by decide) ?_
      exact w_loc_3 (nI_1 i) (w_heq rfl (ih (i + 1) (by omega)))
  refine w_aload_n dX5_comeBack_0 rfl ?_
  refine w_dup dX5_comeBack_1 rfl ?_
  refine w_get dX5_comeBack_2 f_X5_9 (wg0 hb) rfl ?_
  refine w_iconst (v := 1) dX5_comeBack_5 (by decide) ?_
  refine w_iload_n dX5_comeBack_6 rfl ?_
  refine w_ishl dX5_comeBack_7 ?_
  refine w_ixor dX5_comeBack_8 ?_
  refine w_pW0 dX5_comeBack_9 f_X5_9 hb ?_
  refine w_aload_n dX5_comeBack_12 rfl ?_
  refine w_dup dX5_comeBack_13 rfl ?_
  refine w_get dX5_comeBack_14 f_X5_9 (wg0 hb) rfl ?_
  refine w_iconst (v := 1) dX5_comeBack_17 (by decide) ?_
  refine w_iload_n dX5_comeBack_18 rfl ?_
  refine w_ishl dX5_comeBack_19 ?_
  refine w_ior dX5_comeBack_20 ?_
  refine w_pW0 dX5_comeBack_21 f_X5_9 hb ?_
  refine w_aload_n dX5_comeBack_24 rfl ?_
  refine w_get dX5_comeBack_25 f_X5_24 (wg0 hb) rfl ?_
  refine w_iload_n dX5_comeBack_28 rfl ?_
  refine w_aload_n dX5_comeBack_29 rfl ?_
  refine w_get dX5_comeBack_30 f_X5_24 (wg0 hb) rfl ?_
  refine w_iload_n dX5_comeBack_33 rfl ?_
  refine w_iald dX5_comeBack_34 (wg1 hb) (by assumption) ?_
  refine w_aload_n dX5_comeBack_35 rfl ?_
  refine w_get dX5_comeBack_36 f_X5_24 (wg0 hb) rfl ?_
  refine w_iload_n dX5_comeBack_39 rfl ?_
  refine w_iald dX5_comeBack_40 (wg1 hb) (by assumption) ?_
  refine w_iconst (v := 1) dX5_comeBack_41 (by decide) ?_
  refine w_isub dX5_comeBack_42 ?_
  refine w_iand dX5_comeBack_43 ?_
  refine w_aW1 dX5_comeBack_44 hb (by assumption) ?_
  refine w_aload_n dX5_comeBack_45 rfl ?_
  refine w_get dX5_comeBack_46 f_X5_28 (wg0 hb) rfl ?_
  refine w_iload_n dX5_comeBack_49 rfl ?_
  refine w_aload_n dX5_comeBack_50 rfl ?_
  refine w_get dX5_comeBack_51 f_X5_28 (wg0 hb) rfl ?_
  refine w_iload_n dX5_comeBack_54 rfl ?_
  refine w_iald dX5_comeBack_55 (wg2 hb) (by assumption) ?_
  refine w_iconst (v := 2) dX5_comeBack_56 (by decide) ?_
  refine w_idiv dX5_comeBack_57 (by decide) ?_
  refine w_aW2 dX5_comeBack_58 hb (by assumption) ?_
  refine w_aload_n dX5_comeBack_59 rfl ?_
  refine w_get dX5_comeBack_60 f_X5_31 (wg0 hb) rfl ?_
  refine w_iload_n dX5_comeBack_63 rfl ?_
  refine w_iload_n dX5_comeBack_64 rfl ?_
  refine w_aW3 dX5_comeBack_65 hb (by assumption) ?_
  refine w_aload_n dX5_comeBack_66 rfl ?_
  refine w_get dX5_comeBack_67 f_X5_24 (wg0 hb) rfl ?_
  refine w_iload_n dX5_comeBack_70 rfl ?_
  refine w_iconst (v := 0) dX5_comeBack_71 (by decide) ?_
  refine w_aW1 dX5_comeBack_72 hb (by assumption) ?_
  refine w_aload_n dX5_comeBack_73 rfl ?_
  refine w_get dX5_comeBack_74 f_X5_28 (wg0 hb) rfl ?_
  refine w_iload_n dX5_comeBack_77 rfl ?_
  refine w_iconst (v := 0) dX5_comeBack_78 (by decide) ?_
  refine w_aW2 dX5_comeBack_79 hb (by assumption) ?_
  refine w_iconst (v := 0) dX5_comeBack_80 (by decide) ?_
  refine w_istore_3 dX5_comeBack_81 (Nat.le_of_ble_eq_true rfl) rfl ?_
  exact w_heq rfl (loop 8 0 rfl)

set_option maxRecDepth 100000 in
set_option maxHeartbeats 4000000 in
theorem pm_X5_fillPurse {l : Launch} {D : va_G} {h : PH} {b : Nat} {S : WS} (hb : b + 8 < h.length) {s q : Int32} (hs : vp_in s 8) : PM l D YX5_fillPurse 1 [.ref b, .int s, .int q] (wput h b S) 0 0 none (wput h b (sFill S s q)) := by
  refine pm_of2 (n0 := h.length) kb_YX5_fillPurse (wlen hb) [some (.ref b), some (.int s), some (.int q)] (fun _ => rfl) (fun _ => (Nat.le_of_ble_eq_true rfl)) ?_
  refine w_aload_n dX5_fillPurse_0 rfl ?_
  refine w_get dX5_fillPurse_1 f_X5_28 (wg0 hb) rfl ?_
  refine w_iload_n dX5_fillPurse_4 rfl ?_
  refine w_sipush (v := 999) dX5_fillPurse_5 (by decide) ?_
  refine w_aload_n dX5_fillPurse_8 rfl ?_
  refine w_get dX5_fillPurse_9 f_X5_28 (wg0 hb) rfl ?_
  refine w_iload_n dX5_fillPurse_12 rfl ?_
  refine w_iald dX5_fillPurse_13 (wg2 hb) (by assumption) ?_
  refine w_iload_n dX5_fillPurse_14 rfl ?_
  refine w_iadd dX5_fillPurse_15 ?_
  refine w_mmin dX5_fillPurse_16 m_X5_119 (Nat.le_of_ble_eq_true rfl) (Nat.le_of_ble_eq_true rfl) (Nat.le_of_ble_eq_true rfl) (rc01 (wlen hb) (Nat.le_refl 0)) ?_
  refine w_aW2 dX5_fillPurse_19 hb (by assumption) ?_
  exact w_vret dX5_fillPurse_20 rfl rfl (wlen hb) (Nat.le_refl 0)

set_option maxRecDepth 100000 in
set_option maxHeartbeats 4000000 in
theorem pm_X5_canLend {l : Launch} {D : va_G} {h : PH} {b : Nat} {S : WS} (hb : b + 8 < h.length) {a d q : Int32} (ha : vp_in a 8) (hd : vp_in d 8) : PM l D YX5_canLend 2 [.ref b, .int a, .int d, .int q] (wput h b S) 0 0 (some (.int (b2i (sCanL S a d q)))) (wput h b S) := by
  refine pm_of2 (n0 := h.length) kb_YX5_canLend (wlen hb) [some (.ref b), some (.int a), some (.int d), some (.int q)] (fun _ => rfl) (fun _ => (Nat.le_of_ble_eq_true rfl)) ?_
  refine w_aload_n dX5_canLend_0 rfl ?_
  refine w_get dX5_canLend_1 f_X5_28 (wg0 hb) rfl ?_
  refine w_iload_n dX5_canLend_4 rfl ?_
  refine w_iald dX5_canLend_5 (wg2 hb) ha ?_
  refine w_iload_n dX5_canLend_6 rfl ?_
  refine w_ticmp_lt (a := ?a7) (b := ?b7) (pJ := 33) (tgt := 32) dX5_canLend_7 (by decide) (fun c_7 k => ?hA7) (fun c_7 k => ?hB7) ?hk7
  case hA7 =>
    refine w_iconst (v := 0) dX5_canLend_32 (by decide) ?_
    exact k
  case hB7 =>
    refine w_aload_n dX5_canLend_10 rfl ?_
    refine w_get dX5_canLend_11 f_X5_34 (wg0 hb) rfl ?_
    refine w_iload_n dX5_canLend_14 rfl ?_
    refine w_iload_n dX5_canLend_15 rfl ?_
    refine w_callSr dX5_canLend_16 k_X5_63 (pm_X5_debtPlace) rfl rfl (Nat.le_of_ble_eq_true rfl) (Nat.le_of_ble_eq_true rfl) (Nat.le_of_ble_eq_true rfl) (rc00 (wlen hb) (Nat.le_refl 0)) ?_
    refine w_iald dX5_canLend_19 (wg4 hb) (vin_deb hd ha) ?_
    refine w_iload_n dX5_canLend_20 rfl ?_
    refine w_iadd dX5_canLend_21 ?_
    refine w_sipush (v := 999) dX5_canLend_22 (by decide) ?_
    refine w_ticmp_gt (a := ?a25) (b := ?b25) (pJ := 33) (tgt := 32) dX5_canLend_25 (by decide) (fun c_25 k => ?hA25) (fun c_25 k => ?hB25) ?hk25
    case hA25 =>
      refine w_iconst (v := 0) dX5_canLend_32 (by decide) ?_
      exact k
    case hB25 =>
      refine w_iconst (v := 1) dX5_canLend_28 (by decide) ?_
      refine w_goto (tgt := 33) dX5_canLend_29 (by decide) ?_
      exact k
    exact k
  exact w_zretb dX5_canLend_33 rfl (by simp only [sCanL, b2i, Bool.and_eq_true, decide_eq_true_eq]; by_cases q1 : wpu S a.toNatClampNeg < q <;> by_cases q2 : 999 < wde S (sDeb d a).toNatClampNeg + q <;> simp [q1, q2, ← Int32.not_lt]) rfl (wlen hb) (Nat.le_refl 0)

set_option maxRecDepth 100000 in
set_option maxHeartbeats 4000000 in
theorem pm_X5_lend {l : Launch} {D : va_G} {h : PH} {b : Nat} {S : WS} (hb : b + 8 < h.length) {a d q : Int32} (ha : vp_in a 8) (hd : vp_in d 8) : PM l D YX5_lend 2 [.ref b, .int a, .int d, .int q] (wput h b S) 0 0 none (wput h b (sLend S a d q)) := by
  refine pm_of2 (n0 := h.length) kb_YX5_lend (wlen hb) [some (.ref b), some (.int a), some (.int d), some (.int q)] (fun _ => rfl) (fun _ => (Nat.le_of_ble_eq_true rfl)) ?_
  refine w_aload_n dX5_lend_0 rfl ?_
  refine w_get dX5_lend_1 f_X5_28 (wg0 hb) rfl ?_
  refine w_iload_n dX5_lend_4 rfl ?_
  refine w_dup2 dX5_lend_5 rfl rfl ?_
  refine w_iald dX5_lend_6 (wg2 hb) ha ?_
  refine w_iload_n dX5_lend_7 rfl ?_
  refine w_isub dX5_lend_8 ?_
  refine w_aW2 dX5_lend_9 hb ha ?_
  refine w_aload_n dX5_lend_10 rfl ?_
  refine w_iload_n dX5_lend_11 rfl ?_
  refine w_iload_n dX5_lend_12 rfl ?_
  refine w_callVv dX5_lend_13 k_X5_113 (pm_X5_fillPurse hb (by first | assumption | exact vin_liv (sLet_liv (by assumption)))) rfl rfl (wg0 hb) rfl (Nat.le_of_ble_eq_true rfl) (Nat.le_of_ble_eq_true rfl) (Nat.le_of_ble_eq_true rfl) (rc00 (wlen hb) (Nat.le_refl 0)) ?_
  refine w_aload_n dX5_lend_16 rfl ?_
  refine w_get dX5_lend_17 f_X5_34 (wg0 hb) rfl ?_
  refine w_iload_n dX5_lend_20 rfl ?_
  refine w_iload_n dX5_lend_21 rfl ?_
  refine w_callSr dX5_lend_22 k_X5_63 (pm_X5_debtPlace) rfl rfl (Nat.le_of_ble_eq_true rfl) (Nat.le_of_ble_eq_true rfl) (Nat.le_of_ble_eq_true rfl) (rc00 (wlen hb) (Nat.le_refl 0)) ?_
  refine w_dup2 dX5_lend_25 rfl rfl ?_
  refine w_iald dX5_lend_26 (wg4 hb) (vin_deb hd ha) ?_
  refine w_iload_n dX5_lend_27 rfl ?_
  refine w_iadd dX5_lend_28 ?_
  refine w_aW4 dX5_lend_29 hb (vin_deb hd ha) ?_
  exact w_vret dX5_lend_30 rfl rfl (wlen hb) (Nat.le_refl 0)

set_option maxRecDepth 100000 in
set_option maxHeartbeats 4000000 in
theorem pm_X5_tryBox {l : Launch} {D : va_G} {h : PH} {b : Nat} {S : WS} (hb : b + 8 < h.length) {s x : Int32} : PM l D YX5_tryBox 4 [.ref b, .int s, .int x] (wput h b S) 0 0 none (wput h b (sTry S s x)) := by
  refine pm_of2 (n0 := h.length) kb_YX5_tryBox (wlen hb) [some (.ref b), some (.int s), some (.int x)] (fun _ => rfl) (fun _ => (Nat.le_of_ble_eq_true rfl)) ?_
  refine w_aload_n dX5_tryBox_0 rfl ?_
  refine w_iload_n dX5_tryBox_1 rfl ?_
  refine w_iload_n dX5_tryBox_2 rfl ?_
  refine w_callVr dX5_tryBox_3 k_X5_82 (pm_X5_letsIn hb) rfl rfl (wg0 hb) rfl (Nat.le_of_ble_eq_true rfl) (Nat.le_of_ble_eq_true rfl) (Nat.le_of_ble_eq_true rfl) (rc00 (wlen hb) (Nat.le_refl 0)) ?_
  refine w_zif_eq (tgt := 27) dX5_tryBox_6 (by decide) (fun c_6 => ?_) (fun c_6 => ?_)
  · skip
    exact w_vret dX5_tryBox_27 rfl (by simp only [sTry, *]; rfl) (wlen hb) (Nat.le_refl 0)
  · skip
    refine w_aload_n dX5_tryBox_9 rfl ?_
    refine w_iload_n dX5_tryBox_10 rfl ?_
    refine w_aload_n dX5_tryBox_11 rfl ?_
    refine w_get dX5_tryBox_12 f_X5_43 (wg0 hb) rfl ?_
    refine w_iload_n dX5_tryBox_15 rfl ?_
    refine w_iald dX5_tryBox_16 (wg7 hb) (vin_box (sLet_box (by assumption))) ?_
    refine w_callVv dX5_tryBox_17 k_X5_113 (pm_X5_fillPurse hb (by first | assumption | exact vin_liv (sLet_liv (by assumption)))) rfl rfl (wg0 hb) rfl (Nat.le_of_ble_eq_true rfl) (Nat.le_of_ble_eq_true rfl) (Nat.le_of_ble_eq_true rfl) (rc00 (wlen hb) (Nat.le_refl 0)) ?_
    refine w_aload_n dX5_tryBox_20 rfl ?_
    refine w_get dX5_tryBox_21 f_X5_43 (wg0 hb) rfl ?_
    refine w_iload_n dX5_tryBox_24 rfl ?_
    refine w_iconst (v := 0) dX5_tryBox_25 (by decide) ?_
    refine w_aW7 dX5_tryBox_26 hb (vin_box (sLet_box (by assumption))) ?_
    exact w_vret dX5_tryBox_27 rfl (by simp only [sTry, *]; rfl) (wlen hb) (Nat.le_refl 0)

set_option maxRecDepth 100000 in
set_option maxHeartbeats 4000000 in
theorem pm_X5_hindrance {l : Launch} {D : va_G} {h : PH} {b : Nat} {S : WS} (hb : b + 8 < h.length) {a : Nat} {k f s c : Int32} (ha : (wput h b S)[a]? = some (.inr (0, [.int k, .int f, .int s, .int c]))) : PM l D YX5_hindrance 3 [.ref b, .ref a] (wput h b S) 0 0 (some (.int (sHind S k f s c))) (wput h b S) := by
  refine pm_of2 (n0 := h.length) kb_YX5_hindrance (wlen hb) [some (.ref b), some (.ref a)] (fun _ => rfl) (fun _ => (Nat.le_of_ble_eq_true rfl)) ?_
  refine w_aload_n dX5_hindrance_0 rfl ?_
  refine w_get dX5_hindrance_1 f_X5_85 ha rfl ?_
  refine w_if_ne (tgt := 22) dX5_hindrance_4 (by decide) (fun c_4 => ?_) (fun c_4 => ?_)
  · skip
    refine w_aload_n dX5_hindrance_22 rfl ?_
    refine w_aload_n dX5_hindrance_23 rfl ?_
    refine w_get dX5_hindrance_24 f_X5_90 ha rfl ?_
    refine w_callVr dX5_hindrance_27 k_X5_76 (pm_X5_isLiving hb) rfl rfl (wg0 hb) rfl (Nat.le_of_ble_eq_true rfl) (Nat.le_of_ble_eq_true rfl) (Nat.le_of_ble_eq_true rfl) (rc00 (wlen hb) (Nat.le_refl 0)) ?_
    refine w_zif_ne (tgt := 35) dX5_hindrance_30 (by decide) (fun c_30 => ?_) (fun c_30 => ?_)
    · skip
      refine w_aload_n dX5_hindrance_35 rfl ?_
      refine w_get dX5_hindrance_36 f_X5_85 ha rfl ?_
      refine w_iconst (v := 3) dX5_hindrance_39 (by decide) ?_
      refine w_icmp_ne (tgt := 45) dX5_hindrance_40 (by decide) (fun c_40 => ?_) (fun c_40 => ?_)
      · skip
        refine w_aload_n dX5_hindrance_45 rfl ?_
        refine w_get dX5_hindrance_46 f_X5_90 ha rfl ?_
        refine w_aload_n dX5_hindrance_49 rfl ?_
        refine w_get dX5_hindrance_50 f_X5_93 ha rfl ?_
        refine w_icmp_ne (tgt := 58) dX5_hindrance_53 (by decide) (fun c_53 => ?_) (fun c_53 => ?_)
        · skip
          refine w_aload_n dX5_hindrance_58 rfl ?_
          refine w_get dX5_hindrance_59 f_X5_85 ha rfl ?_
          refine w_iconst (v := 1) dX5_hindrance_62 (by decide) ?_
          refine w_icmp_ne (tgt := 93) dX5_hindrance_63 (by decide) (fun c_63 => ?_) (fun c_63 => ?_)
          · skip
            refine w_aload_n dX5_hindrance_93 rfl ?_
            refine w_aload_n dX5_hindrance_94 rfl ?_
            refine w_get dX5_hindrance_95 f_X5_93 ha rfl ?_
            refine w_callVr dX5_hindrance_98 k_X5_76 (pm_X5_isLiving hb) rfl rfl (wg0 hb) rfl (Nat.le_of_ble_eq_true rfl) (Nat.le_of_ble_eq_true rfl) (Nat.le_of_ble_eq_true rfl) (rc00 (wlen hb) (Nat.le_refl 0)) ?_
            refine w_zif_ne (tgt := 106) dX5_hindrance_101 (by decide) (fun c_101 => ?_) (fun c_101 => ?_)
            · skip
              refine w_aload_n dX5_hindrance_106 rfl ?_
              refine w_aload_n dX5_hindrance_107 rfl ?_
              refine w_get dX5_hindrance_108 f_X5_90 ha rfl ?_
              refine w_aload_n dX5_hindrance_111 rfl ?_
              refine w_get dX5_hindrance_112 f_X5_93 ha rfl ?_
              refine w_aload_n dX5_hindrance_115 rfl ?_
              refine w_get dX5_hindrance_116 f_X5_96 ha rfl ?_
              refine w_callVr dX5_hindrance_119 k_X5_98 (pm_X5_canLend hb (by first | assumption | exact vin_liv (by assumption)) (by first | assumption | exact vin_liv (by assumption))) rfl rfl (wg0 hb) rfl (Nat.le_of_ble_eq_true rfl) (Nat.le_of_ble_eq_true rfl) (Nat.le_of_ble_eq_true rfl) (rc00 (wlen hb) (Nat.le_refl 0)) ?_
              refine w_ztif_eq (a := ?a122) (b := ?b122) (pJ := 130) (tgt := 129) dX5_hindrance_122 (by decide) (fun c_122 k => ?hA122) (fun c_122 k => ?hB122) ?hk122
              case hA122 =>
                refine w_iconst (v := 4) dX5_hindrance_129 (by decide) ?_
                exact k
              case hB122 =>
                refine w_iconst (v := 0) dX5_hindrance_125 (by decide) ?_
                refine w_goto (tgt := 130) dX5_hindrance_126 (by decide) ?_
                exact k
              exact w_iret dX5_hindrance_130 rfl (by first | (simp [sHind, Int32.not_lt, Int32.not_le, cond_eq_ite, *]; done) | (simp_all [sHind]; done) | (simp [sHind, cond_eq_ite, *]; cases sSoul s <;> simp; done)) rfl (wlen hb) (Nat.le_refl 0)
            · skip
              refine w_iconst (v := 3) dX5_hindrance_104 (by decide) ?_
              exact w_iret dX5_hindrance_105 rfl (by first | (simp [sHind, Int32.not_lt, Int32.not_le, cond_eq_ite, *]; done) | (simp_all [sHind]; done) | (simp [sHind, cond_eq_ite, *]; cases sSoul s <;> simp; done)) rfl (wlen hb) (Nat.le_refl 0)
          · skip
            refine w_aload_n dX5_hindrance_66 rfl ?_
            refine w_get dX5_hindrance_67 f_X5_93 ha rfl ?_
            refine w_callSr dX5_hindrance_70 k_X5_55 (pm_X6_isSoul) rfl rfl (Nat.le_of_ble_eq_true rfl) (Nat.le_of_ble_eq_true rfl) (Nat.le_of_ble_eq_true rfl) (rc00 (wlen hb) (Nat.le_refl 0)) ?_
            refine w_ztif_eq (a := ?a73) (b := ?b73) (pJ := 92) (tgt := 87) dX5_hindrance_73 (by decide) (fun c_73 k => ?hA73) (fun c_73 k => ?hB73) ?hk73
            case hA73 =>
              refine w_iconst (v := 3) dX5_hindrance_87 (by decide) ?_
              refine w_goto (tgt := 92) dX5_hindrance_88 (by decide) ?_
              exact k
            case hB73 =>
              refine w_aload_n dX5_hindrance_76 rfl ?_
              refine w_aload_n dX5_hindrance_77 rfl ?_
              refine w_get dX5_hindrance_78 f_X5_93 ha rfl ?_
              refine w_callVr dX5_hindrance_81 k_X5_76 (pm_X5_isLiving hb) rfl rfl (wg0 hb) rfl (Nat.le_of_ble_eq_true rfl) (Nat.le_of_ble_eq_true rfl) (Nat.le_of_ble_eq_true rfl) (rc00 (wlen hb) (Nat.le_refl 0)) ?_
              refine w_ztif_eq (a := ?a84) (b := ?b84) (pJ := 92) (tgt := 91) dX5_hindrance_84 (by decide) (fun c_84 k => ?hA84) (fun c_84 k => ?hB84) ?hk84
              case hA84 =>
                refine w_iconst (v := 0) dX5_hindrance_91 (by decide) ?_
                exact k
              case hB84 =>
                refine w_iconst (v := 3) dX5_hindrance_87 (by decide) ?_
                refine w_goto (tgt := 92) dX5_hindrance_88 (by decide) ?_
                exact k
              exact k
            exact w_iret dX5_hindrance_92 rfl (by first | (simp [sHind, Int32.not_lt, Int32.not_le, cond_eq_ite, *]; done) | (simp_all [sHind]; done) | (simp [sHind, cond_eq_ite, *]; cases sSoul s <;> simp; done)) rfl (wlen hb) (Nat.le_refl 0)
        · skip
          refine w_iconst (v := 2) dX5_hindrance_56 (by decide) ?_
          exact w_iret dX5_hindrance_57 rfl (by first | (simp [sHind, Int32.not_lt, Int32.not_le, cond_eq_ite, *]; done) | (simp_all [sHind]; done) | (simp [sHind, cond_eq_ite, *]; cases sSoul s <;> simp; done)) rfl (wlen hb) (Nat.le_refl 0)
      · skip
        refine w_iconst (v := 0) dX5_hindrance_43 (by decide) ?_
        exact w_iret dX5_hindrance_44 rfl (by first | (simp [sHind, Int32.not_lt, Int32.not_le, cond_eq_ite, *]; done) | (simp_all [sHind]; done) | (simp [sHind, cond_eq_ite, *]; cases sSoul s <;> simp; done)) rfl (wlen hb) (Nat.le_refl 0)
    · skip
      refine w_iconst (v := 1) dX5_hindrance_33 (by decide) ?_
      exact w_iret dX5_hindrance_34 rfl (by first | (simp [sHind, Int32.not_lt, Int32.not_le, cond_eq_ite, *]; done) | (simp_all [sHind]; done) | (simp [sHind, cond_eq_ite, *]; cases sSoul s <;> simp; done)) rfl (wlen hb) (Nat.le_refl 0)
  · skip
    refine w_aload_n dX5_hindrance_7 rfl ?_
    refine w_get dX5_hindrance_8 f_X5_15 (wg0 hb) rfl ?_
    refine w_bipush (v := 99) dX5_hindrance_11 (by decide) ?_
    refine w_ticmp_lt (a := ?a13) (b := ?b13) (pJ := 21) (tgt := 20) dX5_hindrance_13 (by decide) (fun c_13 k => ?hA13) (fun c_13 k => ?hB13) ?hk13
    case hA13 =>
      refine w_iconst (v := 0) dX5_hindrance_20 (by decide) ?_
      exact k
    case hB13 =>
      refine w_iconst (v := 5) dX5_hindrance_16 (by decide) ?_
      refine w_goto (tgt := 21) dX5_hindrance_17 (by decide) ?_
      exact k
    exact w_iret dX5_hindrance_21 rfl (by first | (simp [sHind, Int32.not_lt, Int32.not_le, cond_eq_ite, *]; done) | (simp_all [sHind]; done) | (simp [sHind, cond_eq_ite, *]; cases sSoul s <;> simp; done)) rfl (wlen hb) (Nat.le_refl 0)

set_option maxRecDepth 100000 in
set_option maxHeartbeats 4000000 in
theorem pm_X5_perform {l : Launch} {D : va_G} {h : PH} {b : Nat} {S : WS} (hb : b + 8 < h.length) {a : Nat} {k f s c : Int32} (ha : (wput h b S)[a]? = some (.inr (0, [.int k, .int f, .int s, .int c]))) (hk : k = 0 ∨ k = 1 ∨ k = 2 ∨ k = 3) (h1 : k = 1 → vp_in f 8 ∧ vp_in s 8 ∧ ¬ f.toNatClampNeg = s.toNatClampNeg) (h2 : k = 2 → vp_in f 8 ∧ vp_in s 8) : PM l D YX5_perform 5 [.ref b, .ref a] (wput h b S) 0 0 none (wput h b (sPerf S k f s c)) := by
  refine pm_of2 (n0 := h.length) kb_YX5_perform (wlen hb) [some (.ref b), some (.ref a)] (fun _ => rfl) (fun _ => (Nat.le_of_ble_eq_true rfl)) ?_
  rcases hk with rfl | rfl | rfl | rfl
  · skip
    refine w_aload_n dX5_perform_0 rfl ?_
    refine w_get dX5_perform_1 f_X5_85 ha rfl ?_
    refine w_tableIn (tgt := 32) dX5_perform_4 (by decide) (by decide) rfl (by decide) ?_
    refine w_aload_n dX5_perform_32 rfl ?_
    refine w_dup dX5_perform_33 rfl ?_
    refine w_get dX5_perform_34 f_X5_15 (wg0 hb) rfl ?_
    refine w_iconst (v := 1) dX5_perform_37 (by decide) ?_
    refine w_iadd dX5_perform_38 ?_
    refine w_pW1 dX5_perform_39 f_X5_15 hb ?_
    refine w_goto (tgt := 91) dX5_perform_42 (by decide) ?_
    exact w_vret dX5_perform_91 rfl rfl (wlen hb) (Nat.le_refl 0)
  · skip
    refine w_aload_n dX5_perform_0 rfl ?_
    refine w_get dX5_perform_1 f_X5_85 ha rfl ?_
    refine w_tableIn (tgt := 45) dX5_perform_4 (by decide) (by decide) rfl (by decide) ?_
    refine w_aload_n dX5_perform_45 rfl ?_
    refine w_aload_n dX5_perform_46 rfl ?_
    refine w_get dX5_perform_47 f_X5_90 ha rfl ?_
    refine w_aload_n dX5_perform_50 rfl ?_
    refine w_get dX5_perform_51 f_X5_93 ha rfl ?_
    refine w_callVv dX5_perform_54 k_X5_102 (pm_X5_comeBack hb (h1 rfl).1 (h1 rfl).2.1 (h1 rfl).2.2) rfl rfl (wg0 hb) rfl (Nat.le_of_ble_eq_true rfl) (Nat.le_of_ble_eq_true rfl) (Nat.le_of_ble_eq_true rfl) (rc00 (wlen hb) (Nat.le_refl 0)) ?_
    refine w_goto (tgt := 91) dX5_perform_57 (by decide) ?_
    exact w_vret dX5_perform_91 rfl rfl (wlen hb) (Nat.le_refl 0)
  · skip
    refine w_aload_n dX5_perform_0 rfl ?_
    refine w_get dX5_perform_1 f_X5_85 ha rfl ?_
    refine w_tableIn (tgt := 60) dX5_perform_4 (by decide) (by decide) rfl (by decide) ?_
    refine w_aload_n dX5_perform_60 rfl ?_
    refine w_aload_n dX5_perform_61 rfl ?_
    refine w_get dX5_perform_62 f_X5_90 ha rfl ?_
    refine w_aload_n dX5_perform_65 rfl ?_
    refine w_get dX5_perform_66 f_X5_93 ha rfl ?_
    refine w_aload_n dX5_perform_69 rfl ?_
    refine w_get dX5_perform_70 f_X5_96 ha rfl ?_
    refine w_callVv dX5_perform_73 k_X5_106 (pm_X5_lend hb (h2 rfl).1 (h2 rfl).2) rfl rfl (wg0 hb) rfl (Nat.le_of_ble_eq_true rfl) (Nat.le_of_ble_eq_true rfl) (Nat.le_of_ble_eq_true rfl) (rc00 (wlen hb) (Nat.le_refl 0)) ?_
    refine w_goto (tgt := 91) dX5_perform_76 (by decide) ?_
    exact w_vret dX5_perform_91 rfl rfl (wlen hb) (Nat.le_refl 0)
  · skip
    refine w_aload_n dX5_perform_0 rfl ?_
    refine w_get dX5_perform_1 f_X5_85 ha rfl ?_
    refine w_tableOut (tgt := 79) dX5_perform_4 (by decide) (by decide) ?_
    refine w_aload_n dX5_perform_79 rfl ?_
    refine w_aload_n dX5_perform_80 rfl ?_
    refine w_get dX5_perform_81 f_X5_90 ha rfl ?_
    refine w_aload_n dX5_perform_84 rfl ?_
    refine w_get dX5_perform_85 f_X5_93 ha rfl ?_
    refine w_callVv dX5_perform_88 k_X5_110 (pm_X5_tryBox hb) rfl rfl (wg0 hb) rfl (Nat.le_of_ble_eq_true rfl) (Nat.le_of_ble_eq_true rfl) (Nat.le_of_ble_eq_true rfl) (rc00 (wlen hb) (Nat.le_refl 0)) ?_
    exact w_vret dX5_perform_91 rfl rfl (wlen hb) (Nat.le_refl 0)

set_option maxRecDepth 100000 in
set_option maxHeartbeats 4000000 in
theorem pm_X5_addSight {l : Launch} {D : va_G} {h : PH} {b : Nat} {S : WS} (hb : b + 8 < h.length) {q o : Int32} (hg : 0 ≤ wsg S) : PM l D YX5_addSight 1 [.ref b, .int q, .int o] (wput h b S) 0 0 (some (.int (b2i (decide (wsg S < 8))))) (wput h b (sAddS S q o)) := by
  refine pm_of2 (n0 := h.length) kb_YX5_addSight (wlen hb) [some (.ref b), some (.int q), some (.int o)] (fun _ => rfl) (fun _ => (Nat.le_of_ble_eq_true rfl)) ?_
  refine w_aload_n dX5_addSight_0 rfl ?_
  refine w_get dX5_addSight_1 f_X5_18 (wg0 hb) rfl ?_
  refine w_bipush (v := 8) dX5_addSight_4 (by decide) ?_
  refine w_icmp_lt (tgt := 11) dX5_addSight_6 (by decide) (fun c_6 => ?_) (fun c_6 => ?_)
  · skip
    refine w_aload_n dX5_addSight_11 rfl ?_
    refine w_get dX5_addSight_12 f_X5_46 (wg0 hb) rfl ?_
    refine w_aload_n dX5_addSight_15 rfl ?_
    refine w_get dX5_addSight_16 f_X5_18 (wg0 hb) rfl ?_
    refine w_iload_n dX5_addSight_19 rfl ?_
    refine w_aW8 dX5_addSight_20 hb (vin_soul (by simp [sSoul, *])) ?_
    refine w_aload_n dX5_addSight_21 rfl ?_
    refine w_dup dX5_addSight_22 rfl ?_
    refine w_get dX5_addSight_23 f_X5_21 (wg0 hb) rfl ?_
    refine w_iload_n dX5_addSight_26 rfl ?_
    refine w_tif_eq (a := ?a27) (b := ?b27) (pJ := 40) (tgt := 39) dX5_addSight_27 (by decide) (fun c_27 k => ?hA27) (fun c_27 k => ?hB27) ?hk27
    case hA27 =>
      refine w_iconst (v := 0) dX5_addSight_39 (by decide) ?_
      exact k
    case hB27 =>
      refine w_iconst (v := 1) dX5_addSight_30 (by decide) ?_
      refine w_aload_n dX5_addSight_31 rfl ?_
      refine w_get dX5_addSight_32 f_X5_18 (wg0 hb) rfl ?_
      refine w_ishl dX5_addSight_35 ?_
      refine w_goto (tgt := 40) dX5_addSight_36 (by decide) ?_
      exact k
    refine w_ior dX5_addSight_40 ?_
    refine w_pW3 dX5_addSight_41 f_X5_21 hb ?_
    refine w_aload_n dX5_addSight_44 rfl ?_
    refine w_dup dX5_addSight_45 rfl ?_
    refine w_get dX5_addSight_46 f_X5_18 (wg0 hb) rfl ?_
    refine w_iconst (v := 1) dX5_addSight_49 (by decide) ?_
    refine w_iadd dX5_addSight_50 ?_
    refine w_pW2 dX5_addSight_51 f_X5_18 hb ?_
    refine w_iconst (v := 1) dX5_addSight_54 (by decide) ?_
    exact w_zretb dX5_addSight_55 rfl (by simp [b2i, *]) (by simp only [sAddS, if_pos, if_neg, not_false_eq_true, *]; try rfl) (wlen hb) (Nat.le_refl 0)
  · skip
    refine w_iconst (v := 0) dX5_addSight_9 (by decide) ?_
    exact w_zretb dX5_addSight_10 rfl (by simp [b2i, *]) (by simp only [sAddS, if_pos, if_neg, not_false_eq_true, *]; try rfl) (wlen hb) (Nat.le_refl 0)
end
section
def XH (N : WS) (im : Nat → Option Nat) (ps : Nat → Int32) (pn : Int32) (T : WS) (ta tb tw tp tn ka kf ks kc : Int32) (mo op : Nat → Int32) (tot : Int32) (t : PH) : PH :=
  .inr (6, [.ref 1, .ref 10, .ref 11, .ref 13, .ref 24, .ref 26]) :: (wc 1 N ++ (qa 2 im :: .inr (3, [.ref 12, .int pn]) :: ia 60 ps :: .inr (4, [.ref 14, .ref 23, .int ta, .int tb, .int tw, .int tp, .int tn]) :: (wc 14 T ++ (.inr (0, [.int ka, .int kf, .int ks, .int kc]) :: .inr (2, [.ref 25]) :: ia 576 mo :: .inr (1, [.ref 27, .int tot]) :: ia 8 op :: t))))
section PXH
variable {l : Launch} {D : va_G} {Y : PMth} {R : Room} {n0 : Nat} {X : State → Array Value → Nat → Prop} {E : List Frame → Array Value → State → Nat → State → Prop} {pc nx : Nat} {L : List (Option Value)} {st st0 : List Value} {n : Nat} {N T : WS} {im : Nat → Option Nat} {ps mo op : Nat → Int32} {pn ta tb tw tp tn ka kf ks kc tot : Int32} {t : PH}
theorem xlen : (XH N im ps pn T ta tb tw tp tn ka kf ks kc mo op tot t).length = t.length + 28 := rfl
theorem xb1 : 1 + 8 < (XH N im ps pn T ta tb tw tp tn ka kf ks kc mo op tot t).length := by show 9 < t.length + 28; omega
theorem xb14 : 14 + 8 < (XH N im ps pn T ta tb tw tp tn ka kf ks kc mo op tot t).length := by show 22 < t.length + 28; omega
theorem xw1 {S : WS} : wput (XH N im ps pn T ta tb tw tp tn ka kf ks kc mo op tot t) 1 S = (XH S im ps pn T ta tb tw tp tn ka kf ks kc mo op tot t) := rfl
theorem xw14 {S : WS} : wput (XH N im ps pn T ta tb tw tp tn ka kf ks kc mo op tot t) 14 S = (XH N im ps pn S ta tb tw tp tn ka kf ks kc mo op tot t) := rfl
theorem x_pN0 {v : Int32} {idx : Nat} (hd : dc Y.2.1 pc (.putfield idx) 3 nx) (hf : FLp Y.1.cls idx 5 0 false .int) (kk : Wp l D Y R n0 X E nx L st (XH (slv N v) im ps pn T ta tb tw tp tn ka kf ks kc mo op tot t) n) : Wp l D Y R n0 X E pc L (.int v :: .ref 1 :: st) (XH N im ps pn T ta tb tw tp tn ka kf ks kc mo op tot t) n :=
  w_put hd hf rfl (Nat.le_of_ble_eq_true rfl) (fun _ => rfl) (fun _ => rfl) (w_heq rfl kk)
theorem x_pN1 {v : Int32} {idx : Nat} (hd : dc Y.2.1 pc (.putfield idx) 3 nx) (hf : FLp Y.1.cls idx 5 1 false .int) (kk : Wp l D Y R n0 X E nx L st (XH (syr N v) im ps pn T ta tb tw tp tn ka kf ks kc mo op tot t) n) : Wp l D Y R n0 X E pc L (.int v :: .ref 1 :: st) (XH N im ps pn T ta tb tw tp tn ka kf ks kc mo op tot t) n :=
  w_put hd hf rfl (Nat.le_of_ble_eq_true rfl) (fun _ => rfl) (fun _ => rfl) (w_heq rfl kk)
theorem x_pN2 {v : Int32} {idx : Nat} (hd : dc Y.2.1 pc (.putfield idx) 3 nx) (hf : FLp Y.1.cls idx 5 2 false .int) (kk : Wp l D Y R n0 X E nx L st (XH (ssg N v) im ps pn T ta tb tw tp tn ka kf ks kc mo op tot t) n) : Wp l D Y R n0 X E pc L (.int v :: .ref 1 :: st) (XH N im ps pn T ta tb tw tp tn ka kf ks kc mo op tot t) n :=
  w_put hd hf rfl (Nat.le_of_ble_eq_true rfl) (fun _ => rfl) (fun _ => rfl) (w_heq rfl kk)
theorem x_pN3 {v : Int32} {idx : Nat} (hd : dc Y.2.1 pc (.putfield idx) 3 nx) (hf : FLp Y.1.cls idx 5 3 false .int) (kk : Wp l D Y R n0 X E nx L st (XH (sop N v) im ps pn T ta tb tw tp tn ka kf ks kc mo op tot t) n) : Wp l D Y R n0 X E pc L (.int v :: .ref 1 :: st) (XH N im ps pn T ta tb tw tp tn ka kf ks kc mo op tot t) n :=
  w_put hd hf rfl (Nat.le_of_ble_eq_true rfl) (fun _ => rfl) (fun _ => rfl) (w_heq rfl kk)
theorem x_aN1 {i x : Int32} (hd : dc Y.2.1 pc .iastore 1 nx) (hi : vp_in i 8) (kk : Wp l D Y R n0 X E nx L st (XH (smk N (upd (wmk N) i.toNatClampNeg x)) im ps pn T ta tb tw tp tn ka kf ks kc mo op tot t) n) : Wp l D Y R n0 X E pc L (.int x :: .int i :: .ref 2 :: st) (XH N im ps pn T ta tb tw tp tn ka kf ks kc mo op tot t) n :=
  w_iast hd rfl hi (w_heq rfl kk)
theorem x_aN2 {i x : Int32} (hd : dc Y.2.1 pc .iastore 1 nx) (hi : vp_in i 8) (kk : Wp l D Y R n0 X E nx L st (XH (spu N (upd (wpu N) i.toNatClampNeg x)) im ps pn T ta tb tw tp tn ka kf ks kc mo op tot t) n) : Wp l D Y R n0 X E pc L (.int x :: .int i :: .ref 3 :: st) (XH N im ps pn T ta tb tw tp tn ka kf ks kc mo op tot t) n :=
  w_iast hd rfl hi (w_heq rfl kk)
theorem x_aN3 {i x : Int32} (hd : dc Y.2.1 pc .iastore 1 nx) (hi : vp_in i 8) (kk : Wp l D Y R n0 X E nx L st (XH (swa N (upd (wwa N) i.toNatClampNeg x)) im ps pn T ta tb tw tp tn ka kf ks kc mo op tot t) n) : Wp l D Y R n0 X E pc L (.int x :: .int i :: .ref 4 :: st) (XH N im ps pn T ta tb tw tp tn ka kf ks kc mo op tot t) n :=
  w_iast hd rfl hi (w_heq rfl kk)
theorem x_aN4 {i x : Int32} (hd : dc Y.2.1 pc .iastore 1 nx) (hi : vp_in i 64) (kk : Wp l D Y R n0 X E nx L st (XH (sde N (upd (wde N) i.toNatClampNeg x)) im ps pn T ta tb tw tp tn ka kf ks kc mo op tot t) n) : Wp l D Y R n0 X E pc L (.int x :: .int i :: .ref 5 :: st) (XH N im ps pn T ta tb tw tp tn ka kf ks kc mo op tot t) n :=
  w_iast hd rfl hi (w_heq rfl kk)
theorem x_aN5 {i x : Int32} (hd : dc Y.2.1 pc .iastore 1 nx) (hi : vp_in i 6) (kk : Wp l D Y R n0 X E nx L st (XH (swn N (upd (wwn N) i.toNatClampNeg x)) im ps pn T ta tb tw tp tn ka kf ks kc mo op tot t) n) : Wp l D Y R n0 X E pc L (.int x :: .int i :: .ref 6 :: st) (XH N im ps pn T ta tb tw tp tn ka kf ks kc mo op tot t) n :=
  w_iast hd rfl hi (w_heq rfl kk)
theorem x_aN6 {i x : Int32} (hd : dc Y.2.1 pc .iastore 1 nx) (hi : vp_in i 6) (kk : Wp l D Y R n0 X E nx L st (XH (shi N (upd (whi N) i.toNatClampNeg x)) im ps pn T ta tb tw tp tn ka kf ks kc mo op tot t) n) : Wp l D Y R n0 X E pc L (.int x :: .int i :: .ref 7 :: st) (XH N im ps pn T ta tb tw tp tn ka kf ks kc mo op tot t) n :=
  w_iast hd rfl hi (w_heq rfl kk)
theorem x_aN7 {i x : Int32} (hd : dc Y.2.1 pc .iastore 1 nx) (hi : vp_in i 6) (kk : Wp l D Y R n0 X E nx L st (XH (sco N (upd (wco N) i.toNatClampNeg x)) im ps pn T ta tb tw tp tn ka kf ks kc mo op tot t) n) : Wp l D Y R n0 X E pc L (.int x :: .int i :: .ref 8 :: st) (XH N im ps pn T ta tb tw tp tn ka kf ks kc mo op tot t) n :=
  w_iast hd rfl hi (w_heq rfl kk)
theorem x_aN8 {i x : Int32} (hd : dc Y.2.1 pc .iastore 1 nx) (hi : vp_in i 8) (kk : Wp l D Y R n0 X E nx L st (XH (ssm N (upd (wsm N) i.toNatClampNeg x)) im ps pn T ta tb tw tp tn ka kf ks kc mo op tot t) n) : Wp l D Y R n0 X E pc L (.int x :: .int i :: .ref 9 :: st) (XH N im ps pn T ta tb tw tp tn ka kf ks kc mo op tot t) n :=
  w_iast hd rfl hi (w_heq rfl kk)
theorem x_pT0 {v : Int32} {idx : Nat} (hd : dc Y.2.1 pc (.putfield idx) 3 nx) (hf : FLp Y.1.cls idx 5 0 false .int) (kk : Wp l D Y R n0 X E nx L st (XH N im ps pn (slv T v) ta tb tw tp tn ka kf ks kc mo op tot t) n) : Wp l D Y R n0 X E pc L (.int v :: .ref 14 :: st) (XH N im ps pn T ta tb tw tp tn ka kf ks kc mo op tot t) n :=
  w_put hd hf rfl (Nat.le_of_ble_eq_true rfl) (fun _ => rfl) (fun _ => rfl) (w_heq rfl kk)
theorem x_pT1 {v : Int32} {idx : Nat} (hd : dc Y.2.1 pc (.putfield idx) 3 nx) (hf : FLp Y.1.cls idx 5 1 false .int) (kk : Wp l D Y R n0 X E nx L st (XH N im ps pn (syr T v) ta tb tw tp tn ka kf ks kc mo op tot t) n) : Wp l D Y R n0 X E pc L (.int v :: .ref 14 :: st) (XH N im ps pn T ta tb tw tp tn ka kf ks kc mo op tot t) n :=
  w_put hd hf rfl (Nat.le_of_ble_eq_true rfl) (fun _ => rfl) (fun _ => rfl) (w_heq rfl kk)
theorem x_pT2 {v : Int32} {idx : Nat} (hd : dc Y.2.1 pc (.putfield idx) 3 nx) (hf : FLp Y.1.cls idx 5 2 false .int) (kk : Wp l D Y R n0 X E nx L st (XH N im ps pn (ssg T v) ta tb tw tp tn ka kf ks kc mo op tot t) n) : Wp l D Y R n0 X E pc L (.int v :: .ref 14 :: st) (XH N im ps pn T ta tb tw tp tn ka kf ks kc mo op tot t) n :=
  w_put hd hf rfl (Nat.le_of_ble_eq_true rfl) (fun _ => rfl) (fun _ => rfl) (w_heq rfl kk)
theorem x_pT3 {v : Int32} {idx : Nat} (hd : dc Y.2.1 pc (.putfield idx) 3 nx) (hf : FLp Y.1.cls idx 5 3 false .int) (kk : Wp l D Y R n0 X E nx L st (XH N im ps pn (sop T v) ta tb tw tp tn ka kf ks kc mo op tot t) n) : Wp l D Y R n0 X E pc L (.int v :: .ref 14 :: st) (XH N im ps pn T ta tb tw tp tn ka kf ks kc mo op tot t) n :=
  w_put hd hf rfl (Nat.le_of_ble_eq_true rfl) (fun _ => rfl) (fun _ => rfl) (w_heq rfl kk)
theorem x_aT1 {i x : Int32} (hd : dc Y.2.1 pc .iastore 1 nx) (hi : vp_in i 8) (kk : Wp l D Y R n0 X E nx L st (XH N im ps pn (smk T (upd (wmk T) i.toNatClampNeg x)) ta tb tw tp tn ka kf ks kc mo op tot t) n) : Wp l D Y R n0 X E pc L (.int x :: .int i :: .ref 15 :: st) (XH N im ps pn T ta tb tw tp tn ka kf ks kc mo op tot t) n :=
  w_iast hd rfl hi (w_heq rfl kk)
theorem x_aT2 {i x : Int32} (hd : dc Y.2.1 pc .iastore 1 nx) (hi : vp_in i 8) (kk : Wp l D Y R n0 X E nx L st (XH N im ps pn (spu T (upd (wpu T) i.toNatClampNeg x)) ta tb tw tp tn ka kf ks kc mo op tot t) n) : Wp l D Y R n0 X E pc L (.int x :: .int i :: .ref 16 :: st) (XH N im ps pn T ta tb tw tp tn ka kf ks kc mo op tot t) n :=
  w_iast hd rfl hi (w_heq rfl kk)
theorem x_aT3 {i x : Int32} (hd : dc Y.2.1 pc .iastore 1 nx) (hi : vp_in i 8) (kk : Wp l D Y R n0 X E nx L st (XH N im ps pn (swa T (upd (wwa T) i.toNatClampNeg x)) ta tb tw tp tn ka kf ks kc mo op tot t) n) : Wp l D Y R n0 X E pc L (.int x :: .int i :: .ref 17 :: st) (XH N im ps pn T ta tb tw tp tn ka kf ks kc mo op tot t) n :=
  w_iast hd rfl hi (w_heq rfl kk)
theorem x_aT4 {i x : Int32} (hd : dc Y.2.1 pc .iastore 1 nx) (hi : vp_in i 64) (kk : Wp l D Y R n0 X E nx L st (XH N im ps pn (sde T (upd (wde T) i.toNatClampNeg x)) ta tb tw tp tn ka kf ks kc mo op tot t) n) : Wp l D Y R n0 X E pc L (.int x :: .int i :: .ref 18 :: st) (XH N im ps pn T ta tb tw tp tn ka kf ks kc mo op tot t) n :=
  w_iast hd rfl hi (w_heq rfl kk)
theorem x_aT5 {i x : Int32} (hd : dc Y.2.1 pc .iastore 1 nx) (hi : vp_in i 6) (kk : Wp l D Y R n0 X E nx L st (XH N im ps pn (swn T (upd (wwn T) i.toNatClampNeg x)) ta tb tw tp tn ka kf ks kc mo op tot t) n) : Wp l D Y R n0 X E pc L (.int x :: .int i :: .ref 19 :: st) (XH N im ps pn T ta tb tw tp tn ka kf ks kc mo op tot t) n :=
  w_iast hd rfl hi (w_heq rfl kk)
theorem x_aT6 {i x : Int32} (hd : dc Y.2.1 pc .iastore 1 nx) (hi : vp_in i 6) (kk : Wp l D Y R n0 X E nx L st (XH N im ps pn (shi T (upd (whi T) i.toNatClampNeg x)) ta tb tw tp tn ka kf ks kc mo op tot t) n) : Wp l D Y R n0 X E pc L (.int x :: .int i :: .ref 20 :: st) (XH N im ps pn T ta tb tw tp tn ka kf ks kc mo op tot t) n :=
  w_iast hd rfl hi (w_heq rfl kk)
theorem x_aT7 {i x : Int32} (hd : dc Y.2.1 pc .iastore 1 nx) (hi : vp_in i 6) (kk : Wp l D Y R n0 X E nx L st (XH N im ps pn (sco T (upd (wco T) i.toNatClampNeg x)) ta tb tw tp tn ka kf ks kc mo op tot t) n) : Wp l D Y R n0 X E pc L (.int x :: .int i :: .ref 21 :: st) (XH N im ps pn T ta tb tw tp tn ka kf ks kc mo op tot t) n :=
  w_iast hd rfl hi (w_heq rfl kk)
theorem x_aT8 {i x : Int32} (hd : dc Y.2.1 pc .iastore 1 nx) (hi : vp_in i 8) (kk : Wp l D Y R n0 X E nx L st (XH N im ps pn (ssm T (upd (wsm T) i.toNatClampNeg x)) ta tb tw tp tn ka kf ks kc mo op tot t) n) : Wp l D Y R n0 X E pc L (.int x :: .int i :: .ref 22 :: st) (XH N im ps pn T ta tb tw tp tn ka kf ks kc mo op tot t) n :=
  w_iast hd rfl hi (w_heq rfl kk)
theorem x_pP1 {v : Int32} {idx : Nat} (hd : dc Y.2.1 pc (.putfield idx) 3 nx) (hf : FLp Y.1.cls idx 3 1 false .int) (kk : Wp l D Y R n0 X E nx L st (XH N im ps v T ta tb tw tp tn ka kf ks kc mo op tot t) n) : Wp l D Y R n0 X E pc L (.int v :: .ref 11 :: st) (XH N im ps pn T ta tb tw tp tn ka kf ks kc mo op tot t) n :=
  w_put hd hf rfl (Nat.le_of_ble_eq_true rfl) (fun _ => rfl) (fun _ => rfl) (w_heq rfl kk)
theorem x_aP0 {i x : Int32} (hd : dc Y.2.1 pc .iastore 1 nx) (hi : vp_in i 60) (kk : Wp l D Y R n0 X E nx L st (XH N im (upd ps i.toNatClampNeg x) pn T ta tb tw tp tn ka kf ks kc mo op tot t) n) : Wp l D Y R n0 X E pc L (.int x :: .int i :: .ref 12 :: st) (XH N im ps pn T ta tb tw tp tn ka kf ks kc mo op tot t) n :=
  w_iast hd rfl hi (w_heq rfl kk)
theorem x_pR2 {v : Int32} {idx : Nat} (hd : dc Y.2.1 pc (.putfield idx) 3 nx) (hf : FLp Y.1.cls idx 4 2 false .int) (kk : Wp l D Y R n0 X E nx L st (XH N im ps pn T v tb tw tp tn ka kf ks kc mo op tot t) n) : Wp l D Y R n0 X E pc L (.int v :: .ref 13 :: st) (XH N im ps pn T ta tb tw tp tn ka kf ks kc mo op tot t) n :=
  w_put hd hf rfl (Nat.le_of_ble_eq_true rfl) (fun _ => rfl) (fun _ => rfl) (w_heq rfl kk)
theorem x_pR3 {v : Int32} {idx : Nat} (hd : dc Y.2.1 pc (.putfield idx) 3 nx) (hf : FLp Y.1.cls idx 4 3 false .int) (kk : Wp l D Y R n0 X E nx L st (XH N im ps pn T ta v tw tp tn ka kf ks kc mo op tot t) n) : Wp l D Y R n0 X E pc L (.int v :: .ref 13 :: st) (XH N im ps pn T ta tb tw tp tn ka kf ks kc mo op tot t) n :=
  w_put hd hf rfl (Nat.le_of_ble_eq_true rfl) (fun _ => rfl) (fun _ => rfl) (w_heq rfl kk)
theorem x_pR4 {v : Int32} {idx : Nat} (hd : dc Y.2.1 pc (.putfield idx) 3 nx) (hf : FLp Y.1.cls idx 4 4 false .int) (kk : Wp l D Y R n0 X E nx L st (XH N im ps pn T ta tb v tp tn ka kf ks kc mo op tot t) n) : Wp l D Y R n0 X E pc L (.int v :: .ref 13 :: st) (XH N im ps pn T ta tb tw tp tn ka kf ks kc mo op tot t) n :=
  w_put hd hf rfl (Nat.le_of_ble_eq_true rfl) (fun _ => rfl) (fun _ => rfl) (w_heq rfl kk)
theorem x_pR5 {v : Int32} {idx : Nat} (hd : dc Y.2.1 pc (.putfield idx) 3 nx) (hf : FLp Y.1.cls idx 4 5 false .int) (kk : Wp l D Y R n0 X E nx L st (XH N im ps pn T ta tb tw v tn ka kf ks kc mo op tot t) n) : Wp l D Y R n0 X E pc L (.int v :: .ref 13 :: st) (XH N im ps pn T ta tb tw tp tn ka kf ks kc mo op tot t) n :=
  w_put hd hf rfl (Nat.le_of_ble_eq_true rfl) (fun _ => rfl) (fun _ => rfl) (w_heq rfl kk)
theorem x_pR6 {v : Int32} {idx : Nat} (hd : dc Y.2.1 pc (.putfield idx) 3 nx) (hf : FLp Y.1.cls idx 4 6 false .int) (kk : Wp l D Y R n0 X E nx L st (XH N im ps pn T ta tb tw tp v ka kf ks kc mo op tot t) n) : Wp l D Y R n0 X E pc L (.int v :: .ref 13 :: st) (XH N im ps pn T ta tb tw tp tn ka kf ks kc mo op tot t) n :=
  w_put hd hf rfl (Nat.le_of_ble_eq_true rfl) (fun _ => rfl) (fun _ => rfl) (w_heq rfl kk)
theorem x_pA0 {v : Int32} {idx : Nat} (hd : dc Y.2.1 pc (.putfield idx) 3 nx) (hf : FLp Y.1.cls idx 0 0 false .int) (kk : Wp l D Y R n0 X E nx L st (XH N im ps pn T ta tb tw tp tn v kf ks kc mo op tot t) n) : Wp l D Y R n0 X E pc L (.int v :: .ref 23 :: st) (XH N im ps pn T ta tb tw tp tn ka kf ks kc mo op tot t) n :=
  w_put hd hf rfl (Nat.le_of_ble_eq_true rfl) (fun _ => rfl) (fun _ => rfl) (w_heq rfl kk)
theorem x_pA1 {v : Int32} {idx : Nat} (hd : dc Y.2.1 pc (.putfield idx) 3 nx) (hf : FLp Y.1.cls idx 0 1 false .int) (kk : Wp l D Y R n0 X E nx L st (XH N im ps pn T ta tb tw tp tn ka v ks kc mo op tot t) n) : Wp l D Y R n0 X E pc L (.int v :: .ref 23 :: st) (XH N im ps pn T ta tb tw tp tn ka kf ks kc mo op tot t) n :=
  w_put hd hf rfl (Nat.le_of_ble_eq_true rfl) (fun _ => rfl) (fun _ => rfl) (w_heq rfl kk)
theorem x_pA2 {v : Int32} {idx : Nat} (hd : dc Y.2.1 pc (.putfield idx) 3 nx) (hf : FLp Y.1.cls idx 0 2 false .int) (kk : Wp l D Y R n0 X E nx L st (XH N im ps pn T ta tb tw tp tn ka kf v kc mo op tot t) n) : Wp l D Y R n0 X E pc L (.int v :: .ref 23 :: st) (XH N im ps pn T ta tb tw tp tn ka kf ks kc mo op tot t) n :=
  w_put hd hf rfl (Nat.le_of_ble_eq_true rfl) (fun _ => rfl) (fun _ => rfl) (w_heq rfl kk)
theorem x_pA3 {v : Int32} {idx : Nat} (hd : dc Y.2.1 pc (.putfield idx) 3 nx) (hf : FLp Y.1.cls idx 0 3 false .int) (kk : Wp l D Y R n0 X E nx L st (XH N im ps pn T ta tb tw tp tn ka kf ks v mo op tot t) n) : Wp l D Y R n0 X E pc L (.int v :: .ref 23 :: st) (XH N im ps pn T ta tb tw tp tn ka kf ks kc mo op tot t) n :=
  w_put hd hf rfl (Nat.le_of_ble_eq_true rfl) (fun _ => rfl) (fun _ => rfl) (w_heq rfl kk)
theorem x_aM0 {i x : Int32} (hd : dc Y.2.1 pc .iastore 1 nx) (hi : vp_in i 576) (kk : Wp l D Y R n0 X E nx L st (XH N im ps pn T ta tb tw tp tn ka kf ks kc (upd mo i.toNatClampNeg x) op tot t) n) : Wp l D Y R n0 X E pc L (.int x :: .int i :: .ref 25 :: st) (XH N im ps pn T ta tb tw tp tn ka kf ks kc mo op tot t) n :=
  w_iast hd rfl hi (w_heq rfl kk)
theorem x_aL0 {i x : Int32} (hd : dc Y.2.1 pc .iastore 1 nx) (hi : vp_in i 8) (kk : Wp l D Y R n0 X E nx L st (XH N im ps pn T ta tb tw tp tn ka kf ks kc mo (upd op i.toNatClampNeg x) tot t) n) : Wp l D Y R n0 X E pc L (.int x :: .int i :: .ref 27 :: st) (XH N im ps pn T ta tb tw tp tn ka kf ks kc mo op tot t) n :=
  w_iast hd rfl hi (w_heq rfl kk)
theorem x_pL1 {v : Int32} {idx : Nat} (hd : dc Y.2.1 pc (.putfield idx) 3 nx) (hf : FLp Y.1.cls idx 1 1 false .int) (kk : Wp l D Y R n0 X E nx L st (XH N im ps pn T ta tb tw tp tn ka kf ks kc mo op v t) n) : Wp l D Y R n0 X E pc L (.int v :: .ref 26 :: st) (XH N im ps pn T ta tb tw tp tn ka kf ks kc mo op tot t) n :=
  w_put hd hf rfl (Nat.le_of_ble_eq_true rfl) (fun _ => rfl) (fun _ => rfl) (w_heq rfl kk)
end PXH
abbrev MS : Type := (Nat → Int32) × (Nat → Int32) × (Nat → Int32) × (Nat → Int32) × Int32 × (Nat → Int32) × Int32 × (Nat → Int32) × Int32 × Int32 × Int32 × Int32 × Int32 × (Nat → Int32) × (Nat → Int32) × (Nat → Int32) × (Nat → Int32)
def mbk (M : MS) : Nat → Int32 := M.1
def mnw (M : MS) : Nat → Int32 := M.2.1
def mwn (M : MS) : Nat → Int32 := M.2.2.1
def mhi (M : MS) : Nat → Int32 := M.2.2.2.1
def msg (M : MS) : Int32 := M.2.2.2.2.1
def msi (M : MS) : Nat → Int32 := M.2.2.2.2.2.1
def msn (M : MS) : Int32 := M.2.2.2.2.2.2.1
def mpd (M : MS) : Nat → Int32 := M.2.2.2.2.2.2.2.1
def mon (M : MS) : Int32 := M.2.2.2.2.2.2.2.2.1
def mot (M : MS) : Int32 := M.2.2.2.2.2.2.2.2.2.1
def mio (M : MS) : Int32 := M.2.2.2.2.2.2.2.2.2.2.1
def mre (M : MS) : Int32 := M.2.2.2.2.2.2.2.2.2.2.2.1
def mac (M : MS) : Int32 := M.2.2.2.2.2.2.2.2.2.2.2.2.1
def mmo (M : MS) : Nat → Int32 := M.2.2.2.2.2.2.2.2.2.2.2.2.2.1
def mye (M : MS) : Nat → Int32 := M.2.2.2.2.2.2.2.2.2.2.2.2.2.2.1
def mim (M : MS) : Nat → Int32 := M.2.2.2.2.2.2.2.2.2.2.2.2.2.2.2.1
def mkp (M : MS) : Nat → Int32 := M.2.2.2.2.2.2.2.2.2.2.2.2.2.2.2.2
def tbk (M : MS) (x : Nat → Int32) : MS := (x, mnw M, mwn M, mhi M, msg M, msi M, msn M, mpd M, mon M, mot M, mio M, mre M, mac M, mmo M, mye M, mim M, mkp M)
def tnw (M : MS) (x : Nat → Int32) : MS := (mbk M, x, mwn M, mhi M, msg M, msi M, msn M, mpd M, mon M, mot M, mio M, mre M, mac M, mmo M, mye M, mim M, mkp M)
def twn (M : MS) (x : Nat → Int32) : MS := (mbk M, mnw M, x, mhi M, msg M, msi M, msn M, mpd M, mon M, mot M, mio M, mre M, mac M, mmo M, mye M, mim M, mkp M)
def thi (M : MS) (x : Nat → Int32) : MS := (mbk M, mnw M, mwn M, x, msg M, msi M, msn M, mpd M, mon M, mot M, mio M, mre M, mac M, mmo M, mye M, mim M, mkp M)
def tsg (M : MS) (x : Int32) : MS := (mbk M, mnw M, mwn M, mhi M, x, msi M, msn M, mpd M, mon M, mot M, mio M, mre M, mac M, mmo M, mye M, mim M, mkp M)
def tsi (M : MS) (x : Nat → Int32) : MS := (mbk M, mnw M, mwn M, mhi M, msg M, x, msn M, mpd M, mon M, mot M, mio M, mre M, mac M, mmo M, mye M, mim M, mkp M)
def tsn (M : MS) (x : Int32) : MS := (mbk M, mnw M, mwn M, mhi M, msg M, msi M, x, mpd M, mon M, mot M, mio M, mre M, mac M, mmo M, mye M, mim M, mkp M)
def tpd (M : MS) (x : Nat → Int32) : MS := (mbk M, mnw M, mwn M, mhi M, msg M, msi M, msn M, x, mon M, mot M, mio M, mre M, mac M, mmo M, mye M, mim M, mkp M)
def ton (M : MS) (x : Int32) : MS := (mbk M, mnw M, mwn M, mhi M, msg M, msi M, msn M, mpd M, x, mot M, mio M, mre M, mac M, mmo M, mye M, mim M, mkp M)
def tot (M : MS) (x : Int32) : MS := (mbk M, mnw M, mwn M, mhi M, msg M, msi M, msn M, mpd M, mon M, x, mio M, mre M, mac M, mmo M, mye M, mim M, mkp M)
def tio (M : MS) (x : Int32) : MS := (mbk M, mnw M, mwn M, mhi M, msg M, msi M, msn M, mpd M, mon M, mot M, x, mre M, mac M, mmo M, mye M, mim M, mkp M)
def tre (M : MS) (x : Int32) : MS := (mbk M, mnw M, mwn M, mhi M, msg M, msi M, msn M, mpd M, mon M, mot M, mio M, x, mac M, mmo M, mye M, mim M, mkp M)
def tac (M : MS) (x : Int32) : MS := (mbk M, mnw M, mwn M, mhi M, msg M, msi M, msn M, mpd M, mon M, mot M, mio M, mre M, x, mmo M, mye M, mim M, mkp M)
def tmo (M : MS) (x : Nat → Int32) : MS := (mbk M, mnw M, mwn M, mhi M, msg M, msi M, msn M, mpd M, mon M, mot M, mio M, mre M, mac M, x, mye M, mim M, mkp M)
def tye (M : MS) (x : Nat → Int32) : MS := (mbk M, mnw M, mwn M, mhi M, msg M, msi M, msn M, mpd M, mon M, mot M, mio M, mre M, mac M, mmo M, x, mim M, mkp M)
def tim (M : MS) (x : Nat → Int32) : MS := (mbk M, mnw M, mwn M, mhi M, msg M, msi M, msn M, mpd M, mon M, mot M, mio M, mre M, mac M, mmo M, mye M, x, mkp M)
def tkp (M : MS) (x : Nat → Int32) : MS := (mbk M, mnw M, mwn M, mhi M, msg M, msi M, msn M, mpd M, mon M, mot M, mio M, mre M, mac M, mmo M, mye M, mim M, x)
def mcs (M : MS) : PH := [.inr (7, [.ref 29, .ref 30, .ref 31, .ref 32, .int (msg M), .ref 33, .int (msn M), .ref 34, .int (mon M), .int (mot M), .int (mio M), .int (mre M), .int (mac M), .ref 35, .ref 36, .ref 37, .ref 38]), ia 96 (mbk M), ia 96 (mnw M), ia 6 (mwn M), ia 6 (mhi M), ia 16 (msi M), ia 60 (mpd M), ia 576 (mmo M), ia 8 (mye M), ia 260 (mim M), za 2 (mkp M)]
def mput (h : PH) (M : MS) : PH := h.take 28 ++ (mcs M ++ h.drop 39)
theorem mlen {h : PH} {M : MS} (hb : 38 < h.length) : (mput h M).length = h.length := by
  have h1 : (mcs M).length = 11 := rfl
  simp only [mput, List.length_append, List.length_take, List.length_drop, h1]
  omega
theorem mat {h : PH} {k : Nat} {M : MS} {c : PC} (hb : 38 < h.length) (hk : k < 11) (hc : (mcs M)[k]? = some c) : (mput h M)[28 + k]? = some c := by
  have h1 : (mcs M).length = 11 := rfl
  unfold mput
  rw [List.getElem?_append_right (by rw [List.length_take]; omega), List.length_take, Nat.min_eq_left (by omega), Nat.add_sub_cancel_left, List.getElem?_append_left (by omega)]
  exact hc
theorem mst {h : PH} {k : Nat} {M M2 : MS} {c : PC} (hb : 38 < h.length) (hk : k < 11) (hc : (mcs M).set k c = mcs M2) : (mput h M).set (28 + k) c = mput h M2 := by
  have h1 : (mcs M).length = 11 := rfl
  unfold mput
  rw [List.set_append_right _ _ (by rw [List.length_take]; omega), List.length_take, Nat.min_eq_left (by omega), Nat.add_sub_cancel_left, List.set_append_left _ _ (by omega), hc]
theorem mg0 {h : PH} {M : MS} (hb : 38 < h.length) : (mput h M)[28]? = some (.inr (7, [.ref 29, .ref 30, .ref 31, .ref 32, .int (msg M), .ref 33, .int (msn M), .ref 34, .int (mon M), .int (mot M), .int (mio M), .int (mre M), .int (mac M), .ref 35, .ref 36, .ref 37, .ref 38])) := mat (k := 0) hb (by decide) rfl
theorem mg_bk {h : PH} {M : MS} (hb : 38 < h.length) : (mput h M)[29]? = some (ia 96 (mbk M)) := mat (k := 1) hb (by decide) rfl
theorem mg_nw {h : PH} {M : MS} (hb : 38 < h.length) : (mput h M)[30]? = some (ia 96 (mnw M)) := mat (k := 2) hb (by decide) rfl
theorem mg_wn {h : PH} {M : MS} (hb : 38 < h.length) : (mput h M)[31]? = some (ia 6 (mwn M)) := mat (k := 3) hb (by decide) rfl
theorem mg_hi {h : PH} {M : MS} (hb : 38 < h.length) : (mput h M)[32]? = some (ia 6 (mhi M)) := mat (k := 4) hb (by decide) rfl
theorem mg_si {h : PH} {M : MS} (hb : 38 < h.length) : (mput h M)[33]? = some (ia 16 (msi M)) := mat (k := 5) hb (by decide) rfl
theorem mg_pd {h : PH} {M : MS} (hb : 38 < h.length) : (mput h M)[34]? = some (ia 60 (mpd M)) := mat (k := 6) hb (by decide) rfl
theorem mg_mo {h : PH} {M : MS} (hb : 38 < h.length) : (mput h M)[35]? = some (ia 576 (mmo M)) := mat (k := 7) hb (by decide) rfl
theorem mg_ye {h : PH} {M : MS} (hb : 38 < h.length) : (mput h M)[36]? = some (ia 8 (mye M)) := mat (k := 8) hb (by decide) rfl
theorem mg_im {h : PH} {M : MS} (hb : 38 < h.length) : (mput h M)[37]? = some (ia 260 (mim M)) := mat (k := 9) hb (by decide) rfl
theorem mg_kp {h : PH} {M : MS} (hb : 38 < h.length) : (mput h M)[38]? = some (za 2 (mkp M)) := mat (k := 10) hb (by decide) rfl
section PMH
variable {l : Launch} {D : va_G} {Y : PMth} {R : Room} {n0 : Nat} {X : State → Array Value → Nat → Prop} {E : List Frame → Array Value → State → Nat → State → Prop} {pc nx : Nat} {L : List (Option Value)} {st st0 : List Value} {h h2 : PH} {n : Nat} {M : MS}
theorem w_pM4 {v : Int32} {idx : Nat} (hd : dc Y.2.1 pc (.putfield idx) 3 nx) (hf : FLp Y.1.cls idx 7 4 false .int) (hb : 38 < h.length) (kk : Wp l D Y R n0 X E nx L st (mput h (tsg M v)) n) : Wp l D Y R n0 X E pc L (.int v :: .ref 28 :: st) (mput h M) n := by
  refine w_put hd hf (mg0 hb) (Nat.le_of_ble_eq_true rfl) (fun _ => rfl) (fun _ => rfl) ?_
  exact w_heq (mst (k := 0) hb (by decide) rfl) kk
theorem w_pM6 {v : Int32} {idx : Nat} (hd : dc Y.2.1 pc (.putfield idx) 3 nx) (hf : FLp Y.1.cls idx 7 6 false .int) (hb : 38 < h.length) (kk : Wp l D Y R n0 X E nx L st (mput h (tsn M v)) n) : Wp l D Y R n0 X E pc L (.int v :: .ref 28 :: st) (mput h M) n := by
  refine w_put hd hf (mg0 hb) (Nat.le_of_ble_eq_true rfl) (fun _ => rfl) (fun _ => rfl) ?_
  exact w_heq (mst (k := 0) hb (by decide) rfl) kk
theorem w_pM8 {v : Int32} {idx : Nat} (hd : dc Y.2.1 pc (.putfield idx) 3 nx) (hf : FLp Y.1.cls idx 7 8 false .int) (hb : 38 < h.length) (kk : Wp l D Y R n0 X E nx L st (mput h (ton M v)) n) : Wp l D Y R n0 X E pc L (.int v :: .ref 28 :: st) (mput h M) n := by
  refine w_put hd hf (mg0 hb) (Nat.le_of_ble_eq_true rfl) (fun _ => rfl) (fun _ => rfl) ?_
  exact w_heq (mst (k := 0) hb (by decide) rfl) kk
theorem w_pM9 {v : Int32} {idx : Nat} (hd : dc Y.2.1 pc (.putfield idx) 3 nx) (hf : FLp Y.1.cls idx 7 9 false .int) (hb : 38 < h.length) (kk : Wp l D Y R n0 X E nx L st (mput h (tot M v)) n) : Wp l D Y R n0 X E pc L (.int v :: .ref 28 :: st) (mput h M) n := by
  refine w_put hd hf (mg0 hb) (Nat.le_of_ble_eq_true rfl) (fun _ => rfl) (fun _ => rfl) ?_
  exact w_heq (mst (k := 0) hb (by decide) rfl) kk
theorem w_pM10 {v : Int32} {idx : Nat} (hd : dc Y.2.1 pc (.putfield idx) 3 nx) (hf : FLp Y.1.cls idx 7 10 false .boolean) (hb : 38 < h.length) (hv : narrow .boolean (.int v) = .int v) (hv2 : fits .boolean (.int v) = true) (kk : Wp l D Y R n0 X E nx L st (mput h (tio M v)) n) : Wp l D Y R n0 X E pc L (.int v :: .ref 28 :: st) (mput h M) n := by
  refine w_put hd hf (mg0 hb) (Nat.le_of_ble_eq_true rfl) (fun _ => hv) (fun _ => hv2) ?_
  exact w_heq (mst (k := 0) hb (by decide) rfl) kk
theorem w_pM11 {v : Int32} {idx : Nat} (hd : dc Y.2.1 pc (.putfield idx) 3 nx) (hf : FLp Y.1.cls idx 7 11 false .int) (hb : 38 < h.length) (kk : Wp l D Y R n0 X E nx L st (mput h (tre M v)) n) : Wp l D Y R n0 X E pc L (.int v :: .ref 28 :: st) (mput h M) n := by
  refine w_put hd hf (mg0 hb) (Nat.le_of_ble_eq_true rfl) (fun _ => rfl) (fun _ => rfl) ?_
  exact w_heq (mst (k := 0) hb (by decide) rfl) kk
theorem w_pM12 {v : Int32} {idx : Nat} (hd : dc Y.2.1 pc (.putfield idx) 3 nx) (hf : FLp Y.1.cls idx 7 12 false .int) (hb : 38 < h.length) (kk : Wp l D Y R n0 X E nx L st (mput h (tac M v)) n) : Wp l D Y R n0 X E pc L (.int v :: .ref 28 :: st) (mput h M) n := by
  refine w_put hd hf (mg0 hb) (Nat.le_of_ble_eq_true rfl) (fun _ => rfl) (fun _ => rfl) ?_
  exact w_heq (mst (k := 0) hb (by decide) rfl) kk
theorem w_aM_bk {i x : Int32} (hd : dc Y.2.1 pc .iastore 1 nx) (hb : 38 < h.length) (hi : vp_in i 96) (kk : Wp l D Y R n0 X E nx L st (mput h (tbk M (upd (mbk M) i.toNatClampNeg x))) n) : Wp l D Y R n0 X E pc L (.int x :: .int i :: .ref 29 :: st) (mput h M) n := by
  refine w_iast hd (mg_bk hb) hi ?_
  exact w_heq (mst (k := 1) hb (by decide) rfl) kk
theorem w_aM_nw {i x : Int32} (hd : dc Y.2.1 pc .iastore 1 nx) (hb : 38 < h.length) (hi : vp_in i 96) (kk : Wp l D Y R n0 X E nx L st (mput h (tnw M (upd (mnw M) i.toNatClampNeg x))) n) : Wp l D Y R n0 X E pc L (.int x :: .int i :: .ref 30 :: st) (mput h M) n := by
  refine w_iast hd (mg_nw hb) hi ?_
  exact w_heq (mst (k := 2) hb (by decide) rfl) kk
theorem w_aM_wn {i x : Int32} (hd : dc Y.2.1 pc .iastore 1 nx) (hb : 38 < h.length) (hi : vp_in i 6) (kk : Wp l D Y R n0 X E nx L st (mput h (twn M (upd (mwn M) i.toNatClampNeg x))) n) : Wp l D Y R n0 X E pc L (.int x :: .int i :: .ref 31 :: st) (mput h M) n := by
  refine w_iast hd (mg_wn hb) hi ?_
  exact w_heq (mst (k := 3) hb (by decide) rfl) kk
theorem w_aM_hi {i x : Int32} (hd : dc Y.2.1 pc .iastore 1 nx) (hb : 38 < h.length) (hi : vp_in i 6) (kk : Wp l D Y R n0 X E nx L st (mput h (thi M (upd (mhi M) i.toNatClampNeg x))) n) : Wp l D Y R n0 X E pc L (.int x :: .int i :: .ref 32 :: st) (mput h M) n := by
  refine w_iast hd (mg_hi hb) hi ?_
  exact w_heq (mst (k := 4) hb (by decide) rfl) kk
theorem w_aM_si {i x : Int32} (hd : dc Y.2.1 pc .iastore 1 nx) (hb : 38 < h.length) (hi : vp_in i 16) (kk : Wp l D Y R n0 X E nx L st (mput h (tsi M (upd (msi M) i.toNatClampNeg x))) n) : Wp l D Y R n0 X E pc L (.int x :: .int i :: .ref 33 :: st) (mput h M) n := by
  refine w_iast hd (mg_si hb) hi ?_
  exact w_heq (mst (k := 5) hb (by decide) rfl) kk
theorem w_aM_pd {i x : Int32} (hd : dc Y.2.1 pc .iastore 1 nx) (hb : 38 < h.length) (hi : vp_in i 60) (kk : Wp l D Y R n0 X E nx L st (mput h (tpd M (upd (mpd M) i.toNatClampNeg x))) n) : Wp l D Y R n0 X E pc L (.int x :: .int i :: .ref 34 :: st) (mput h M) n := by
  refine w_iast hd (mg_pd hb) hi ?_
  exact w_heq (mst (k := 6) hb (by decide) rfl) kk
theorem w_aM_mo {i x : Int32} (hd : dc Y.2.1 pc .iastore 1 nx) (hb : 38 < h.length) (hi : vp_in i 576) (kk : Wp l D Y R n0 X E nx L st (mput h (tmo M (upd (mmo M) i.toNatClampNeg x))) n) : Wp l D Y R n0 X E pc L (.int x :: .int i :: .ref 35 :: st) (mput h M) n := by
  refine w_iast hd (mg_mo hb) hi ?_
  exact w_heq (mst (k := 7) hb (by decide) rfl) kk
theorem w_aM_ye {i x : Int32} (hd : dc Y.2.1 pc .iastore 1 nx) (hb : 38 < h.length) (hi : vp_in i 8) (kk : Wp l D Y R n0 X E nx L st (mput h (tye M (upd (mye M) i.toNatClampNeg x))) n) : Wp l D Y R n0 X E pc L (.int x :: .int i :: .ref 36 :: st) (mput h M) n := by
  refine w_iast hd (mg_ye hb) hi ?_
  exact w_heq (mst (k := 8) hb (by decide) rfl) kk
theorem w_aM_im {i x : Int32} (hd : dc Y.2.1 pc .iastore 1 nx) (hb : 38 < h.length) (hi : vp_in i 260) (kk : Wp l D Y R n0 X E nx L st (mput h (tim M (upd (mim M) i.toNatClampNeg x))) n) : Wp l D Y R n0 X E pc L (.int x :: .int i :: .ref 37 :: st) (mput h M) n := by
  refine w_iast hd (mg_im hb) hi ?_
  exact w_heq (mst (k := 9) hb (by decide) rfl) kk
theorem w_aM_kp {i x : Int32} (hd : dc Y.2.1 pc .bastore 1 nx) (hb : 38 < h.length) (hi : vp_in i 2) (hx : vp_nar .boolean x = x) (kk : Wp l D Y R n0 X E nx L st (mput h (tkp M (upd (mkp M) i.toNatClampNeg x))) n) : Wp l D Y R n0 X E pc L (.int x :: .int i :: .ref 38 :: st) (mput h M) n := by
  refine w_zast hd (mg_kp hb) hi hx ?_
  exact w_heq (mst (k := 10) hb (by decide) rfl) kk
end PMH
end
section
theorem app_at {h0 ws : PH} {k : Nat} {c : PC} (hk : ws[k]? = some c) : (h0 ++ ws)[h0.length + k]? = some c := by
  rw [List.getElem?_append_right (by omega), Nat.add_sub_cancel_left]; exact hk
theorem app_set {h0 ws ws2 : PH} {k : Nat} {c : PC} (hs : ws.set k c = ws2) : (h0 ++ ws).set (h0.length + k) c = h0 ++ ws2 := by
  rw [List.set_append_right _ _ (by omega), Nat.add_sub_cancel_left, hs]
section PIN
variable {l : Launch} {D : va_G} {Y : PMth} {R : Room} {n0 : Nat} {X : State → Array Value → Nat → Prop} {E : List Frame → Array Value → State → Nat → State → Prop} {pc nx : Nat} {L : List (Option Value)} {st st0 : List Value} {h0 ws ws2 : PH} {n : Nat}
theorem i_put {j k ci idx : Nat} {ty : FieldType} {fs : List Value} {v : Value} (hd : dc Y.2.1 pc (.putfield idx) 3 nx) (hf : FLp Y.1.cls idx ci k false ty) (hc : ws[j]? = some (.inr (ci, fs))) (hk : k < fs.length) (hn : ∀ B, narrow ty (pv B v) = pv B v) (hfit : ∀ B, fits ty (pv B v) = true) (hs : ws.set j (.inr (ci, fs.set k v)) = ws2) (kk : Wp l D Y R n0 X E nx L st (h0 ++ ws2) n) : Wp l D Y R n0 X E pc L (v :: .ref (h0.length + j) :: st) (h0 ++ ws) n :=
  w_put hd hf (app_at hc) hk hn hfit (w_heq (app_set hs) kk)
theorem i_putF {j k ci idx : Nat} {ty : FieldType} {fs : List Value} {v : Value} {T1 : u_T} {N1 : Nat} (hd : dc Y.2.1 pc (.putfield idx) 3 nx) (hf : FLp Y.1.cls idx ci k true ty) (hY : Y.1.name = "<init>") (hC : vwCl[ci]? = some (Y.1.cls, T1, N1)) (hl : Cond.fieldLink Y.1.cls idx Y.1.cls (T1 k).2.1 (T1 k).2.2.1 ∈ pTb) (hc : ws[j]? = some (.inr (ci, fs))) (hk : k < fs.length) (hn : ∀ B, narrow ty (pv B v) = pv B v) (hfit : ∀ B, fits ty (pv B v) = true) (hs : ws.set j (.inr (ci, fs.set k v)) = ws2) (kk : Wp l D Y R n0 X E nx L st (h0 ++ ws2) n) : Wp l D Y R n0 X E pc L (v :: .ref (h0.length + j) :: st) (h0 ++ ws) n :=
  w_putF hd hf hY hC hl (app_at hc) hk hn hfit (w_heq (app_set hs) kk)
theorem i_newI {x : Int32} {N m : Nat} (hd : dc Y.2.1 pc (.newarray .int) 2 nx) (hn : ¬ x < 0) (hN : x.toNatClampNeg = N) (hby : N * 4 ≤ 536870912) (hm : ws.length = m) (hrc : h0.length + m - n0 + 1 ≤ R.cells) (hrs : n + N ≤ R.slots) (hs : ws ++ [ia N (fun _ => 0)] = ws2) (kk : Wp l D Y R n0 X E nx L (.ref (h0.length + m) :: st) (h0 ++ ws2) (n + N)) : Wp l D Y R n0 X E pc L (.int x :: st) (h0 ++ ws) n :=
  w_newI hd hn hN hby (by rw [List.length_append, hm]) hrc hrs (w_heq (by rw [List.append_assoc, hs]) kk)
theorem i_newZ {x : Int32} {N m : Nat} (hd : dc Y.2.1 pc (.newarray .boolean) 2 nx) (hn : ¬ x < 0) (hN : x.toNatClampNeg = N) (hby : N * 1 ≤ 536870912) (hm : ws.length = m) (hrc : h0.length + m - n0 + 1 ≤ R.cells) (hrs : n + N ≤ R.slots) (hs : ws ++ [za N (fun _ => 0)] = ws2) (kk : Wp l D Y R n0 X E nx L (.ref (h0.length + m) :: st) (h0 ++ ws2) (n + N)) : Wp l D Y R n0 X E pc L (.int x :: st) (h0 ++ ws) n :=
  w_newZ hd hn hN hby (by rw [List.length_append, hm]) hrc hrs (w_heq (by rw [List.append_assoc, hs]) kk)
theorem i_newQ {x : Int32} {N m idx : Nat} (hd : dc Y.2.1 pc (.anewarray idx) 3 nx) (hcl : Cond.classLink Y.1.cls idx RX5 ∈ pTb) (hn : ¬ x < 0) (hN : x.toNatClampNeg = N) (hby : N * 4 ≤ 536870912) (hm : ws.length = m) (hrc : h0.length + m - n0 + 1 ≤ R.cells) (hrs : n + N ≤ R.slots) (hs : ws ++ [qa N (fun _ => none)] = ws2) (kk : Wp l D Y R n0 X E nx L (.ref (h0.length + m) :: st) (h0 ++ ws2) (n + N)) : Wp l D Y R n0 X E pc L (.int x :: st) (h0 ++ ws) n :=
  w_newQ hd hcl hn hN hby (by rw [List.length_append, hm]) hrc hrs (w_heq (by rw [List.append_assoc, hs]) kk)
theorem i_new {ci N m idx : Nat} {fs : List Value} (hd : dc Y.2.1 pc (.new idx) 3 nx) (hw : NWp Y.1.cls idx ci N fs) (hfs : ∀ B, fs.map (pv B) = fs) (hm : ws.length = m) (hrc : h0.length + m - n0 + 1 ≤ R.cells) (hrs : n + N ≤ R.slots) (kk : Wp l D Y R n0 X E nx L (.ref (h0.length + m) :: st) ((h0 ++ ws) ++ [.inr (ci, fs)]) (n + N)) : Wp l D Y R n0 X E pc L st (h0 ++ ws) n :=
  w_new hd hw hfs (by rw [List.length_append, hm]) hrc hrs kk
theorem i_call {Yc : PMth} {d mc ms m idx : Nat} {c : PC} {cs : PH} (hd : dc Y.2.1 pc (.invokespecial idx) 3 nx) (hk : KIp Y.1.cls idx Yc 0) (hM : PM l D Yc d [.ref (h0.length + m)] ((h0 ++ ws) ++ [c]) mc ms none ((h0 ++ ws) ++ cs)) (hfr : d + 1 ≤ R.frames) (hlo : 8 + (Yc.2.2.1 + 11) + 40 * d ≤ R.locals) (hW : (st.map fun v => v.category).sum ≤ 8) (hm : ws.length = m) (hrc : h0.length + m + 1 - n0 + mc ≤ R.cells) (hrs : n + ms ≤ R.slots) (hs : ws ++ cs = ws2) (kk : Wp l D Y R n0 X E nx L st (h0 ++ ws2) (n + ms)) : Wp l D Y R n0 X E pc L (.ref (h0.length + m) :: st) ((h0 ++ ws) ++ [c]) n :=
  w_callI (As := []) hd hk hM rfl rfl hfr hlo hW ⟨by rw [List.length_append, List.length_append, hm]; exact hrc, hrs⟩ (w_heq (by rw [List.append_assoc, hs]) kk)
theorem i_ast {j N : Nat} {f : Nat → Int32} {i x : Int32} (hd : dc Y.2.1 pc .iastore 1 nx) (hc : ws[j]? = some (ia N f)) (hi : vp_in i N) (hs : ws.set j (ia N (upd f i.toNatClampNeg x)) = ws2) (kk : Wp l D Y R n0 X E nx L st (h0 ++ ws2) n) : Wp l D Y R n0 X E pc L (.int x :: .int i :: .ref (h0.length + j) :: st) (h0 ++ ws) n :=
  w_iast hd (app_at hc) hi (w_heq (app_set hs) kk)
end PIN
def was0 (k : Nat) : Nat → Int32 := iter (fun i f => upd f (nI i).toNatClampNeg (-6)) k (fun _ => 0)
def hit0 (k : Nat) : Nat → Int32 := iter (fun i f => upd f (nI i).toNatClampNeg 1) k (fun _ => 0)
def w0 : WS := (0, 0, 0, 0, fun _ => 0, fun _ => 0, was0 8, fun _ => 0, fun _ => 0, hit0 6, fun _ => 0, fun _ => 0)
theorem cl_X6_7 : Cond.classLink RX6 7 RX5 ∈ pTb := inT 82 (by decide +kernel) rfl
set_option maxRecDepth 100000 in
set_option maxHeartbeats 4000000 in
theorem pm_X0_init {l : Launch} {D : va_G} {h0 : PH} {q : Nat} (hq : h0.length = q) : PM l D YX0_init 1 [.ref q] (h0 ++ [.inr (0, [.int 0, .int 0, .int 0, .int 0])]) 0 0 none (h0 ++ [.inr (0, [.int 0, .int 0, .int 0, .int 0])]) := by
  subst hq
  refine pm_of2 (n0 := h0.length + 1) kb_YX0_init (by rw [List.length_append]; rfl) [some (.ref (h0.length + 0))] (fun _ => rfl) (fun _ => (Nat.le_of_ble_eq_true rfl)) ?_
  refine w_aload_n dX0_init_0 rfl ?_
  refine w_objInit dX0_init_1 o_X0_3 (Nat.le_of_ble_eq_true rfl) (Nat.le_of_ble_eq_true rfl) (Nat.le_of_ble_eq_true rfl) ?_
  refine w_aload_n dX0_init_4 rfl ?_
  refine w_iconst (v := 0) dX0_init_5 (by decide) ?_
  refine i_put (j := 0) (ws2 := [.inr (0, [.int 0, .int 0, .int 0, .int 0])]) dX0_init_6 f_X0_11 rfl (Nat.le_of_ble_eq_true rfl) (fun _ => rfl) (fun _ => rfl) rfl ?_
  refine w_aload_n dX0_init_9 rfl ?_
  refine w_iconst (v := 0) dX0_init_10 (by decide) ?_
  refine i_put (j := 0) (ws2 := [.inr (0, [.int 0, .int 0, .int 0, .int 0])]) dX0_init_11 f_X0_15 rfl (Nat.le_of_ble_eq_true rfl) (fun _ => rfl) (fun _ => rfl) rfl ?_
  refine w_aload_n dX0_init_14 rfl ?_
  refine w_iconst (v := 0) dX0_init_15 (by decide) ?_
  refine i_put (j := 0) (ws2 := [.inr (0, [.int 0, .int 0, .int 0, .int 0])]) dX0_init_16 f_X0_18 rfl (Nat.le_of_ble_eq_true rfl) (fun _ => rfl) (fun _ => rfl) rfl ?_
  refine w_aload_n dX0_init_19 rfl ?_
  refine w_iconst (v := 0) dX0_init_20 (by decide) ?_
  refine i_put (j := 0) (ws2 := [.inr (0, [.int 0, .int 0, .int 0, .int 0])]) dX0_init_21 f_X0_21 rfl (Nat.le_of_ble_eq_true rfl) (fun _ => rfl) (fun _ => rfl) rfl ?_
  exact w_vret dX0_init_24 rfl rfl (by simp only [List.length_append]; rfl) (Nat.le_of_ble_eq_true rfl)
set_option maxRecDepth 100000 in
set_option maxHeartbeats 4000000 in
theorem pm_X1_init {l : Launch} {D : va_G} {h0 : PH} {q : Nat} (hq : h0.length = q) : PM l D YX1_init 1 [.ref q] (h0 ++ [.inr (1, [.null, .int 0])]) 1 8 none (h0 ++ [.inr (1, [.ref (q + 1), .int 0]), ia 8 (fun _ => 0)]) := by
  subst hq
  refine pm_of2 (n0 := h0.length + 1) kb_YX1_init (by rw [List.length_append]; rfl) [some (.ref (h0.length + 0))] (fun _ => rfl) (fun _ => (Nat.le_of_ble_eq_true rfl)) ?_
  refine w_aload_n dX1_init_0 rfl ?_
  refine w_objInit dX1_init_1 o_X1_3 (Nat.le_of_ble_eq_true rfl) (Nat.le_of_ble_eq_true rfl) (Nat.le_of_ble_eq_true rfl) ?_
  refine w_aload_n dX1_init_4 rfl ?_
  refine w_bipush (v := 8) dX1_init_5 (by decide) ?_
  refine i_newI (N := 8) (m := 1) (ws2 := [.inr (1, [.null, .int 0]), ia 8 (fun _ => 0)]) dX1_init_7 (by decide) (by decide) (by decide) rfl (by simp only [pRm]; omega) (by simp only [pRm]; omega) rfl ?_
  refine i_putF (j := 0) (ws2 := [.inr (1, [.ref (h0.length + 1), .int 0]), ia 8 (fun _ => 0)]) dX1_init_9 f_X1_9 rfl rfl (inT 236 (by decide +kernel) rfl) rfl (Nat.le_of_ble_eq_true rfl) (fun _ => rfl) (fun _ => rfl) rfl ?_
  refine w_aload_n dX1_init_12 rfl ?_
  refine w_iconst (v := 0) dX1_init_13 (by decide) ?_
  refine i_put (j := 0) (ws2 := [.inr (1, [.ref (h0.length + 1), .int 0]), ia 8 (fun _ => 0)]) dX1_init_14 f_X1_15 rfl (Nat.le_of_ble_eq_true rfl) (fun _ => rfl) (fun _ => rfl) rfl ?_
  exact w_vret dX1_init_17 rfl rfl (by simp only [List.length_append]; rfl) (Nat.le_of_ble_eq_true rfl)
set_option maxRecDepth 100000 in
set_option maxHeartbeats 4000000 in
theorem pm_X2_init {l : Launch} {D : va_G} {h0 : PH} {q : Nat} (hq : h0.length = q) : PM l D YX2_init 1 [.ref q] (h0 ++ [.inr (2, [.null])]) 1 576 none (h0 ++ [.inr (2, [.ref (q + 1)]), ia 576 (fun _ => 0)]) := by
  subst hq
  refine pm_of2 (n0 := h0.length + 1) kb_YX2_init (by rw [List.length_append]; rfl) [some (.ref (h0.length + 0))] (fun _ => rfl) (fun _ => (Nat.le_of_ble_eq_true rfl)) ?_
  refine w_aload_n dX2_init_0 rfl ?_
  refine w_objInit dX2_init_1 o_X2_3 (Nat.le_of_ble_eq_true rfl) (Nat.le_of_ble_eq_true rfl) (Nat.le_of_ble_eq_true rfl) ?_
  refine w_aload_n dX2_init_4 rfl ?_
  refine w_sipush (v := 576) dX2_init_5 (by decide) ?_
  refine i_newI (N := 576) (m := 1) (ws2 := [.inr (2, [.null]), ia 576 (fun _ => 0)]) dX2_init_8 (by decide) (by decide) (by decide) rfl (by simp only [pRm]; omega) (by simp only [pRm]; omega) rfl ?_
  refine i_putF (j := 0) (ws2 := [.inr (2, [.ref (h0.length + 1)]), ia 576 (fun _ => 0)]) dX2_init_10 f_X2_11 rfl rfl (inT 226 (by decide +kernel) rfl) rfl (Nat.le_of_ble_eq_true rfl) (fun _ => rfl) (fun _ => rfl) rfl ?_
  exact w_vret dX2_init_13 rfl rfl (by simp only [List.length_append]; rfl) (Nat.le_of_ble_eq_true rfl)
set_option maxRecDepth 100000 in
set_option maxHeartbeats 4000000 in
theorem pm_X3_init {l : Launch} {D : va_G} {h0 : PH} {q : Nat} (hq : h0.length = q) : PM l D YX3_init 1 [.ref q] (h0 ++ [.inr (3, [.null, .int 0])]) 1 60 none (h0 ++ [.inr (3, [.ref (q + 1), .int 0]), ia 60 (fun _ => 0)]) := by
  subst hq
  refine pm_of2 (n0 := h0.length + 1) kb_YX3_init (by rw [List.length_append]; rfl) [some (.ref (h0.length + 0))] (fun _ => rfl) (fun _ => (Nat.le_of_ble_eq_true rfl)) ?_
  refine w_aload_n dX3_init_0 rfl ?_
  refine w_objInit dX3_init_1 o_X3_3 (Nat.le_of_ble_eq_true rfl) (Nat.le_of_ble_eq_true rfl) (Nat.le_of_ble_eq_true rfl) ?_
  refine w_aload_n dX3_init_4 rfl ?_
  refine w_bipush (v := 60) dX3_init_5 (by decide) ?_
  refine i_newI (N := 60) (m := 1) (ws2 := [.inr (3, [.null, .int 0]), ia 60 (fun _ => 0)]) dX3_init_7 (by decide) (by decide) (by decide) rfl (by simp only [pRm]; omega) (by simp only [pRm]; omega) rfl ?_
  refine i_putF (j := 0) (ws2 := [.inr (3, [.ref (h0.length + 1), .int 0]), ia 60 (fun _ => 0)]) dX3_init_9 f_X3_9 rfl rfl (inT 149 (by decide +kernel) rfl) rfl (Nat.le_of_ble_eq_true rfl) (fun _ => rfl) (fun _ => rfl) rfl ?_
  refine w_aload_n dX3_init_12 rfl ?_
  refine w_iconst (v := 0) dX3_init_13 (by decide) ?_
  refine i_put (j := 0) (ws2 := [.inr (3, [.ref (h0.length + 1), .int 0]), ia 60 (fun _ => 0)]) dX3_init_14 f_X3_15 rfl (Nat.le_of_ble_eq_true rfl) (fun _ => rfl) (fun _ => rfl) rfl ?_
  exact w_vret dX3_init_17 rfl rfl (by simp only [List.length_append]; rfl) (Nat.le_of_ble_eq_true rfl)
set_option maxRecDepth 100000 in
set_option maxHeartbeats 4000000 in
theorem pm_X5_init {l : Launch} {D : va_G} {h0 : PH} {q : Nat} (hq : h0.length = q) : PM l D YX5_init 1 [.ref q] (h0 ++ [.inr (5, [.int 0, .int 0, .int 0, .int 0, .null, .null, .null, .null, .null, .null, .null, .null])]) 8 114 none (h0 ++ wc q w0) := by
  subst hq
  refine pm_of2 (n0 := h0.length + 1) kb_YX5_init (by rw [List.length_append]; rfl) [some (.ref (h0.length + 0)), none] (fun _ => rfl) (fun _ => (Nat.le_of_ble_eq_true rfl)) ?_
  have loop2 : ∀ (k i : Nat), i + k = 6 → Wp l D YX5_init (pRm 1 8 114) (h0.length + 1) (fun _ _ _ => True) (mE D (h0.length + 1) 8 114 none (h0 ++ wc h0.length w0)) 112 [some (.ref (h0.length + 0)), some (.int (nI i))] [] (h0 ++ (wc h0.length (0, 0, 0, 0, fun _ => 0, fun _ => 0, was0 8, fun _ => 0, fun _ => 0, hit0 i, fun _ => 0, fun _ => 0))) 114 := by
    intro k
    induction k with
    | zero =>
      intro i hi
      refine w_iload_n dX5_init_112 rfl ?_
      refine w_bipush (v := 6) dX5_init_113 (by decide) ?_
      refine w_icmp_ge_t (tgt := 131) dX5_init_115 (by decide) (lp_x hi (by decide) rfl) ?_
      have hi : i = 6 := by omega
      subst hi
      exact w_vret dX5_init_131 rfl rfl (by simp only [List.length_append]; rfl) (Nat.le_of_ble_eq_true rfl)
    | succ k ih =>
      intro i hi
      refine w_iload_n dX5_init_112 rfl ?_
      refine w_bipush (v := 6) dX5_init_113 (by decide) ?_
      refine w_icmp_ge_f dX5_init_115 ⟨131, by decide⟩ (lp_g hi (by decide) rfl) ?_
      refine w_aload_n dX5_init_118 rfl ?_
      refine w_get dX5_init_119 f_X5_40 (app_at (k := 0) rfl) rfl ?_
      refine w_iload_n dX5_init_122 rfl ?_
      refine w_iconst (v := 1) dX5_init_123 (by decide) ?_
      refine i_ast (j := 6) (ws2 := (wc h0.length (0, 0, 0, 0, fun _ => 0, fun _ => 0, was0 8, fun _ => 0, fun _ => 0, hit0 (i + 1), fun _ => 0, fun _ => 0))) dX5_init_124 rfl (vin_8 hi (by decide)) rfl ?_
      refine w_iinc_1 (v := 1) dX5_init_125 (by decide) (Nat.le_of_ble_eq_true rfl) rfl ?_
      refine w_goto (tgt := 112) dX5_init_128 (by decide) ?_
      exact w_loc_1 (nI_1 i) (ih (i + 1) (by omega))
  have loop1 : ∀ (k i : Nat), i + k = 8 → Wp l D YX5_init (pRm 1 8 114) (h0.length + 1) (fun _ _ _ => True) (mE D (h0.length + 1) 8 114 none (h0 ++ wc h0.length w0)) 90 [some (.ref (h0.length + 0)), some (.int (nI i))] [] (h0 ++ (wc h0.length (0, 0, 0, 0, fun _ => 0, fun _ => 0, was0 i, fun _ => 0, fun _ => 0, hit0 0, fun _ => 0, fun _ => 0))) 114 := by
    intro k
    induction k with
    | zero =>
      intro i hi
      refine w_iload_n dX5_init_90 rfl ?_
      refine w_bipush (v := 8) dX5_init_91 (by decide) ?_
      refine w_icmp_ge_t (tgt := 110) dX5_init_93 (by decide) (lp_x hi (by decide) rfl) ?_
      have hi : i = 8 := by omega
      subst hi
      refine w_iconst (v := 0) dX5_init_110 (by decide) ?_
      refine w_istore_1 dX5_init_111 (Nat.le_of_ble_eq_true rfl) rfl ?_
      exact loop2 6 0 rfl
    | succ k ih =>
      intro i hi
      refine w_iload_n dX5_init_90 rfl ?_
      refine w_bipush (v := 8) dX5_init_91 (by decide) ?_
      refine w_icmp_ge_f dX5_init_93 ⟨110, by decide⟩ (lp_g hi (by decide) rfl) ?_
      refine w_aload_n dX5_init_96 rfl ?_
      refine w_get dX5_init_97 f_X5_31 (app_at (k := 0) rfl) rfl ?_
      refine w_iload_n dX5_init_100 rfl ?_
      refine w_bipush (v := (-6)) dX5_init_101 (by decide) ?_
      refine i_ast (j := 3) (ws2 := (wc h0.length (0, 0, 0, 0, fun _ => 0, fun _ => 0, was0 (i + 1), fun _ => 0, fun _ => 0, hit0 0, fun _ => 0, fun _ => 0))) dX5_init_103 rfl (vin_8 hi (by decide)) rfl ?_
      refine w_iinc_1 (v := 1) dX5_init_104 (by decide) (Nat.le_of_ble_eq_true rfl) rfl ?_
      refine w_goto (tgt := 90) dX5_init_107 (by decide) ?_
      exact w_loc_1 (nI_1 i) (ih (i + 1) (by omega))
  refine w_aload_n dX5_init_0 rfl ?_
  refine w_objInit dX5_init_1 o_X5_3 (Nat.le_of_ble_eq_true rfl) (Nat.le_of_ble_eq_true rfl) (Nat.le_of_ble_eq_true rfl) ?_
  refine w_aload_n dX5_init_4 rfl ?_
  refine w_iconst (v := 0) dX5_init_5 (by decide) ?_
  refine i_put (j := 0) (ws2 := [.inr (5, [.int 0, .int 0, .int 0, .int 0, .null, .null, .null, .null, .null, .null, .null, .null])]) dX5_init_6 f_X5_9 rfl (Nat.le_of_ble_eq_true rfl) (fun _ => rfl) (fun _ => rfl) rfl ?_
  refine w_aload_n dX5_init_9 rfl ?_
  refine w_iconst (v := 0) dX5_init_10 (by decide) ?_
  refine i_put (j := 0) (ws2 := [.inr (5, [.int 0, .int 0, .int 0, .int 0, .null, .null, .null, .null, .null, .null, .null, .null])]) dX5_init_11 f_X5_15 rfl (Nat.le_of_ble_eq_true rfl) (fun _ => rfl) (fun _ => rfl) rfl ?_
  refine w_aload_n dX5_init_14 rfl ?_
  refine w_iconst (v := 0) dX5_init_15 (by decide) ?_
  refine i_put (j := 0) (ws2 := [.inr (5, [.int 0, .int 0, .int 0, .int 0, .null, .null, .null, .null, .null, .null, .null, .null])]) dX5_init_16 f_X5_18 rfl (Nat.le_of_ble_eq_true rfl) (fun _ => rfl) (fun _ => rfl) rfl ?_
  refine w_aload_n dX5_init_19 rfl ?_
  refine w_iconst (v := 0) dX5_init_20 (by decide) ?_
  refine i_put (j := 0) (ws2 := [.inr (5, [.int 0, .int 0, .int 0, .int 0, .null, .null, .null, .null, .null, .null, .null, .null])]) dX5_init_21 f_X5_21 rfl (Nat.le_of_ble_eq_true rfl) (fun _ => rfl) (fun _ => rfl) rfl ?_
  refine w_aload_n dX5_init_24 rfl ?_
  refine w_bipush (v := 8) dX5_init_25 (by decide) ?_
  refine i_newI (N := 8) (m := 1) (ws2 := [.inr (5, [.int 0, .int 0, .int 0, .int 0, .null, .null, .null, .null, .null, .null, .null, .null]), ia 8 (fun _ => 0)]) dX5_init_27 (by decide) (by decide) (by decide) rfl (by simp only [pRm]; omega) (by simp only [pRm]; omega) rfl ?_
  refine i_putF (j := 0) (ws2 := [.inr (5, [.int 0, .int 0, .int 0, .int 0, .ref (h0.length + 1), .null, .null, .null, .null, .null, .null, .null]), ia 8 (fun _ => 0)]) dX5_init_29 f_X5_24 rfl rfl (inT 98 (by decide +kernel) rfl) rfl (Nat.le_of_ble_eq_true rfl) (fun _ => rfl) (fun _ => rfl) rfl ?_
  refine w_aload_n dX5_init_32 rfl ?_
  refine w_bipush (v := 8) dX5_init_33 (by decide) ?_
  refine i_newI (N := 8) (m := 2) (ws2 := [.inr (5, [.int 0, .int 0, .int 0, .int 0, .ref (h0.length + 1), .null, .null, .null, .null, .null, .null, .null]), ia 8 (fun _ => 0), ia 8 (fun _ => 0)]) dX5_init_35 (by decide) (by decide) (by decide) rfl (by simp only [pRm]; omega) (by simp only [pRm]; omega) rfl ?_
  refine i_putF (j := 0) (ws2 := [.inr (5, [.int 0, .int 0, .int 0, .int 0, .ref (h0.length + 1), .ref (h0.length + 2), .null, .null, .null, .null, .null, .null]), ia 8 (fun _ => 0), ia 8 (fun _ => 0)]) dX5_init_37 f_X5_28 rfl rfl (inT 101 (by decide +kernel) rfl) rfl (Nat.le_of_ble_eq_true rfl) (fun _ => rfl) (fun _ => rfl) rfl ?_
  refine w_aload_n dX5_init_40 rfl ?_
  refine w_bipush (v := 8) dX5_init_41 (by decide) ?_
  refine i_newI (N := 8) (m := 3) (ws2 := [.inr (5, [.int 0, .int 0, .int 0, .int 0, .ref (h0.length + 1), .ref (h0.length + 2), .null, .null, .null, .null, .null, .null]), ia 8 (fun _ => 0), ia 8 (fun _ => 0), ia 8 (fun _ => 0)]) dX5_init_43 (by decide) (by decide) (by decide) rfl (by simp only [pRm]; omega) (by simp only [pRm]; omega) rfl ?_
  refine i_putF (j := 0) (ws2 := [.inr (5, [.int 0, .int 0, .int 0, .int 0, .ref (h0.length + 1), .ref (h0.length + 2), .ref (h0.length + 3), .null, .null, .null, .null, .null]), ia 8 (fun _ => 0), ia 8 (fun _ => 0), ia 8 (fun _ => 0)]) dX5_init_45 f_X5_31 rfl rfl (inT 103 (by decide +kernel) rfl) rfl (Nat.le_of_ble_eq_true rfl) (fun _ => rfl) (fun _ => rfl) rfl ?_
  refine w_aload_n dX5_init_48 rfl ?_
  refine w_bipush (v := 64) dX5_init_49 (by decide) ?_
  refine i_newI (N := 64) (m := 4) (ws2 := [.inr (5, [.int 0, .int 0, .int 0, .int 0, .ref (h0.length + 1), .ref (h0.length + 2), .ref (h0.length + 3), .null, .null, .null, .null, .null]), ia 8 (fun _ => 0), ia 8 (fun _ => 0), ia 8 (fun _ => 0), ia 64 (fun _ => 0)]) dX5_init_51 (by decide) (by decide) (by decide) rfl (by simp only [pRm]; omega) (by simp only [pRm]; omega) rfl ?_
  refine i_putF (j := 0) (ws2 := [.inr (5, [.int 0, .int 0, .int 0, .int 0, .ref (h0.length + 1), .ref (h0.length + 2), .ref (h0.length + 3), .ref (h0.length + 4), .null, .null, .null, .null]), ia 8 (fun _ => 0), ia 8 (fun _ => 0), ia 8 (fun _ => 0), ia 64 (fun _ => 0)]) dX5_init_53 f_X5_34 rfl rfl (inT 105 (by decide +kernel) rfl) rfl (Nat.le_of_ble_eq_true rfl) (fun _ => rfl) (fun _ => rfl) rfl ?_
  refine w_aload_n dX5_init_56 rfl ?_
  refine w_bipush (v := 6) dX5_init_57 (by decide) ?_
  refine i_newI (N := 6) (m := 5) (ws2 := [.inr (5, [.int 0, .int 0, .int 0, .int 0, .ref (h0.length + 1), .ref (h0.length + 2), .ref (h0.length + 3), .ref (h0.length + 4), .null, .null, .null, .null]), ia 8 (fun _ => 0), ia 8 (fun _ => 0), ia 8 (fun _ => 0), ia 64 (fun _ => 0), ia 6 (fun _ => 0)]) dX5_init_59 (by decide) (by decide) (by decide) rfl (by simp only [pRm]; omega) (by simp only [pRm]; omega) rfl ?_
  refine i_putF (j := 0) (ws2 := [.inr (5, [.int 0, .int 0, .int 0, .int 0, .ref (h0.length + 1), .ref (h0.length + 2), .ref (h0.length + 3), .ref (h0.length + 4), .ref (h0.length + 5), .null, .null, .null]), ia 8 (fun _ => 0), ia 8 (fun _ => 0), ia 8 (fun _ => 0), ia 64 (fun _ => 0), ia 6 (fun _ => 0)]) dX5_init_61 f_X5_37 rfl rfl (inT 107 (by decide +kernel) rfl) rfl (Nat.le_of_ble_eq_true rfl) (fun _ => rfl) (fun _ => rfl) rfl ?_
  refine w_aload_n dX5_init_64 rfl ?_
  refine w_bipush (v := 6) dX5_init_65 (by decide) ?_
  refine i_newI (N := 6) (m := 6) (ws2 := [.inr (5, [.int 0, .int 0, .int 0, .int 0, .ref (h0.length + 1), .ref (h0.length + 2), .ref (h0.length + 3), .ref (h0.length + 4), .ref (h0.length + 5), .null, .null, .null]), ia 8 (fun _ => 0), ia 8 (fun _ => 0), ia 8 (fun _ => 0), ia 64 (fun _ => 0), ia 6 (fun _ => 0), ia 6 (fun _ => 0)]) dX5_init_67 (by decide) (by decide) (by decide) rfl (by simp only [pRm]; omega) (by simp only [pRm]; omega) rfl ?_
  refine i_putF (j := 0) (ws2 := [.inr (5, [.int 0, .int 0, .int 0, .int 0, .ref (h0.length + 1), .ref (h0.length + 2), .ref (h0.length + 3), .ref (h0.length + 4), .ref (h0.length + 5), .ref (h0.length + 6), .null, .null]), ia 8 (fun _ => 0), ia 8 (fun _ => 0), ia 8 (fun _ => 0), ia 64 (fun _ => 0), ia 6 (fun _ => 0), ia 6 (fun _ => 0)]) dX5_init_69 f_X5_40 rfl rfl (inT 109 (by decide +kernel) rfl) rfl (Nat.le_of_ble_eq_true rfl) (fun _ => rfl) (fun _ => rfl) rfl ?_
  refine w_aload_n dX5_init_72 rfl ?_
  refine w_bipush (v := 6) dX5_init_73 (by decide) ?_
  refine i_newI (N := 6) (m := 7) (ws2 := [.inr (5, [.int 0, .int 0, .int 0, .int 0, .ref (h0.length + 1), .ref (h0.length + 2), .ref (h0.length + 3), .ref (h0.length + 4), .ref (h0.length + 5), .ref (h0.length + 6), .null, .null]), ia 8 (fun _ => 0), ia 8 (fun _ => 0), ia 8 (fun _ => 0), ia 64 (fun _ => 0), ia 6 (fun _ => 0), ia 6 (fun _ => 0), ia 6 (fun _ => 0)]) dX5_init_75 (by decide) (by decide) (by decide) rfl (by simp only [pRm]; omega) (by simp only [pRm]; omega) rfl ?_
  refine i_putF (j := 0) (ws2 := [.inr (5, [.int 0, .int 0, .int 0, .int 0, .ref (h0.length + 1), .ref (h0.length + 2), .ref (h0.length + 3), .ref (h0.length + 4), .ref (h0.length + 5), .ref (h0.length + 6), .ref (h0.length + 7), .null]), ia 8 (fun _ => 0), ia 8 (fun _ => 0), ia 8 (fun _ => 0), ia 64 (fun _ => 0), ia 6 (fun _ => 0), ia 6 (fun _ => 0), ia 6 (fun _ => 0)]) dX5_init_77 f_X5_43 rfl rfl (inT 111 (by decide +kernel) rfl) rfl (Nat.le_of_ble_eq_true rfl) (fun _ => rfl) (fun _ => rfl) rfl ?_
  refine w_aload_n dX5_init_80 rfl ?_
  refine w_bipush (v := 8) dX5_init_81 (by decide) ?_
  refine i_newI (N := 8) (m := 8) (ws2 := [.inr (5, [.int 0, .int 0, .int 0, .int 0, .ref (h0.length + 1), .ref (h0.length + 2), .ref (h0.length + 3), .ref (h0.length + 4), .ref (h0.length + 5), .ref (h0.length + 6), .ref (h0.length + 7), .null]), ia 8 (fun _ => 0), ia 8 (fun _ => 0), ia 8 (fun _ => 0), ia 64 (fun _ => 0), ia 6 (fun _ => 0), ia 6 (fun _ => 0), ia 6 (fun _ => 0), ia 8 (fun _ => 0)]) dX5_init_83 (by decide) (by decide) (by decide) rfl (by simp only [pRm]; omega) (by simp only [pRm]; omega) rfl ?_
  refine i_putF (j := 0) (ws2 := [.inr (5, [.int 0, .int 0, .int 0, .int 0, .ref (h0.length + 1), .ref (h0.length + 2), .ref (h0.length + 3), .ref (h0.length + 4), .ref (h0.length + 5), .ref (h0.length + 6), .ref (h0.length + 7), .ref (h0.length + 8)]), ia 8 (fun _ => 0), ia 8 (fun _ => 0), ia 8 (fun _ => 0), ia 64 (fun _ => 0), ia 6 (fun _ => 0), ia 6 (fun _ => 0), ia 6 (fun _ => 0), ia 8 (fun _ => 0)]) dX5_init_85 f_X5_46 rfl rfl (inT 114 (by decide +kernel) rfl) rfl (Nat.le_of_ble_eq_true rfl) (fun _ => rfl) (fun _ => rfl) rfl ?_
  refine w_iconst (v := 0) dX5_init_88 (by decide) ?_
  refine w_istore_1 dX5_init_89 (Nat.le_of_ble_eq_true rfl) rfl ?_
  exact loop1 8 0 rfl

set_option maxRecDepth 100000 in
set_option maxHeartbeats 4000000 in
theorem pm_X4_init {l : Launch} {D : va_G} {h0 : PH} {q : Nat} (hq : h0.length = q) : PM l D YX4_init 2 [.ref q] (h0 ++ [.inr (4, [.null, .null, .int 0, .int 0, .int 0, .int 0, .int 0])]) 10 130 none (h0 ++ ([.inr (4, [.ref (q + 1), .ref (q + 10), .int 0, .int (-6), .int (-6), .int 0, .int (-6)])] ++ (wc (q + 1) w0 ++ [.inr (0, [.int 0, .int 0, .int 0, .int 0])]))) := by
  subst hq
  refine pm_of2 (n0 := h0.length + 1) kb_YX4_init (by rw [List.length_append]; rfl) [some (.ref (h0.length + 0))] (fun _ => rfl) (fun _ => (Nat.le_of_ble_eq_true rfl)) ?_
  refine w_aload_n dX4_init_0 rfl ?_
  refine w_objInit dX4_init_1 o_X4_3 (Nat.le_of_ble_eq_true rfl) (Nat.le_of_ble_eq_true rfl) (Nat.le_of_ble_eq_true rfl) ?_
  refine w_aload_n dX4_init_4 rfl ?_
  refine i_new (m := 1) dX4_init_5 n_X4_9 (fun _ => rfl) rfl (by simp only [pRm]; omega) (by simp only [pRm]; omega) ?_
  refine w_dup dX4_init_8 rfl ?_
  refine i_call (mc := 8) (ms := 114) (ws2 := [.inr (4, [.null, .null, .int 0, .int 0, .int 0, .int 0, .int 0]), .inr (5, [.int 0, .int 0, .int 0, .int 0, .ref (h0.length + 2), .ref (h0.length + 3), .ref (h0.length + 4), .ref (h0.length + 5), .ref (h0.length + 6), .ref (h0.length + 7), .ref (h0.length + 8), .ref (h0.length + 9)]), ia 8 (fun _ => 0), ia 8 (fun _ => 0), ia 8 (was0 8), ia 64 (fun _ => 0), ia 6 (fun _ => 0), ia 6 (hit0 6), ia 6 (fun _ => 0), ia 8 (fun _ => 0)]) dX4_init_9 k_X4_11 (pm_X5_init (by rw [List.length_append]; rfl)) (Nat.le_of_ble_eq_true rfl) (Nat.le_of_ble_eq_true rfl) (Nat.le_of_ble_eq_true rfl) rfl (by simp only [pRm]; omega) (by simp only [pRm]; omega) rfl ?_
  refine i_putF (j := 0) (ws2 := [.inr (4, [.ref (h0.length + 1), .null, .int 0, .int 0, .int 0, .int 0, .int 0]), .inr (5, [.int 0, .int 0, .int 0, .int 0, .ref (h0.length + 2), .ref (h0.length + 3), .ref (h0.length + 4), .ref (h0.length + 5), .ref (h0.length + 6), .ref (h0.length + 7), .ref (h0.length + 8), .ref (h0.length + 9)]), ia 8 (fun _ => 0), ia 8 (fun _ => 0), ia 8 (was0 8), ia 64 (fun _ => 0), ia 6 (fun _ => 0), ia 6 (hit0 6), ia 6 (fun _ => 0), ia 8 (fun _ => 0)]) dX4_init_12 f_X4_12 rfl rfl (inT 192 (by decide +kernel) rfl) rfl (Nat.le_of_ble_eq_true rfl) (fun _ => rfl) (fun _ => rfl) rfl ?_
  refine w_aload_n dX4_init_15 rfl ?_
  refine i_new (m := 10) dX4_init_16 n_X4_18 (fun _ => rfl) rfl (by simp only [pRm]; omega) (by simp only [pRm]; omega) ?_
  refine w_dup dX4_init_19 rfl ?_
  refine i_call (mc := 0) (ms := 0) (ws2 := [.inr (4, [.ref (h0.length + 1), .null, .int 0, .int 0, .int 0, .int 0, .int 0]), .inr (5, [.int 0, .int 0, .int 0, .int 0, .ref (h0.length + 2), .ref (h0.length + 3), .ref (h0.length + 4), .ref (h0.length + 5), .ref (h0.length + 6), .ref (h0.length + 7), .ref (h0.length + 8), .ref (h0.length + 9)]), ia 8 (fun _ => 0), ia 8 (fun _ => 0), ia 8 (was0 8), ia 64 (fun _ => 0), ia 6 (fun _ => 0), ia 6 (hit0 6), ia 6 (fun _ => 0), ia 8 (fun _ => 0), .inr (0, [.int 0, .int 0, .int 0, .int 0])]) dX4_init_20 k_X4_20 (pm_X0_init (by rw [List.length_append]; rfl)) (Nat.le_of_ble_eq_true rfl) (Nat.le_of_ble_eq_true rfl) (Nat.le_of_ble_eq_true rfl) rfl (by simp only [pRm]; omega) (by simp only [pRm]; omega) rfl ?_
  refine i_putF (j := 0) (ws2 := [.inr (4, [.ref (h0.length + 1), .ref (h0.length + 10), .int 0, .int 0, .int 0, .int 0, .int 0]), .inr (5, [.int 0, .int 0, .int 0, .int 0, .ref (h0.length + 2), .ref (h0.length + 3), .ref (h0.length + 4), .ref (h0.length + 5), .ref (h0.length + 6), .ref (h0.length + 7), .ref (h0.length + 8), .ref (h0.length + 9)]), ia 8 (fun _ => 0), ia 8 (fun _ => 0), ia 8 (was0 8), ia 64 (fun _ => 0), ia 6 (fun _ => 0), ia 6 (hit0 6), ia 6 (fun _ => 0), ia 8 (fun _ => 0), .inr (0, [.int 0, .int 0, .int 0, .int 0])]) dX4_init_23 f_X4_21 rfl rfl (inT 194 (by decide +kernel) rfl) rfl (Nat.le_of_ble_eq_true rfl) (fun _ => rfl) (fun _ => rfl) rfl ?_
  refine w_aload_n dX4_init_26 rfl ?_
  refine w_iconst (v := 0) dX4_init_27 (by decide) ?_
  refine i_put (j := 0) (ws2 := [.inr (4, [.ref (h0.length + 1), .ref (h0.length + 10), .int 0, .int 0, .int 0, .int 0, .int 0]), .inr (5, [.int 0, .int 0, .int 0, .int 0, .ref (h0.length + 2), .ref (h0.length + 3), .ref (h0.length + 4), .ref (h0.length + 5), .ref (h0.length + 6), .ref (h0.length + 7), .ref (h0.length + 8), .ref (h0.length + 9)]), ia 8 (fun _ => 0), ia 8 (fun _ => 0), ia 8 (was0 8), ia 64 (fun _ => 0), ia 6 (fun _ => 0), ia 6 (hit0 6), ia 6 (fun _ => 0), ia 8 (fun _ => 0), .inr (0, [.int 0, .int 0, .int 0, .int 0])]) dX4_init_28 f_X4_25 rfl (Nat.le_of_ble_eq_true rfl) (fun _ => rfl) (fun _ => rfl) rfl ?_
  refine w_aload_n dX4_init_31 rfl ?_
  refine w_bipush (v := (-6)) dX4_init_32 (by decide) ?_
  refine i_put (j := 0) (ws2 := [.inr (4, [.ref (h0.length + 1), .ref (h0.length + 10), .int 0, .int (-6), .int 0, .int 0, .int 0]), .inr (5, [.int 0, .int 0, .int 0, .int 0, .ref (h0.length + 2), .ref (h0.length + 3), .ref (h0.length + 4), .ref (h0.length + 5), .ref (h0.length + 6), .ref (h0.length + 7), .ref (h0.length + 8), .ref (h0.length + 9)]), ia 8 (fun _ => 0), ia 8 (fun _ => 0), ia 8 (was0 8), ia 64 (fun _ => 0), ia 6 (fun _ => 0), ia 6 (hit0 6), ia 6 (fun _ => 0), ia 8 (fun _ => 0), .inr (0, [.int 0, .int 0, .int 0, .int 0])]) dX4_init_34 f_X4_29 rfl (Nat.le_of_ble_eq_true rfl) (fun _ => rfl) (fun _ => rfl) rfl ?_
  refine w_aload_n dX4_init_37 rfl ?_
  refine w_bipush (v := (-6)) dX4_init_38 (by decide) ?_
  refine i_put (j := 0) (ws2 := [.inr (4, [.ref (h0.length + 1), .ref (h0.length + 10), .int 0, .int (-6), .int (-6), .int 0, .int 0]), .inr (5, [.int 0, .int 0, .int 0, .int 0, .ref (h0.length + 2), .ref (h0.length + 3), .ref (h0.length + 4), .ref (h0.length + 5), .ref (h0.length + 6), .ref (h0.length + 7), .ref (h0.length + 8), .ref (h0.length + 9)]), ia 8 (fun _ => 0), ia 8 (fun _ => 0), ia 8 (was0 8), ia 64 (fun _ => 0), ia 6 (fun _ => 0), ia 6 (hit0 6), ia 6 (fun _ => 0), ia 8 (fun _ => 0), .inr (0, [.int 0, .int 0, .int 0, .int 0])]) dX4_init_40 f_X4_32 rfl (Nat.le_of_ble_eq_true rfl) (fun _ => rfl) (fun _ => rfl) rfl ?_
  refine w_aload_n dX4_init_43 rfl ?_
  refine w_iconst (v := 0) dX4_init_44 (by decide) ?_
  refine i_put (j := 0) (ws2 := [.inr (4, [.ref (h0.length + 1), .ref (h0.length + 10), .int 0, .int (-6), .int (-6), .int 0, .int 0]), .inr (5, [.int 0, .int 0, .int 0, .int 0, .ref (h0.length + 2), .ref (h0.length + 3), .ref (h0.length + 4), .ref (h0.length + 5), .ref (h0.length + 6), .ref (h0.length + 7), .ref (h0.length + 8), .ref (h0.length + 9)]), ia 8 (fun _ => 0), ia 8 (fun _ => 0), ia 8 (was0 8), ia 64 (fun _ => 0), ia 6 (fun _ => 0), ia 6 (hit0 6), ia 6 (fun _ => 0), ia 8 (fun _ => 0), .inr (0, [.int 0, .int 0, .int 0, .int 0])]) dX4_init_45 f_X4_35 rfl (Nat.le_of_ble_eq_true rfl) (fun _ => rfl) (fun _ => rfl) rfl ?_
  refine w_aload_n dX4_init_48 rfl ?_
  refine w_bipush (v := (-6)) dX4_init_49 (by decide) ?_
  refine i_put (j := 0) (ws2 := [.inr (4, [.ref (h0.length + 1), .ref (h0.length + 10), .int 0, .int (-6), .int (-6), .int 0, .int (-6)]), .inr (5, [.int 0, .int 0, .int 0, .int 0, .ref (h0.length + 2), .ref (h0.length + 3), .ref (h0.length + 4), .ref (h0.length + 5), .ref (h0.length + 6), .ref (h0.length + 7), .ref (h0.length + 8), .ref (h0.length + 9)]), ia 8 (fun _ => 0), ia 8 (fun _ => 0), ia 8 (was0 8), ia 64 (fun _ => 0), ia 6 (fun _ => 0), ia 6 (hit0 6), ia 6 (fun _ => 0), ia 8 (fun _ => 0), .inr (0, [.int 0, .int 0, .int 0, .int 0])]) dX4_init_51 f_X4_38 rfl (Nat.le_of_ble_eq_true rfl) (fun _ => rfl) (fun _ => rfl) rfl ?_
  exact w_vret dX4_init_54 rfl rfl (by simp only [List.length_append]; rfl) (Nat.le_of_ble_eq_true rfl)
set_option maxRecDepth 100000 in
set_option maxHeartbeats 4000000 in
theorem pm_X6_init {l : Launch} {D : va_G} : PM l D YX6_init 3 [.ref 0] [.inr (6, [.null, .null, .null, .null, .null, .null])] 27 914 none (XH w0 (fun _ => none) (fun _ => 0) 0 w0 0 (-6) (-6) 0 (-6) 0 0 0 0 (fun _ => 0) (fun _ => 0) 0 []) := by
  have key : ∀ h0 : PH, h0 = [] → PM l D YX6_init 3 [.ref h0.length] (h0 ++ [.inr (6, [.null, .null, .null, .null, .null, .null])]) 27 914 none (h0 ++ [.inr (6, [.ref (h0.length + 1), .ref (h0.length + 10), .ref (h0.length + 11), .ref (h0.length + 13), .ref (h0.length + 24), .ref (h0.length + 26)]), .inr (5, [.int 0, .int 0, .int 0, .int 0, .ref (h0.length + 2), .ref (h0.length + 3), .ref (h0.length + 4), .ref (h0.length + 5), .ref (h0.length + 6), .ref (h0.length + 7), .ref (h0.length + 8), .ref (h0.length + 9)]), ia 8 (fun _ => 0), ia 8 (fun _ => 0), ia 8 (was0 8), ia 64 (fun _ => 0), ia 6 (fun _ => 0), ia 6 (hit0 6), ia 6 (fun _ => 0), ia 8 (fun _ => 0), qa 2 (fun _ => none), .inr (3, [.ref (h0.length + 12), .int 0]), ia 60 (fun _ => 0), .inr (4, [.ref (h0.length + 14), .ref (h0.length + 23), .int 0, .int (-6), .int (-6), .int 0, .int (-6)]), .inr (5, [.int 0, .int 0, .int 0, .int 0, .ref (h0.length + 15), .ref (h0.length + 16), .ref (h0.length + 17), .ref (h0.length + 18), .ref (h0.length + 19), .ref (h0.length + 20), .ref (h0.length + 21), .ref (h0.length + 22)]), ia 8 (fun _ => 0), ia 8 (fun _ => 0), ia 8 (was0 8), ia 64 (fun _ => 0), ia 6 (fun _ => 0), ia 6 (hit0 6), ia 6 (fun _ => 0), ia 8 (fun _ => 0), .inr (0, [.int 0, .int 0, .int 0, .int 0]), .inr (2, [.ref (h0.length + 25)]), ia 576 (fun _ => 0), .inr (1, [.ref (h0.length + 27), .int 0]), ia 8 (fun _ => 0)]) := by
    intro h0 _
    refine pm_of2 (n0 := h0.length + 1) kb_YX6_init (by rw [List.length_append]; rfl) [some (.ref (h0.length + 0))] (fun _ => rfl) (fun _ => (Nat.le_of_ble_eq_true rfl)) ?_
    refine w_aload_n dX6_init_0 rfl ?_
    refine w_objInit dX6_init_1 o_X6_1 (Nat.le_of_ble_eq_true rfl) (Nat.le_of_ble_eq_true rfl) (Nat.le_of_ble_eq_true rfl) ?_
    refine w_aload_n dX6_init_4 rfl ?_
    refine i_new (m := 1) dX6_init_5 n_X6_7 (fun _ => rfl) rfl (by simp only [pRm]; omega) (by simp only [pRm]; omega) ?_
    refine w_dup dX6_init_8 rfl ?_
    refine i_call (mc := 8) (ms := 114) (ws2 := [.inr (6, [.null, .null, .null, .null, .null, .null]), .inr (5, [.int 0, .int 0, .int 0, .int 0, .ref (h0.length + 2), .ref (h0.length + 3), .ref (h0.length + 4), .ref (h0.length + 5), .ref (h0.length + 6), .ref (h0.length + 7), .ref (h0.length + 8), .ref (h0.length + 9)]), ia 8 (fun _ => 0), ia 8 (fun _ => 0), ia 8 (was0 8), ia 64 (fun _ => 0), ia 6 (fun _ => 0), ia 6 (hit0 6), ia 6 (fun _ => 0), ia 8 (fun _ => 0)]) dX6_init_9 k_X6_9 (pm_X5_init (by rw [List.length_append]; rfl)) (Nat.le_of_ble_eq_true rfl) (Nat.le_of_ble_eq_true rfl) (Nat.le_of_ble_eq_true rfl) rfl (by simp only [pRm]; omega) (by simp only [pRm]; omega) rfl ?_
    refine i_putF (j := 0) (ws2 := [.inr (6, [.ref (h0.length + 1), .null, .null, .null, .null, .null]), .inr (5, [.int 0, .int 0, .int 0, .int 0, .ref (h0.length + 2), .ref (h0.length + 3), .ref (h0.length + 4), .ref (h0.length + 5), .ref (h0.length + 6), .ref (h0.length + 7), .ref (h0.length + 8), .ref (h0.length + 9)]), ia 8 (fun _ => 0), ia 8 (fun _ => 0), ia 8 (was0 8), ia 64 (fun _ => 0), ia 6 (fun _ => 0), ia 6 (hit0 6), ia 6 (fun _ => 0), ia 8 (fun _ => 0)]) dX6_init_12 f_X6_10 rfl rfl (inT 243 (by decide +kernel) rfl) rfl (Nat.le_of_ble_eq_true rfl) (fun _ => rfl) (fun _ => rfl) rfl ?_
    refine w_aload_n dX6_init_15 rfl ?_
    refine w_iconst (v := 2) dX6_init_16 (by decide) ?_
    refine i_newQ (N := 2) (m := 10) (ws2 := [.inr (6, [.ref (h0.length + 1), .null, .null, .null, .null, .null]), .inr (5, [.int 0, .int 0, .int 0, .int 0, .ref (h0.length + 2), .ref (h0.length + 3), .ref (h0.length + 4), .ref (h0.length + 5), .ref (h0.length + 6), .ref (h0.length + 7), .ref (h0.length + 8), .ref (h0.length + 9)]), ia 8 (fun _ => 0), ia 8 (fun _ => 0), ia 8 (was0 8), ia 64 (fun _ => 0), ia 6 (fun _ => 0), ia 6 (hit0 6), ia 6 (fun _ => 0), ia 8 (fun _ => 0), qa 2 (fun _ => none)]) dX6_init_17 cl_X6_7 (by decide) (by decide) (by decide) rfl (by simp only [pRm]; omega) (by simp only [pRm]; omega) rfl ?_
    refine i_putF (j := 0) (ws2 := [.inr (6, [.ref (h0.length + 1), .ref (h0.length + 10), .null, .null, .null, .null]), .inr (5, [.int 0, .int 0, .int 0, .int 0, .ref (h0.length + 2), .ref (h0.length + 3), .ref (h0.length + 4), .ref (h0.length + 5), .ref (h0.length + 6), .ref (h0.length + 7), .ref (h0.length + 8), .ref (h0.length + 9)]), ia 8 (fun _ => 0), ia 8 (fun _ => 0), ia 8 (was0 8), ia 64 (fun _ => 0), ia 6 (fun _ => 0), ia 6 (hit0 6), ia 6 (fun _ => 0), ia 8 (fun _ => 0), qa 2 (fun _ => none)]) dX6_init_20 f_X6_16 rfl rfl (inT 244 (by decide +kernel) rfl) rfl (Nat.le_of_ble_eq_true rfl) (fun _ => rfl) (fun _ => rfl) rfl ?_
    refine w_aload_n dX6_init_23 rfl ?_
    refine i_new (m := 11) dX6_init_24 n_X6_20 (fun _ => rfl) rfl (by simp only [pRm]; omega) (by simp only [pRm]; omega) ?_
    refine w_dup dX6_init_27 rfl ?_
    refine i_call (mc := 1) (ms := 60) (ws2 := [.inr (6, [.ref (h0.length + 1), .ref (h0.length + 10), .null, .null, .null, .null]), .inr (5, [.int 0, .int 0, .int 0, .int 0, .ref (h0.length + 2), .ref (h0.length + 3), .ref (h0.length + 4), .ref (h0.length + 5), .ref (h0.length + 6), .ref (h0.length + 7), .ref (h0.length + 8), .ref (h0.length + 9)]), ia 8 (fun _ => 0), ia 8 (fun _ => 0), ia 8 (was0 8), ia 64 (fun _ => 0), ia 6 (fun _ => 0), ia 6 (hit0 6), ia 6 (fun _ => 0), ia 8 (fun _ => 0), qa 2 (fun _ => none), .inr (3, [.ref (h0.length + 12), .int 0]), ia 60 (fun _ => 0)]) dX6_init_28 k_X6_22 (pm_X3_init (by rw [List.length_append]; rfl)) (Nat.le_of_ble_eq_true rfl) (Nat.le_of_ble_eq_true rfl) (Nat.le_of_ble_eq_true rfl) rfl (by simp only [pRm]; omega) (by simp only [pRm]; omega) rfl ?_
    refine i_putF (j := 0) (ws2 := [.inr (6, [.ref (h0.length + 1), .ref (h0.length + 10), .ref (h0.length + 11), .null, .null, .null]), .inr (5, [.int 0, .int 0, .int 0, .int 0, .ref (h0.length + 2), .ref (h0.length + 3), .ref (h0.length + 4), .ref (h0.length + 5), .ref (h0.length + 6), .ref (h0.length + 7), .ref (h0.length + 8), .ref (h0.length + 9)]), ia 8 (fun _ => 0), ia 8 (fun _ => 0), ia 8 (was0 8), ia 64 (fun _ => 0), ia 6 (fun _ => 0), ia 6 (hit0 6), ia 6 (fun _ => 0), ia 8 (fun _ => 0), qa 2 (fun _ => none), .inr (3, [.ref (h0.length + 12), .int 0]), ia 60 (fun _ => 0)]) dX6_init_31 f_X6_23 rfl rfl (inT 245 (by decide +kernel) rfl) rfl (Nat.le_of_ble_eq_true rfl) (fun _ => rfl) (fun _ => rfl) rfl ?_
    refine w_aload_n dX6_init_34 rfl ?_
    refine i_new (m := 13) dX6_init_35 n_X6_27 (fun _ => rfl) rfl (by simp only [pRm]; omega) (by simp only [pRm]; omega) ?_
    refine w_dup dX6_init_38 rfl ?_
    refine i_call (mc := 10) (ms := 130) (ws2 := [.inr (6, [.ref (h0.length + 1), .ref (h0.length + 10), .ref (h0.length + 11), .null, .null, .null]), .inr (5, [.int 0, .int 0, .int 0, .int 0, .ref (h0.length + 2), .ref (h0.length + 3), .ref (h0.length + 4), .ref (h0.length + 5), .ref (h0.length + 6), .ref (h0.length + 7), .ref (h0.length + 8), .ref (h0.length + 9)]), ia 8 (fun _ => 0), ia 8 (fun _ => 0), ia 8 (was0 8), ia 64 (fun _ => 0), ia 6 (fun _ => 0), ia 6 (hit0 6), ia 6 (fun _ => 0), ia 8 (fun _ => 0), qa 2 (fun _ => none), .inr (3, [.ref (h0.length + 12), .int 0]), ia 60 (fun _ => 0), .inr (4, [.ref (h0.length + 14), .ref (h0.length + 23), .int 0, .int (-6), .int (-6), .int 0, .int (-6)]), .inr (5, [.int 0, .int 0, .int 0, .int 0, .ref (h0.length + 15), .ref (h0.length + 16), .ref (h0.length + 17), .ref (h0.length + 18), .ref (h0.length + 19), .ref (h0.length + 20), .ref (h0.length + 21), .ref (h0.length + 22)]), ia 8 (fun _ => 0), ia 8 (fun _ => 0), ia 8 (was0 8), ia 64 (fun _ => 0), ia 6 (fun _ => 0), ia 6 (hit0 6), ia 6 (fun _ => 0), ia 8 (fun _ => 0), .inr (0, [.int 0, .int 0, .int 0, .int 0])]) dX6_init_39 k_X6_29 (pm_X4_init (by rw [List.length_append]; rfl)) (Nat.le_of_ble_eq_true rfl) (Nat.le_of_ble_eq_true rfl) (Nat.le_of_ble_eq_true rfl) rfl (by simp only [pRm]; omega) (by simp only [pRm]; omega) rfl ?_
    refine i_putF (j := 0) (ws2 := [.inr (6, [.ref (h0.length + 1), .ref (h0.length + 10), .ref (h0.length + 11), .ref (h0.length + 13), .null, .null]), .inr (5, [.int 0, .int 0, .int 0, .int 0, .ref (h0.length + 2), .ref (h0.length + 3), .ref (h0.length + 4), .ref (h0.length + 5), .ref (h0.length + 6), .ref (h0.length + 7), .ref (h0.length + 8), .ref (h0.length + 9)]), ia 8 (fun _ => 0), ia 8 (fun _ => 0), ia 8 (was0 8), ia 64 (fun _ => 0), ia 6 (fun _ => 0), ia 6 (hit0 6), ia 6 (fun _ => 0), ia 8 (fun _ => 0), qa 2 (fun _ => none), .inr (3, [.ref (h0.length + 12), .int 0]), ia 60 (fun _ => 0), .inr (4, [.ref (h0.length + 14), .ref (h0.length + 23), .int 0, .int (-6), .int (-6), .int 0, .int (-6)]), .inr (5, [.int 0, .int 0, .int 0, .int 0, .ref (h0.length + 15), .ref (h0.length + 16), .ref (h0.length + 17), .ref (h0.length + 18), .ref (h0.length + 19), .ref (h0.length + 20), .ref (h0.length + 21), .ref (h0.length + 22)]), ia 8 (fun _ => 0), ia 8 (fun _ => 0), ia 8 (was0 8), ia 64 (fun _ => 0), ia 6 (fun _ => 0), ia 6 (hit0 6), ia 6 (fun _ => 0), ia 8 (fun _ => 0), .inr (0, [.int 0, .int 0, .int 0, .int 0])]) dX6_init_42 f_X6_30 rfl rfl (inT 246 (by decide +kernel) rfl) rfl (Nat.le_of_ble_eq_true rfl) (fun _ => rfl) (fun _ => rfl) rfl ?_
    refine w_aload_n dX6_init_45 rfl ?_
    refine i_new (m := 24) dX6_init_46 n_X6_34 (fun _ => rfl) rfl (by simp only [pRm]; omega) (by simp only [pRm]; omega) ?_
    refine w_dup dX6_init_49 rfl ?_
    refine i_call (mc := 1) (ms := 576) (ws2 := [.inr (6, [.ref (h0.length + 1), .ref (h0.length + 10), .ref (h0.length + 11), .ref (h0.length + 13), .null, .null]), .inr (5, [.int 0, .int 0, .int 0, .int 0, .ref (h0.length + 2), .ref (h0.length + 3), .ref (h0.length + 4), .ref (h0.length + 5), .ref (h0.length + 6), .ref (h0.length + 7), .ref (h0.length + 8), .ref (h0.length + 9)]), ia 8 (fun _ => 0), ia 8 (fun _ => 0), ia 8 (was0 8), ia 64 (fun _ => 0), ia 6 (fun _ => 0), ia 6 (hit0 6), ia 6 (fun _ => 0), ia 8 (fun _ => 0), qa 2 (fun _ => none), .inr (3, [.ref (h0.length + 12), .int 0]), ia 60 (fun _ => 0), .inr (4, [.ref (h0.length + 14), .ref (h0.length + 23), .int 0, .int (-6), .int (-6), .int 0, .int (-6)]), .inr (5, [.int 0, .int 0, .int 0, .int 0, .ref (h0.length + 15), .ref (h0.length + 16), .ref (h0.length + 17), .ref (h0.length + 18), .ref (h0.length + 19), .ref (h0.length + 20), .ref (h0.length + 21), .ref (h0.length + 22)]), ia 8 (fun _ => 0), ia 8 (fun _ => 0), ia 8 (was0 8), ia 64 (fun _ => 0), ia 6 (fun _ => 0), ia 6 (hit0 6), ia 6 (fun _ => 0), ia 8 (fun _ => 0), .inr (0, [.int 0, .int 0, .int 0, .int 0]), .inr (2, [.ref (h0.length + 25)]), ia 576 (fun _ => 0)]) dX6_init_50 k_X6_36 (pm_X2_init (by rw [List.length_append]; rfl)) (Nat.le_of_ble_eq_true rfl) (Nat.le_of_ble_eq_true rfl) (Nat.le_of_ble_eq_true rfl) rfl (by simp only [pRm]; omega) (by simp only [pRm]; omega) rfl ?_
    refine i_putF (j := 0) (ws2 := [.inr (6, [.ref (h0.length + 1), .ref (h0.length + 10), .ref (h0.length + 11), .ref (h0.length + 13), .ref (h0.length + 24), .null]), .inr (5, [.int 0, .int 0, .int 0, .int 0, .ref (h0.length + 2), .ref (h0.length + 3), .ref (h0.length + 4), .ref (h0.length + 5), .ref (h0.length + 6), .ref (h0.length + 7), .ref (h0.length + 8), .ref (h0.length + 9)]), ia 8 (fun _ => 0), ia 8 (fun _ => 0), ia 8 (was0 8), ia 64 (fun _ => 0), ia 6 (fun _ => 0), ia 6 (hit0 6), ia 6 (fun _ => 0), ia 8 (fun _ => 0), qa 2 (fun _ => none), .inr (3, [.ref (h0.length + 12), .int 0]), ia 60 (fun _ => 0), .inr (4, [.ref (h0.length + 14), .ref (h0.length + 23), .int 0, .int (-6), .int (-6), .int 0, .int (-6)]), .inr (5, [.int 0, .int 0, .int 0, .int 0, .ref (h0.length + 15), .ref (h0.length + 16), .ref (h0.length + 17), .ref (h0.length + 18), .ref (h0.length + 19), .ref (h0.length + 20), .ref (h0.length + 21), .ref (h0.length + 22)]), ia 8 (fun _ => 0), ia 8 (fun _ => 0), ia 8 (was0 8), ia 64 (fun _ => 0), ia 6 (fun _ => 0), ia 6 (hit0 6), ia 6 (fun _ => 0), ia 8 (fun _ => 0), .inr (0, [.int 0, .int 0, .int 0, .int 0]), .inr (2, [.ref (h0.length + 25)]), ia 576 (fun _ => 0)]) dX6_init_53 f_X6_37 rfl rfl (inT 247 (by decide +kernel) rfl) rfl (Nat.le_of_ble_eq_true rfl) (fun _ => rfl) (fun _ => rfl) rfl ?_
    refine w_aload_n dX6_init_56 rfl ?_
    refine i_new (m := 26) dX6_init_57 n_X6_41 (fun _ => rfl) rfl (by simp only [pRm]; omega) (by simp only [pRm]; omega) ?_
    refine w_dup dX6_init_60 rfl ?_
    refine i_call (mc := 1) (ms := 8) (ws2 := [.inr (6, [.ref (h0.length + 1), .ref (h0.length + 10), .ref (h0.length + 11), .ref (h0.length + 13), .ref (h0.length + 24), .null]), .inr (5, [.int 0, .int 0, .int 0, .int 0, .ref (h0.length + 2), .ref (h0.length + 3), .ref (h0.length + 4), .ref (h0.length + 5), .ref (h0.length + 6), .ref (h0.length + 7), .ref (h0.length + 8), .ref (h0.length + 9)]), ia 8 (fun _ => 0), ia 8 (fun _ => 0), ia 8 (was0 8), ia 64 (fun _ => 0), ia 6 (fun _ => 0), ia 6 (hit0 6), ia 6 (fun _ => 0), ia 8 (fun _ => 0), qa 2 (fun _ => none), .inr (3, [.ref (h0.length + 12), .int 0]), ia 60 (fun _ => 0), .inr (4, [.ref (h0.length + 14), .ref (h0.length + 23), .int 0, .int (-6), .int (-6), .int 0, .int (-6)]), .inr (5, [.int 0, .int 0, .int 0, .int 0, .ref (h0.length + 15), .ref (h0.length + 16), .ref (h0.length + 17), .ref (h0.length + 18), .ref (h0.length + 19), .ref (h0.length + 20), .ref (h0.length + 21), .ref (h0.length + 22)]), ia 8 (fun _ => 0), ia 8 (fun _ => 0), ia 8 (was0 8), ia 64 (fun _ => 0), ia 6 (fun _ => 0), ia 6 (hit0 6), ia 6 (fun _ => 0), ia 8 (fun _ => 0), .inr (0, [.int 0, .int 0, .int 0, .int 0]), .inr (2, [.ref (h0.length + 25)]), ia 576 (fun _ => 0), .inr (1, [.ref (h0.length + 27), .int 0]), ia 8 (fun _ => 0)]) dX6_init_61 k_X6_43 (pm_X1_init (by rw [List.length_append]; rfl)) (Nat.le_of_ble_eq_true rfl) (Nat.le_of_ble_eq_true rfl) (Nat.le_of_ble_eq_true rfl) rfl (by simp only [pRm]; omega) (by simp only [pRm]; omega) rfl ?_
    refine i_putF (j := 0) (ws2 := [.inr (6, [.ref (h0.length + 1), .ref (h0.length + 10), .ref (h0.length + 11), .ref (h0.length + 13), .ref (h0.length + 24), .ref (h0.length + 26)]), .inr (5, [.int 0, .int 0, .int 0, .int 0, .ref (h0.length + 2), .ref (h0.length + 3), .ref (h0.length + 4), .ref (h0.length + 5), .ref (h0.length + 6), .ref (h0.length + 7), .ref (h0.length + 8), .ref (h0.length + 9)]), ia 8 (fun _ => 0), ia 8 (fun _ => 0), ia 8 (was0 8), ia 64 (fun _ => 0), ia 6 (fun _ => 0), ia 6 (hit0 6), ia 6 (fun _ => 0), ia 8 (fun _ => 0), qa 2 (fun _ => none), .inr (3, [.ref (h0.length + 12), .int 0]), ia 60 (fun _ => 0), .inr (4, [.ref (h0.length + 14), .ref (h0.length + 23), .int 0, .int (-6), .int (-6), .int 0, .int (-6)]), .inr (5, [.int 0, .int 0, .int 0, .int 0, .ref (h0.length + 15), .ref (h0.length + 16), .ref (h0.length + 17), .ref (h0.length + 18), .ref (h0.length + 19), .ref (h0.length + 20), .ref (h0.length + 21), .ref (h0.length + 22)]), ia 8 (fun _ => 0), ia 8 (fun _ => 0), ia 8 (was0 8), ia 64 (fun _ => 0), ia 6 (fun _ => 0), ia 6 (hit0 6), ia 6 (fun _ => 0), ia 8 (fun _ => 0), .inr (0, [.int 0, .int 0, .int 0, .int 0]), .inr (2, [.ref (h0.length + 25)]), ia 576 (fun _ => 0), .inr (1, [.ref (h0.length + 27), .int 0]), ia 8 (fun _ => 0)]) dX6_init_64 f_X6_44 rfl rfl (inT 248 (by decide +kernel) rfl) rfl (Nat.le_of_ble_eq_true rfl) (fun _ => rfl) (fun _ => rfl) rfl ?_
    exact w_vret dX6_init_67 rfl rfl (by simp only [List.length_append]; rfl) (Nat.le_of_ble_eq_true rfl)
  exact key [] rfl

def bk0 (k : Nat) : Nat → Int32 := iter (fun i f => upd f (16 + nI i : Int32).toNatClampNeg (-6)) k (fun _ => 0)
def M0 : MS := (bk0 8, fun _ => 0, fun _ => 0, hit0 6, 0, fun _ => 0, 0, fun _ => 0, 0, 0, 0, 0, 0, fun _ => 0, fun _ => 0, fun _ => 0, fun _ => 0)
theorem vin_16 {i k : Nat} (h : i + (k + 1) = 8) : vp_in ((16 : Int32) + nI i) 96 := by
  rw [show (16 : Int32) = nI 16 from rfl, nI_add]
  exact vp_in_nI (by omega) (by decide)
set_option maxRecDepth 100000 in
set_option maxHeartbeats 4000000 in
theorem pm_X7_init {l : Launch} {D : va_G} : PM l D YX7_init 1 [.ref 28] ((XH w0 (fun _ => none) (fun _ => 0) 0 w0 0 (-6) (-6) 0 (-6) 0 0 0 0 (fun _ => 0) (fun _ => 0) 0 []) ++ [.inr (7, [.null, .null, .null, .null, .int 0, .null, .int 0, .null, .int 0, .int 0, .int 0, .int 0, .int 0, .null, .null, .null, .null])]) 10 1126 none ((XH w0 (fun _ => none) (fun _ => 0) 0 w0 0 (-6) (-6) 0 (-6) 0 0 0 0 (fun _ => 0) (fun _ => 0) 0 []) ++ mcs M0) := by
  have key : ∀ h0 : PH, h0.length = 28 → PM l D YX7_init 1 [.ref h0.length] (h0 ++ [.inr (7, [.null, .null, .null, .null, .int 0, .null, .int 0, .null, .int 0, .int 0, .int 0, .int 0, .int 0, .null, .null, .null, .null])]) 10 1126 none (h0 ++ [.inr (7, [.ref (h0.length + 1), .ref (h0.length + 2), .ref (h0.length + 3), .ref (h0.length + 4), .int 0, .ref (h0.length + 5), .int 0, .ref (h0.length + 6), .int 0, .int 0, .int 0, .int 0, .int 0, .ref (h0.length + 7), .ref (h0.length + 8), .ref (h0.length + 9), .ref (h0.length + 10)]), ia 96 (bk0 8), ia 96 (fun _ => 0), ia 6 (fun _ => 0), ia 6 (hit0 6), ia 16 (fun _ => 0), ia 60 (fun _ => 0), ia 576 (fun _ => 0), ia 8 (fun _ => 0), ia 260 (fun _ => 0), za 2 (fun _ => 0)]) := by
    intro h0 _
    refine pm_of2 (n0 := h0.length + 1) kb_YX7_init (by rw [List.length_append]; rfl) [some (.ref (h0.length + 0)), none] (fun _ => rfl) (fun _ => (Nat.le_of_ble_eq_true rfl)) ?_
    have loop2 : ∀ (k i : Nat), i + k = 6 → Wp l D YX7_init (pRm 1 10 1126) (h0.length + 1) (fun _ _ _ => True) (mE D (h0.length + 1) 10 1126 none (h0 ++ [.inr (7, [.ref (h0.length + 1), .ref (h0.length + 2), .ref (h0.length + 3), .ref (h0.length + 4), .int 0, .ref (h0.length + 5), .int 0, .ref (h0.length + 6), .int 0, .int 0, .int 0, .int 0, .int 0, .ref (h0.length + 7), .ref (h0.length + 8), .ref (h0.length + 9), .ref (h0.length + 10)]), ia 96 (bk0 8), ia 96 (fun _ => 0), ia 6 (fun _ => 0), ia 6 (hit0 6), ia 16 (fun _ => 0), ia 60 (fun _ => 0), ia 576 (fun _ => 0), ia 8 (fun _ => 0), ia 260 (fun _ => 0), za 2 (fun _ => 0)])) 112 [some (.ref (h0.length + 0)), some (.int (nI i))] [] (h0 ++ [.inr (7, [.ref (h0.length + 1), .ref (h0.length + 2), .ref (h0.length + 3), .ref (h0.length + 4), .int 0, .ref (h0.length + 5), .int 0, .ref (h0.length + 6), .int 0, .int 0, .int 0, .int 0, .int 0, .ref (h0.length + 7), .ref (h0.length + 8), .ref (h0.length + 9), .ref (h0.length + 10)]), ia 96 (bk0 8), ia 96 (fun _ => 0), ia 6 (fun _ => 0), ia 6 (hit0 i), ia 16 (fun _ => 0), ia 60 (fun _ => 0), ia 576 (fun _ => 0), ia 8 (fun _ => 0), ia 260 (fun _ => 0), za 2 (fun _ => 0)]) 1126 := by
      intro k
      induction k with
      | zero =>
        intro i hi
        refine w_iload_n dX7_init_112 rfl ?_
        refine w_bipush (v := 6) dX7_init_113 (by decide) ?_
        refine w_icmp_ge_t (tgt := 131) dX7_init_115 (by decide) (lp_x hi (by decide) rfl) ?_
        have hi : i = 6 := by omega
        subst hi
        exact w_vret dX7_init_131 rfl rfl (by simp only [List.length_append]; rfl) (Nat.le_of_ble_eq_true rfl)
      | succ k ih =>
        intro i hi
        refine w_iload_n dX7_init_112 rfl ?_
        refine w_bipush (v := 6) dX7_init_113 (by decide) ?_
        refine w_icmp_ge_f dX7_init_115 ⟨131, by decide⟩ (lp_g hi (by decide) rfl) ?_
        refine w_aload_n dX7_init_118 rfl ?_
        refine w_get dX7_init_119 f_X7_19 (app_at (k := 0) rfl) rfl ?_
        refine w_iload_n dX7_init_122 rfl ?_
        refine w_iconst (v := 1) dX7_init_123 (by decide) ?_
        refine i_ast (j := 4) (ws2 := [.inr (7, [.ref (h0.length + 1), .ref (h0.length + 2), .ref (h0.length + 3), .ref (h0.length + 4), .int 0, .ref (h0.length + 5), .int 0, .ref (h0.length + 6), .int 0, .int 0, .int 0, .int 0, .int 0, .ref (h0.length + 7), .ref (h0.length + 8), .ref (h0.length + 9), .ref (h0.length + 10)]), ia 96 (bk0 8), ia 96 (fun _ => 0), ia 6 (fun _ => 0), ia 6 (hit0 (i + 1)), ia 16 (fun _ => 0), ia 60 (fun _ => 0), ia 576 (fun _ => 0), ia 8 (fun _ => 0), ia 260 (fun _ => 0), za 2 (fun _ => 0)]) dX7_init_124 rfl (vin_8 hi (by decide)) rfl ?_
        refine w_iinc_1 (v := 1) dX7_init_125 (by decide) (Nat.le_of_ble_eq_true rfl) rfl ?_
        refine w_goto (tgt := 112) dX7_init_128 (by decide) ?_
        exact w_loc_1 (nI_1 i) (ih (i + 1) (by omega))
    have loop1 : ∀ (k i : Nat), i + k = 8 → Wp l D YX7_init (pRm 1 10 1126) (h0.length + 1) (fun _ _ _ => True) (mE D (h0.length + 1) 10 1126 none (h0 ++ [.inr (7, [.ref (h0.length + 1), .ref (h0.length + 2), .ref (h0.length + 3), .ref (h0.length + 4), .int 0, .ref (h0.length + 5), .int 0, .ref (h0.length + 6), .int 0, .int 0, .int 0, .int 0, .int 0, .ref (h0.length + 7), .ref (h0.length + 8), .ref (h0.length + 9), .ref (h0.length + 10)]), ia 96 (bk0 8), ia 96 (fun _ => 0), ia 6 (fun _ => 0), ia 6 (hit0 6), ia 16 (fun _ => 0), ia 60 (fun _ => 0), ia 576 (fun _ => 0), ia 8 (fun _ => 0), ia 260 (fun _ => 0), za 2 (fun _ => 0)])) 87 [some (.ref (h0.length + 0)), some (.int (nI i))] [] (h0 ++ [.inr (7, [.ref (h0.length + 1), .ref (h0.length + 2), .ref (h0.length + 3), .ref (h0.length + 4), .int 0, .ref (h0.length + 5), .int 0, .ref (h0.length + 6), .int 0, .int 0, .int 0, .int 0, .int 0, .ref (h0.length + 7), .ref (h0.length + 8), .ref (h0.length + 9), .ref (h0.length + 10)]), ia 96 (bk0 i), ia 96 (fun _ => 0), ia 6 (fun _ => 0), ia 6 (hit0 0), ia 16 (fun _ => 0), ia 60 (fun _ => 0), ia 576 (fun _ => 0), ia 8 (fun _ => 0), ia 260 (fun _ => 0), za 2 (fun _ => 0)]) 1126 := by
      intro k
      induction k with
      | zero =>
        intro i hi
        refine w_iload_n dX7_init_87 rfl ?_
        refine w_bipush (v := 8) dX7_init_88 (by decide) ?_
        refine w_icmp_ge_t (tgt := 110) dX7_init_90 (by decide) (lp_x hi (by decide) rfl) ?_
        have hi : i = 8 := by omega
        subst hi
        refine w_iconst (v := 0) dX7_init_110 (by decide) ?_
        refine w_istore_1 dX7_init_111 (Nat.le_of_ble_eq_true rfl) rfl ?_
        exact loop2 6 0 rfl
      | succ k ih =>
        intro i hi
        refine w_iload_n dX7_init_87 rfl ?_
        refine w_bipush (v := 8) dX7_init_88 (by decide) ?_
        refine w_icmp_ge_f dX7_init_90 ⟨110, by decide⟩ (lp_g hi (by decide) rfl) ?_
        refine w_aload_n dX7_init_93 rfl ?_
        refine w_get dX7_init_94 f_X7_7 (app_at (k := 0) rfl) rfl ?_
        refine w_bipush (v := 16) dX7_init_97 (by decide) ?_
        refine w_iload_n dX7_init_99 rfl ?_
        refine w_iadd dX7_init_100 ?_
        refine w_bipush (v := (-6)) dX7_init_101 (by decide) ?_
        refine i_ast (j := 1) (ws2 := [.inr (7, [.ref (h0.length + 1), .ref (h0.length + 2), .ref (h0.length + 3), .ref (h0.length + 4), .int 0, .ref (h0.length + 5), .int 0, .ref (h0.length + 6), .int 0, .int 0, .int 0, .int 0, .int 0, .ref (h0.length + 7), .ref (h0.length + 8), .ref (h0.length + 9), .ref (h0.length + 10)]), ia 96 (bk0 (i + 1)), ia 96 (fun _ => 0), ia 6 (fun _ => 0), ia 6 (hit0 0), ia 16 (fun _ => 0), ia 60 (fun _ => 0), ia 576 (fun _ => 0), ia 8 (fun _ => 0), ia 260 (fun _ => 0), za 2 (fun _ => 0)]) dX7_init_103 rfl (vin_16 hi) rfl ?_
        refine w_iinc_1 (v := 1) dX7_init_104 (by decide) (Nat.le_of_ble_eq_true rfl) rfl ?_
        refine w_goto (tgt := 87) dX7_init_107 (by decide) ?_
        exact w_loc_1 (nI_1 i) (ih (i + 1) (by omega))
    refine w_aload_n dX7_init_0 rfl ?_
    refine w_objInit dX7_init_1 o_X7_1 (Nat.le_of_ble_eq_true rfl) (Nat.le_of_ble_eq_true rfl) (Nat.le_of_ble_eq_true rfl) ?_
    refine w_aload_n dX7_init_4 rfl ?_
    refine w_bipush (v := 96) dX7_init_5 (by decide) ?_
    refine i_newI (N := 96) (m := 1) (ws2 := [.inr (7, [.null, .null, .null, .null, .int 0, .null, .int 0, .null, .int 0, .int 0, .int 0, .int 0, .int 0, .null, .null, .null, .null]), ia 96 (fun _ => 0)]) dX7_init_7 (by decide) (by decide) (by decide) rfl (by simp only [pRm]; omega) (by simp only [pRm]; omega) rfl ?_
    refine i_putF (j := 0) (ws2 := [.inr (7, [.ref (h0.length + 1), .null, .null, .null, .int 0, .null, .int 0, .null, .int 0, .int 0, .int 0, .int 0, .int 0, .null, .null, .null, .null]), ia 96 (fun _ => 0)]) dX7_init_9 f_X7_7 rfl rfl (inT 641 (by decide +kernel) rfl) rfl (Nat.le_of_ble_eq_true rfl) (fun _ => rfl) (fun _ => rfl) rfl ?_
    refine w_aload_n dX7_init_12 rfl ?_
    refine w_bipush (v := 96) dX7_init_13 (by decide) ?_
    refine i_newI (N := 96) (m := 2) (ws2 := [.inr (7, [.ref (h0.length + 1), .null, .null, .null, .int 0, .null, .int 0, .null, .int 0, .int 0, .int 0, .int 0, .int 0, .null, .null, .null, .null]), ia 96 (fun _ => 0), ia 96 (fun _ => 0)]) dX7_init_15 (by decide) (by decide) (by decide) rfl (by simp only [pRm]; omega) (by simp only [pRm]; omega) rfl ?_
    refine i_putF (j := 0) (ws2 := [.inr (7, [.ref (h0.length + 1), .ref (h0.length + 2), .null, .null, .int 0, .null, .int 0, .null, .int 0, .int 0, .int 0, .int 0, .int 0, .null, .null, .null, .null]), ia 96 (fun _ => 0), ia 96 (fun _ => 0)]) dX7_init_17 f_X7_13 rfl rfl (inT 642 (by decide +kernel) rfl) rfl (Nat.le_of_ble_eq_true rfl) (fun _ => rfl) (fun _ => rfl) rfl ?_
    refine w_aload_n dX7_init_20 rfl ?_
    refine w_bipush (v := 6) dX7_init_21 (by decide) ?_
    refine i_newI (N := 6) (m := 3) (ws2 := [.inr (7, [.ref (h0.length + 1), .ref (h0.length + 2), .null, .null, .int 0, .null, .int 0, .null, .int 0, .int 0, .int 0, .int 0, .int 0, .null, .null, .null, .null]), ia 96 (fun _ => 0), ia 96 (fun _ => 0), ia 6 (fun _ => 0)]) dX7_init_23 (by decide) (by decide) (by decide) rfl (by simp only [pRm]; omega) (by simp only [pRm]; omega) rfl ?_
    refine i_putF (j := 0) (ws2 := [.inr (7, [.ref (h0.length + 1), .ref (h0.length + 2), .ref (h0.length + 3), .null, .int 0, .null, .int 0, .null, .int 0, .int 0, .int 0, .int 0, .int 0, .null, .null, .null, .null]), ia 96 (fun _ => 0), ia 96 (fun _ => 0), ia 6 (fun _ => 0)]) dX7_init_25 f_X7_16 rfl rfl (inT 643 (by decide +kernel) rfl) rfl (Nat.le_of_ble_eq_true rfl) (fun _ => rfl) (fun _ => rfl) rfl ?_
    refine w_aload_n dX7_init_28 rfl ?_
    refine w_bipush (v := 6) dX7_init_29 (by decide) ?_
    refine i_newI (N := 6) (m := 4) (ws2 := [.inr (7, [.ref (h0.length + 1), .ref (h0.length + 2), .ref (h0.length + 3), .null, .int 0, .null, .int 0, .null, .int 0, .int 0, .int 0, .int 0, .int 0, .null, .null, .null, .null]), ia 96 (fun _ => 0), ia 96 (fun _ => 0), ia 6 (fun _ => 0), ia 6 (fun _ => 0)]) dX7_init_31 (by decide) (by decide) (by decide) rfl (by simp only [pRm]; omega) (by simp only [pRm]; omega) rfl ?_
    refine i_putF (j := 0) (ws2 := [.inr (7, [.ref (h0.length + 1), .ref (h0.length + 2), .ref (h0.length + 3), .ref (h0.length + 4), .int 0, .null, .int 0, .null, .int 0, .int 0, .int 0, .int 0, .int 0, .null, .null, .null, .null]), ia 96 (fun _ => 0), ia 96 (fun _ => 0), ia 6 (fun _ => 0), ia 6 (fun _ => 0)]) dX7_init_33 f_X7_19 rfl rfl (inT 644 (by decide +kernel) rfl) rfl (Nat.le_of_ble_eq_true rfl) (fun _ => rfl) (fun _ => rfl) rfl ?_
    refine w_aload_n dX7_init_36 rfl ?_
    refine w_bipush (v := 16) dX7_init_37 (by decide) ?_
    refine i_newI (N := 16) (m := 5) (ws2 := [.inr (7, [.ref (h0.length + 1), .ref (h0.length + 2), .ref (h0.length + 3), .ref (h0.length + 4), .int 0, .null, .int 0, .null, .int 0, .int 0, .int 0, .int 0, .int 0, .null, .null, .null, .null]), ia 96 (fun _ => 0), ia 96 (fun _ => 0), ia 6 (fun _ => 0), ia 6 (fun _ => 0), ia 16 (fun _ => 0)]) dX7_init_39 (by decide) (by decide) (by decide) rfl (by simp only [pRm]; omega) (by simp only [pRm]; omega) rfl ?_
    refine i_putF (j := 0) (ws2 := [.inr (7, [.ref (h0.length + 1), .ref (h0.length + 2), .ref (h0.length + 3), .ref (h0.length + 4), .int 0, .ref (h0.length + 5), .int 0, .null, .int 0, .int 0, .int 0, .int 0, .int 0, .null, .null, .null, .null]), ia 96 (fun _ => 0), ia 96 (fun _ => 0), ia 6 (fun _ => 0), ia 6 (fun _ => 0), ia 16 (fun _ => 0)]) dX7_init_41 f_X7_22 rfl rfl (inT 646 (by decide +kernel) rfl) rfl (Nat.le_of_ble_eq_true rfl) (fun _ => rfl) (fun _ => rfl) rfl ?_
    refine w_aload_n dX7_init_44 rfl ?_
    refine w_bipush (v := 60) dX7_init_45 (by decide) ?_
    refine i_newI (N := 60) (m := 6) (ws2 := [.inr (7, [.ref (h0.length + 1), .ref (h0.length + 2), .ref (h0.length + 3), .ref (h0.length + 4), .int 0, .ref (h0.length + 5), .int 0, .null, .int 0, .int 0, .int 0, .int 0, .int 0, .null, .null, .null, .null]), ia 96 (fun _ => 0), ia 96 (fun _ => 0), ia 6 (fun _ => 0), ia 6 (fun _ => 0), ia 16 (fun _ => 0), ia 60 (fun _ => 0)]) dX7_init_47 (by decide) (by decide) (by decide) rfl (by simp only [pRm]; omega) (by simp only [pRm]; omega) rfl ?_
    refine i_putF (j := 0) (ws2 := [.inr (7, [.ref (h0.length + 1), .ref (h0.length + 2), .ref (h0.length + 3), .ref (h0.length + 4), .int 0, .ref (h0.length + 5), .int 0, .ref (h0.length + 6), .int 0, .int 0, .int 0, .int 0, .int 0, .null, .null, .null, .null]), ia 96 (fun _ => 0), ia 96 (fun _ => 0), ia 6 (fun _ => 0), ia 6 (fun _ => 0), ia 16 (fun _ => 0), ia 60 (fun _ => 0)]) dX7_init_49 f_X7_25 rfl rfl (inT 648 (by decide +kernel) rfl) rfl (Nat.le_of_ble_eq_true rfl) (fun _ => rfl) (fun _ => rfl) rfl ?_
    refine w_aload_n dX7_init_52 rfl ?_
    refine w_sipush (v := 576) dX7_init_53 (by decide) ?_
    refine i_newI (N := 576) (m := 7) (ws2 := [.inr (7, [.ref (h0.length + 1), .ref (h0.length + 2), .ref (h0.length + 3), .ref (h0.length + 4), .int 0, .ref (h0.length + 5), .int 0, .ref (h0.length + 6), .int 0, .int 0, .int 0, .int 0, .int 0, .null, .null, .null, .null]), ia 96 (fun _ => 0), ia 96 (fun _ => 0), ia 6 (fun _ => 0), ia 6 (fun _ => 0), ia 16 (fun _ => 0), ia 60 (fun _ => 0), ia 576 (fun _ => 0)]) dX7_init_56 (by decide) (by decide) (by decide) rfl (by simp only [pRm]; omega) (by simp only [pRm]; omega) rfl ?_
    refine i_putF (j := 0) (ws2 := [.inr (7, [.ref (h0.length + 1), .ref (h0.length + 2), .ref (h0.length + 3), .ref (h0.length + 4), .int 0, .ref (h0.length + 5), .int 0, .ref (h0.length + 6), .int 0, .int 0, .int 0, .int 0, .int 0, .ref (h0.length + 7), .null, .null, .null]), ia 96 (fun _ => 0), ia 96 (fun _ => 0), ia 6 (fun _ => 0), ia 6 (fun _ => 0), ia 16 (fun _ => 0), ia 60 (fun _ => 0), ia 576 (fun _ => 0)]) dX7_init_58 f_X7_28 rfl rfl (inT 654 (by decide +kernel) rfl) rfl (Nat.le_of_ble_eq_true rfl) (fun _ => rfl) (fun _ => rfl) rfl ?_
    refine w_aload_n dX7_init_61 rfl ?_
    refine w_bipush (v := 8) dX7_init_62 (by decide) ?_
    refine i_newI (N := 8) (m := 8) (ws2 := [.inr (7, [.ref (h0.length + 1), .ref (h0.length + 2), .ref (h0.length + 3), .ref (h0.length + 4), .int 0, .ref (h0.length + 5), .int 0, .ref (h0.length + 6), .int 0, .int 0, .int 0, .int 0, .int 0, .ref (h0.length + 7), .null, .null, .null]), ia 96 (fun _ => 0), ia 96 (fun _ => 0), ia 6 (fun _ => 0), ia 6 (fun _ => 0), ia 16 (fun _ => 0), ia 60 (fun _ => 0), ia 576 (fun _ => 0), ia 8 (fun _ => 0)]) dX7_init_64 (by decide) (by decide) (by decide) rfl (by simp only [pRm]; omega) (by simp only [pRm]; omega) rfl ?_
    refine i_putF (j := 0) (ws2 := [.inr (7, [.ref (h0.length + 1), .ref (h0.length + 2), .ref (h0.length + 3), .ref (h0.length + 4), .int 0, .ref (h0.length + 5), .int 0, .ref (h0.length + 6), .int 0, .int 0, .int 0, .int 0, .int 0, .ref (h0.length + 7), .ref (h0.length + 8), .null, .null]), ia 96 (fun _ => 0), ia 96 (fun _ => 0), ia 6 (fun _ => 0), ia 6 (fun _ => 0), ia 16 (fun _ => 0), ia 60 (fun _ => 0), ia 576 (fun _ => 0), ia 8 (fun _ => 0)]) dX7_init_66 f_X7_31 rfl rfl (inT 655 (by decide +kernel) rfl) rfl (Nat.le_of_ble_eq_true rfl) (fun _ => rfl) (fun _ => rfl) rfl ?_
    refine w_aload_n dX7_init_69 rfl ?_
    refine w_sipush (v := 260) dX7_init_70 (by decide) ?_
    refine i_newI (N := 260) (m := 9) (ws2 := [.inr (7, [.ref (h0.length + 1), .ref (h0.length + 2), .ref (h0.length + 3), .ref (h0.length + 4), .int 0, .ref (h0.length + 5), .int 0, .ref (h0.length + 6), .int 0, .int 0, .int 0, .int 0, .int 0, .ref (h0.length + 7), .ref (h0.length + 8), .null, .null]), ia 96 (fun _ => 0), ia 96 (fun _ => 0), ia 6 (fun _ => 0), ia 6 (fun _ => 0), ia 16 (fun _ => 0), ia 60 (fun _ => 0), ia 576 (fun _ => 0), ia 8 (fun _ => 0), ia 260 (fun _ => 0)]) dX7_init_73 (by decide) (by decide) (by decide) rfl (by simp only [pRm]; omega) (by simp only [pRm]; omega) rfl ?_
    refine i_putF (j := 0) (ws2 := [.inr (7, [.ref (h0.length + 1), .ref (h0.length + 2), .ref (h0.length + 3), .ref (h0.length + 4), .int 0, .ref (h0.length + 5), .int 0, .ref (h0.length + 6), .int 0, .int 0, .int 0, .int 0, .int 0, .ref (h0.length + 7), .ref (h0.length + 8), .ref (h0.length + 9), .null]), ia 96 (fun _ => 0), ia 96 (fun _ => 0), ia 6 (fun _ => 0), ia 6 (fun _ => 0), ia 16 (fun _ => 0), ia 60 (fun _ => 0), ia 576 (fun _ => 0), ia 8 (fun _ => 0), ia 260 (fun _ => 0)]) dX7_init_75 f_X7_34 rfl rfl (inT 656 (by decide +kernel) rfl) rfl (Nat.le_of_ble_eq_true rfl) (fun _ => rfl) (fun _ => rfl) rfl ?_
    refine w_aload_n dX7_init_78 rfl ?_
    refine w_iconst (v := 2) dX7_init_79 (by decide) ?_
    refine i_newZ (N := 2) (m := 10) (ws2 := [.inr (7, [.ref (h0.length + 1), .ref (h0.length + 2), .ref (h0.length + 3), .ref (h0.length + 4), .int 0, .ref (h0.length + 5), .int 0, .ref (h0.length + 6), .int 0, .int 0, .int 0, .int 0, .int 0, .ref (h0.length + 7), .ref (h0.length + 8), .ref (h0.length + 9), .null]), ia 96 (fun _ => 0), ia 96 (fun _ => 0), ia 6 (fun _ => 0), ia 6 (fun _ => 0), ia 16 (fun _ => 0), ia 60 (fun _ => 0), ia 576 (fun _ => 0), ia 8 (fun _ => 0), ia 260 (fun _ => 0), za 2 (fun _ => 0)]) dX7_init_80 (by decide) (by decide) (by decide) rfl (by simp only [pRm]; omega) (by simp only [pRm]; omega) rfl ?_
    refine i_putF (j := 0) (ws2 := [.inr (7, [.ref (h0.length + 1), .ref (h0.length + 2), .ref (h0.length + 3), .ref (h0.length + 4), .int 0, .ref (h0.length + 5), .int 0, .ref (h0.length + 6), .int 0, .int 0, .int 0, .int 0, .int 0, .ref (h0.length + 7), .ref (h0.length + 8), .ref (h0.length + 9), .ref (h0.length + 10)]), ia 96 (fun _ => 0), ia 96 (fun _ => 0), ia 6 (fun _ => 0), ia 6 (fun _ => 0), ia 16 (fun _ => 0), ia 60 (fun _ => 0), ia 576 (fun _ => 0), ia 8 (fun _ => 0), ia 260 (fun _ => 0), za 2 (fun _ => 0)]) dX7_init_82 f_X7_37 rfl rfl (inT 657 (by decide +kernel) rfl) rfl (Nat.le_of_ble_eq_true rfl) (fun _ => rfl) (fun _ => rfl) rfl ?_
    refine w_iconst (v := 0) dX7_init_85 (by decide) ?_
    refine w_istore_1 dX7_init_86 (Nat.le_of_ble_eq_true rfl) rfl ?_
    exact loop1 8 0 rfl
  exact key (XH w0 (fun _ => none) (fun _ => 0) 0 w0 0 (-6) (-6) 0 (-6) 0 0 0 0 (fun _ => 0) (fun _ => 0) 0 []) rfl
end
