section
-- ===== PART A: goes FIRST, ahead of the names: the tables' words, and 'selects' of the private methods out of them =====
/-- a private method of a class that the tables say can be made, by its rows of tables_1 -/
def lw_okq (q : MethodName × Nat) : Prop := (q.1.cls ≠ "java/lang/invoke/MethodHandle" ∧ q.1.cls ≠ "java/lang/invoke/VarHandle") ∧ Cond.instantiable q.1.cls q.2 ∈ tables_1 ∧ Cond.privateMethod q.1 ∈ tables_1 ∧ Cond.instanceMethod q.1 ∈ tables_1
theorem lw_p0 : lw_okq (⟨"ClapBank$Reader", "step", "([BI)V"⟩, 10) := ⟨⟨by decide +kernel, by decide +kernel⟩, List.mem_of_getElem? (i := 185) (by decide +kernel), List.mem_of_getElem? (i := 425) (by decide +kernel), List.mem_of_getElem? (i := 426) (by decide +kernel)⟩
theorem lw_p1 : lw_okq (⟨"ClapBank$Reader", "readLine", "([BII)Z"⟩, 10) := ⟨⟨by decide +kernel, by decide +kernel⟩, List.mem_of_getElem? (i := 185) (by decide +kernel), List.mem_of_getElem? (i := 438) (by decide +kernel), List.mem_of_getElem? (i := 439) (by decide +kernel)⟩
theorem lw_p2 : lw_okq (⟨"ClapBank$Reader", "kindOf", "([BI)I"⟩, 10) := ⟨⟨by decide +kernel, by decide +kernel⟩, List.mem_of_getElem? (i := 185) (by decide +kernel), List.mem_of_getElem? (i := 442) (by decide +kernel), List.mem_of_getElem? (i := 443) (by decide +kernel)⟩
theorem lw_p3 : lw_okq (⟨"ClapBank$Reader", "spells", "([BLjava/lang/String;)Z"⟩, 10) := ⟨⟨by decide +kernel, by decide +kernel⟩, List.mem_of_getElem? (i := 185) (by decide +kernel), List.mem_of_getElem? (i := 465) (by decide +kernel), List.mem_of_getElem? (i := 466) (by decide +kernel)⟩
theorem lw_p4 : lw_okq (⟨"ClapBank$Reader", "refuse", "()Z"⟩, 10) := ⟨⟨by decide +kernel, by decide +kernel⟩, List.mem_of_getElem? (i := 185) (by decide +kernel), List.mem_of_getElem? (i := 517) (by decide +kernel), List.mem_of_getElem? (i := 518) (by decide +kernel)⟩
theorem lw_p5 : lw_okq (⟨"ClapBank$Reader", "isFull", "(I)Z"⟩, 10) := ⟨⟨by decide +kernel, by decide +kernel⟩, List.mem_of_getElem? (i := 185) (by decide +kernel), List.mem_of_getElem? (i := 521) (by decide +kernel), List.mem_of_getElem? (i := 522) (by decide +kernel)⟩
theorem lw_p6 : lw_okq (⟨"ClapBank$Reader", "note", "(I)V"⟩, 10) := ⟨⟨by decide +kernel, by decide +kernel⟩, List.mem_of_getElem? (i := 185) (by decide +kernel), List.mem_of_getElem? (i := 525) (by decide +kernel), List.mem_of_getElem? (i := 526) (by decide +kernel)⟩
theorem lw_p7 : lw_okq (⟨"ClapBank$Reader", "cannotBe", "(II)Z"⟩, 10) := ⟨⟨by decide +kernel, by decide +kernel⟩, List.mem_of_getElem? (i := 185) (by decide +kernel), List.mem_of_getElem? (i := 534) (by decide +kernel), List.mem_of_getElem? (i := 535) (by decide +kernel)⟩
theorem lw_p8 : lw_okq (⟨"ClapBank$Reader", "keepLine", "(I)V"⟩, 10) := ⟨⟨by decide +kernel, by decide +kernel⟩, List.mem_of_getElem? (i := 185) (by decide +kernel), List.mem_of_getElem? (i := 542) (by decide +kernel), List.mem_of_getElem? (i := 543) (by decide +kernel)⟩
theorem lw_p9 : lw_okq (⟨"ClapBank$Theatre", "tellWhole", "(I)I"⟩, 12) := ⟨⟨by decide +kernel, by decide +kernel⟩, List.mem_of_getElem? (i := 35) (by decide +kernel), List.mem_of_getElem? (i := 606) (by decide +kernel), List.mem_of_getElem? (i := 607) (by decide +kernel)⟩
theorem lw_p10 : lw_okq (⟨"ClapBank$Evening", "begin", "(LClapBank$Theatre;)V"⟩, 14) := ⟨⟨by decide +kernel, by decide +kernel⟩, List.mem_of_getElem? (i := 233) (by decide +kernel), List.mem_of_getElem? (i := 630) (by decide +kernel), List.mem_of_getElem? (i := 631) (by decide +kernel)⟩
theorem lw_p11 : lw_okq (⟨"ClapBank$Evening", "canBe", "(LClapBank$Book;I)Z"⟩, 14) := ⟨⟨by decide +kernel, by decide +kernel⟩, List.mem_of_getElem? (i := 233) (by decide +kernel), List.mem_of_getElem? (i := 636) (by decide +kernel), List.mem_of_getElem? (i := 637) (by decide +kernel)⟩
theorem lw_p12 : lw_okq (⟨"ClapBank$Evening", "canGive", "(II)Z"⟩, 14) := ⟨⟨by decide +kernel, by decide +kernel⟩, List.mem_of_getElem? (i := 233) (by decide +kernel), List.mem_of_getElem? (i := 641) (by decide +kernel), List.mem_of_getElem? (i := 642) (by decide +kernel)⟩
theorem lw_p13 : lw_okq (⟨"ClapBank$Evening", "act", "(LClapBank$Book;I)V"⟩, 14) := ⟨⟨by decide +kernel, by decide +kernel⟩, List.mem_of_getElem? (i := 233) (by decide +kernel), List.mem_of_getElem? (i := 661) (by decide +kernel), List.mem_of_getElem? (i := 662) (by decide +kernel)⟩
theorem lw_p14 : lw_okq (⟨"ClapBank$Evening", "clapFor", "(III)V"⟩, 14) := ⟨⟨by decide +kernel, by decide +kernel⟩, List.mem_of_getElem? (i := 233) (by decide +kernel), List.mem_of_getElem? (i := 665) (by decide +kernel), List.mem_of_getElem? (i := 666) (by decide +kernel)⟩
theorem lw_p15 : lw_okq (⟨"ClapBank$Evening", "give", "(II)V"⟩, 14) := ⟨⟨by decide +kernel, by decide +kernel⟩, List.mem_of_getElem? (i := 233) (by decide +kernel), List.mem_of_getElem? (i := 669) (by decide +kernel), List.mem_of_getElem? (i := 670) (by decide +kernel)⟩
def lw_privs_1 : List (MethodName × Nat) := [(⟨"ClapBank$Reader", "step", "([BI)V"⟩, 10), (⟨"ClapBank$Reader", "readLine", "([BII)Z"⟩, 10), (⟨"ClapBank$Reader", "kindOf", "([BI)I"⟩, 10), (⟨"ClapBank$Reader", "spells", "([BLjava/lang/String;)Z"⟩, 10), (⟨"ClapBank$Reader", "refuse", "()Z"⟩, 10), (⟨"ClapBank$Reader", "isFull", "(I)Z"⟩, 10), (⟨"ClapBank$Reader", "note", "(I)V"⟩, 10), (⟨"ClapBank$Reader", "cannotBe", "(II)Z"⟩, 10), (⟨"ClapBank$Reader", "keepLine", "(I)V"⟩, 10), (⟨"ClapBank$Theatre", "tellWhole", "(I)I"⟩, 12), (⟨"ClapBank$Evening", "begin", "(LClapBank$Theatre;)V"⟩, 14), (⟨"ClapBank$Evening", "canBe", "(LClapBank$Book;I)Z"⟩, 14), (⟨"ClapBank$Evening", "canGive", "(II)Z"⟩, 14), (⟨"ClapBank$Evening", "act", "(LClapBank$Book;I)V"⟩, 14), (⟨"ClapBank$Evening", "clapFor", "(III)V"⟩, 14), (⟨"ClapBank$Evening", "give", "(II)V"⟩, 14)]
theorem lw_r1 : ∀ q ∈ lw_privs_1, lw_okq q := List.forall_mem_cons.mpr ⟨lw_p0, List.forall_mem_cons.mpr ⟨lw_p1, List.forall_mem_cons.mpr ⟨lw_p2, List.forall_mem_cons.mpr ⟨lw_p3, List.forall_mem_cons.mpr ⟨lw_p4, List.forall_mem_cons.mpr ⟨lw_p5, List.forall_mem_cons.mpr ⟨lw_p6, List.forall_mem_cons.mpr ⟨lw_p7, List.forall_mem_cons.mpr ⟨lw_p8, List.forall_mem_cons.mpr ⟨lw_p9, List.forall_mem_cons.mpr ⟨lw_p10, List.forall_mem_cons.mpr ⟨lw_p11, List.forall_mem_cons.mpr ⟨lw_p12, List.forall_mem_cons.mpr ⟨lw_p13, List.forall_mem_cons.mpr ⟨lw_p14, List.forall_mem_cons.mpr ⟨lw_p15, fun _ h => absurd h List.not_mem_nil⟩⟩⟩⟩⟩⟩⟩⟩⟩⟩⟩⟩⟩⟩⟩⟩
theorem lw_p16 : lw_okq (⟨"ClapBank$Evening", "move", "(III)V"⟩, 14) := ⟨⟨by decide +kernel, by decide +kernel⟩, List.mem_of_getElem? (i := 233) (by decide +kernel), List.mem_of_getElem? (i := 673) (by decide +kernel), List.mem_of_getElem? (i := 674) (by decide +kernel)⟩
theorem lw_p17 : lw_okq (⟨"ClapBank$Evening", "passNight", "()V"⟩, 14) := ⟨⟨by decide +kernel, by decide +kernel⟩, List.mem_of_getElem? (i := 233) (by decide +kernel), List.mem_of_getElem? (i := 677) (by decide +kernel), List.mem_of_getElem? (i := 678) (by decide +kernel)⟩
theorem lw_p18 : lw_okq (⟨"ClapBank$Evening", "dine", "(I)V"⟩, 14) := ⟨⟨by decide +kernel, by decide +kernel⟩, List.mem_of_getElem? (i := 233) (by decide +kernel), List.mem_of_getElem? (i := 681) (by decide +kernel), List.mem_of_getElem? (i := 682) (by decide +kernel)⟩
theorem lw_p19 : lw_okq (⟨"ClapBank$Evening", "priceBehind", "(II)I"⟩, 14) := ⟨⟨by decide +kernel, by decide +kernel⟩, List.mem_of_getElem? (i := 233) (by decide +kernel), List.mem_of_getElem? (i := 689) (by decide +kernel), List.mem_of_getElem? (i := 690) (by decide +kernel)⟩
theorem lw_p20 : lw_okq (⟨"ClapBank$Evening", "grown", "(I)I"⟩, 14) := ⟨⟨by decide +kernel, by decide +kernel⟩, List.mem_of_getElem? (i := 233) (by decide +kernel), List.mem_of_getElem? (i := 693) (by decide +kernel), List.mem_of_getElem? (i := 694) (by decide +kernel)⟩
theorem lw_p21 : lw_okq (⟨"ClapBank", "reach", "(III)Z"⟩, 7) := ⟨⟨by decide +kernel, by decide +kernel⟩, List.mem_of_getElem? (i := 21) (by decide +kernel), List.mem_of_getElem? (i := 706) (by decide +kernel), List.mem_of_getElem? (i := 707) (by decide +kernel)⟩
theorem lw_p22 : lw_okq (⟨"ClapBank$Evening", "allSaved", "()I"⟩, 14) := ⟨⟨by decide +kernel, by decide +kernel⟩, List.mem_of_getElem? (i := 233) (by decide +kernel), List.mem_of_getElem? (i := 722) (by decide +kernel), List.mem_of_getElem? (i := 723) (by decide +kernel)⟩
theorem lw_p23 : lw_okq (⟨"ClapBank$Evening", "friday", "(I)I"⟩, 14) := ⟨⟨by decide +kernel, by decide +kernel⟩, List.mem_of_getElem? (i := 233) (by decide +kernel), List.mem_of_getElem? (i := 749) (by decide +kernel), List.mem_of_getElem? (i := 750) (by decide +kernel)⟩
theorem lw_p24 : lw_okq (⟨"ClapBank$Evening", "star", "(I)I"⟩, 14) := ⟨⟨by decide +kernel, by decide +kernel⟩, List.mem_of_getElem? (i := 233) (by decide +kernel), List.mem_of_getElem? (i := 753) (by decide +kernel), List.mem_of_getElem? (i := 754) (by decide +kernel)⟩
theorem lw_p25 : lw_okq (⟨"ClapBank$Evening", "pricesOf", "(I)I"⟩, 14) := ⟨⟨by decide +kernel, by decide +kernel⟩, List.mem_of_getElem? (i := 233) (by decide +kernel), List.mem_of_getElem? (i := 770) (by decide +kernel), List.mem_of_getElem? (i := 771) (by decide +kernel)⟩
theorem lw_p26 : lw_okq (⟨"ClapBank$Evening", "dearerThan", "(I)I"⟩, 14) := ⟨⟨by decide +kernel, by decide +kernel⟩, List.mem_of_getElem? (i := 233) (by decide +kernel), List.mem_of_getElem? (i := 774) (by decide +kernel), List.mem_of_getElem? (i := 775) (by decide +kernel)⟩
theorem lw_p27 : lw_okq (⟨"ClapBank$Feast", "tryGuests", "(LClapBank$Evening;III)V"⟩, 3) := ⟨⟨by decide +kernel, by decide +kernel⟩, List.mem_of_getElem? (i := 288) (by decide +kernel), List.mem_of_getElem? (i := 788) (by decide +kernel), List.mem_of_getElem? (i := 789) (by decide +kernel)⟩
theorem lw_p28 : lw_okq (⟨"ClapBank$Feast", "isBetter", "(III)Z"⟩, 3) := ⟨⟨by decide +kernel, by decide +kernel⟩, List.mem_of_getElem? (i := 288) (by decide +kernel), List.mem_of_getElem? (i := 794) (by decide +kernel), List.mem_of_getElem? (i := 795) (by decide +kernel)⟩
theorem lw_p29 : lw_okq (⟨"ClapBank", "lendFor", "(III)Z"⟩, 7) := ⟨⟨by decide +kernel, by decide +kernel⟩, List.mem_of_getElem? (i := 21) (by decide +kernel), List.mem_of_getElem? (i := 827) (by decide +kernel), List.mem_of_getElem? (i := 828) (by decide +kernel)⟩
theorem lw_p30 : lw_okq (⟨"ClapBank$Rounds", "cheapest", "()I"⟩, 7) := ⟨⟨by decide +kernel, by decide +kernel⟩, List.mem_of_getElem? (i := 304) (by decide +kernel), List.mem_of_getElem? (i := 841) (by decide +kernel), List.mem_of_getElem? (i := 842) (by decide +kernel)⟩
theorem lw_p31 : lw_okq (⟨"ClapBank$Rounds", "allAsks", "()I"⟩, 7) := ⟨⟨by decide +kernel, by decide +kernel⟩, List.mem_of_getElem? (i := 304) (by decide +kernel), List.mem_of_getElem? (i := 860) (by decide +kernel), List.mem_of_getElem? (i := 861) (by decide +kernel)⟩
def lw_privs_2 : List (MethodName × Nat) := [(⟨"ClapBank$Evening", "move", "(III)V"⟩, 14), (⟨"ClapBank$Evening", "passNight", "()V"⟩, 14), (⟨"ClapBank$Evening", "dine", "(I)V"⟩, 14), (⟨"ClapBank$Evening", "priceBehind", "(II)I"⟩, 14), (⟨"ClapBank$Evening", "grown", "(I)I"⟩, 14), (⟨"ClapBank", "reach", "(III)Z"⟩, 7), (⟨"ClapBank$Evening", "allSaved", "()I"⟩, 14), (⟨"ClapBank$Evening", "friday", "(I)I"⟩, 14), (⟨"ClapBank$Evening", "star", "(I)I"⟩, 14), (⟨"ClapBank$Evening", "pricesOf", "(I)I"⟩, 14), (⟨"ClapBank$Evening", "dearerThan", "(I)I"⟩, 14), (⟨"ClapBank$Feast", "tryGuests", "(LClapBank$Evening;III)V"⟩, 3), (⟨"ClapBank$Feast", "isBetter", "(III)Z"⟩, 3), (⟨"ClapBank", "lendFor", "(III)Z"⟩, 7), (⟨"ClapBank$Rounds", "cheapest", "()I"⟩, 7), (⟨"ClapBank$Rounds", "allAsks", "()I"⟩, 7)]
theorem lw_r2 : ∀ q ∈ lw_privs_2, lw_okq q := List.forall_mem_cons.mpr ⟨lw_p16, List.forall_mem_cons.mpr ⟨lw_p17, List.forall_mem_cons.mpr ⟨lw_p18, List.forall_mem_cons.mpr ⟨lw_p19, List.forall_mem_cons.mpr ⟨lw_p20, List.forall_mem_cons.mpr ⟨lw_p21, List.forall_mem_cons.mpr ⟨lw_p22, List.forall_mem_cons.mpr ⟨lw_p23, List.forall_mem_cons.mpr ⟨lw_p24, List.forall_mem_cons.mpr ⟨lw_p25, List.forall_mem_cons.mpr ⟨lw_p26, List.forall_mem_cons.mpr ⟨lw_p27, List.forall_mem_cons.mpr ⟨lw_p28, List.forall_mem_cons.mpr ⟨lw_p29, List.forall_mem_cons.mpr ⟨lw_p30, List.forall_mem_cons.mpr ⟨lw_p31, fun _ h => absurd h List.not_mem_nil⟩⟩⟩⟩⟩⟩⟩⟩⟩⟩⟩⟩⟩⟩⟩⟩
theorem lw_p32 : lw_okq (⟨"ClapBank$Hearing", "fill", "([IIIII)V"⟩, 9) := ⟨⟨by decide +kernel, by decide +kernel⟩, List.mem_of_getElem? (i := 335) (by decide +kernel), List.mem_of_getElem? (i := 891) (by decide +kernel), List.mem_of_getElem? (i := 892) (by decide +kernel)⟩
theorem lw_p33 : lw_okq (⟨"ClapBank$Hearing", "spread", "([IIII)V"⟩, 9) := ⟨⟨by decide +kernel, by decide +kernel⟩, List.mem_of_getElem? (i := 335) (by decide +kernel), List.mem_of_getElem? (i := 896) (by decide +kernel), List.mem_of_getElem? (i := 897) (by decide +kernel)⟩
theorem lw_p34 : lw_okq (⟨"ClapBank$Hearing", "roomBehind", "(I)I"⟩, 9) := ⟨⟨by decide +kernel, by decide +kernel⟩, List.mem_of_getElem? (i := 335) (by decide +kernel), List.mem_of_getElem? (i := 903) (by decide +kernel), List.mem_of_getElem? (i := 904) (by decide +kernel)⟩
theorem lw_p35 : lw_okq (⟨"ClapBank$Evening", "eatsWith", "(II)Z"⟩, 14) := ⟨⟨by decide +kernel, by decide +kernel⟩, List.mem_of_getElem? (i := 233) (by decide +kernel), List.mem_of_getElem? (i := 942) (by decide +kernel), List.mem_of_getElem? (i := 943) (by decide +kernel)⟩
theorem lw_p36 : lw_okq (⟨"ClapBankModel", "four", "(I)V"⟩, 50) := ⟨⟨by decide +kernel, by decide +kernel⟩, List.mem_of_getElem? (i := 981) (by decide +kernel), List.mem_of_getElem? (i := 1145) (by decide +kernel), List.mem_of_getElem? (i := 1146) (by decide +kernel)⟩
theorem lw_p37 : lw_okq (⟨"ClapBankModel", "is", "(II)Z"⟩, 50) := ⟨⟨by decide +kernel, by decide +kernel⟩, List.mem_of_getElem? (i := 981) (by decide +kernel), List.mem_of_getElem? (i := 1160) (by decide +kernel), List.mem_of_getElem? (i := 1161) (by decide +kernel)⟩
theorem lw_p38 : lw_okq (⟨"ClapBankModel", "readText", "(I)Z"⟩, 50) := ⟨⟨by decide +kernel, by decide +kernel⟩, List.mem_of_getElem? (i := 981) (by decide +kernel), List.mem_of_getElem? (i := 1164) (by decide +kernel), List.mem_of_getElem? (i := 1165) (by decide +kernel)⟩
theorem lw_p39 : lw_okq (⟨"ClapBankModel", "token", "()V"⟩, 50) := ⟨⟨by decide +kernel, by decide +kernel⟩, List.mem_of_getElem? (i := 981) (by decide +kernel), List.mem_of_getElem? (i := 1168) (by decide +kernel), List.mem_of_getElem? (i := 1169) (by decide +kernel)⟩
theorem lw_p40 : lw_okq (⟨"ClapBankModel", "see", "()I"⟩, 50) := ⟨⟨by decide +kernel, by decide +kernel⟩, List.mem_of_getElem? (i := 981) (by decide +kernel), List.mem_of_getElem? (i := 1172) (by decide +kernel), List.mem_of_getElem? (i := 1173) (by decide +kernel)⟩
theorem lw_p41 : lw_okq (⟨"ClapBankModel", "lines", "(I)Z"⟩, 50) := ⟨⟨by decide +kernel, by decide +kernel⟩, List.mem_of_getElem? (i := 981) (by decide +kernel), List.mem_of_getElem? (i := 1176) (by decide +kernel), List.mem_of_getElem? (i := 1177) (by decide +kernel)⟩
theorem lw_p42 : lw_okq (⟨"ClapBankModel", "theatreLine", "(JI)Z"⟩, 50) := ⟨⟨by decide +kernel, by decide +kernel⟩, List.mem_of_getElem? (i := 981) (by decide +kernel), List.mem_of_getElem? (i := 1180) (by decide +kernel), List.mem_of_getElem? (i := 1181) (by decide +kernel)⟩
theorem lw_p43 : lw_okq (⟨"ClapBankModel", "fails", "()Z"⟩, 50) := ⟨⟨by decide +kernel, by decide +kernel⟩, List.mem_of_getElem? (i := 981) (by decide +kernel), List.mem_of_getElem? (i := 1190) (by decide +kernel), List.mem_of_getElem? (i := 1191) (by decide +kernel)⟩
theorem lw_p44 : lw_okq (⟨"ClapBankModel", "full", "(III)V"⟩, 50) := ⟨⟨by decide +kernel, by decide +kernel⟩, List.mem_of_getElem? (i := 981) (by decide +kernel), List.mem_of_getElem? (i := 1194) (by decide +kernel), List.mem_of_getElem? (i := 1195) (by decide +kernel)⟩
theorem lw_p45 : lw_okq (⟨"ClapBankModel", "later", "(II)V"⟩, 50) := ⟨⟨by decide +kernel, by decide +kernel⟩, List.mem_of_getElem? (i := 981) (by decide +kernel), List.mem_of_getElem? (i := 1198) (by decide +kernel), List.mem_of_getElem? (i := 1199) (by decide +kernel)⟩
theorem lw_p46 : lw_okq (⟨"ClapBankModel", "take", "(III)Z"⟩, 50) := ⟨⟨by decide +kernel, by decide +kernel⟩, List.mem_of_getElem? (i := 981) (by decide +kernel), List.mem_of_getElem? (i := 1202) (by decide +kernel), List.mem_of_getElem? (i := 1203) (by decide +kernel)⟩
theorem lw_p47 : lw_okq (⟨"ClapBankModel", "takeBut", "(IIII)Z"⟩, 50) := ⟨⟨by decide +kernel, by decide +kernel⟩, List.mem_of_getElem? (i := 981) (by decide +kernel), List.mem_of_getElem? (i := 1206) (by decide +kernel), List.mem_of_getElem? (i := 1207) (by decide +kernel)⟩
def lw_privs_3 : List (MethodName × Nat) := [(⟨"ClapBank$Hearing", "fill", "([IIIII)V"⟩, 9), (⟨"ClapBank$Hearing", "spread", "([IIII)V"⟩, 9), (⟨"ClapBank$Hearing", "roomBehind", "(I)I"⟩, 9), (⟨"ClapBank$Evening", "eatsWith", "(II)Z"⟩, 14), (⟨"ClapBankModel", "four", "(I)V"⟩, 50), (⟨"ClapBankModel", "is", "(II)Z"⟩, 50), (⟨"ClapBankModel", "readText", "(I)Z"⟩, 50), (⟨"ClapBankModel", "token", "()V"⟩, 50), (⟨"ClapBankModel", "see", "()I"⟩, 50), (⟨"ClapBankModel", "lines", "(I)Z"⟩, 50), (⟨"ClapBankModel", "theatreLine", "(JI)Z"⟩, 50), (⟨"ClapBankModel", "fails", "()Z"⟩, 50), (⟨"ClapBankModel", "full", "(III)V"⟩, 50), (⟨"ClapBankModel", "later", "(II)V"⟩, 50), (⟨"ClapBankModel", "take", "(III)Z"⟩, 50), (⟨"ClapBankModel", "takeBut", "(IIII)Z"⟩, 50)]
theorem lw_r3 : ∀ q ∈ lw_privs_3, lw_okq q := List.forall_mem_cons.mpr ⟨lw_p32, List.forall_mem_cons.mpr ⟨lw_p33, List.forall_mem_cons.mpr ⟨lw_p34, List.forall_mem_cons.mpr ⟨lw_p35, List.forall_mem_cons.mpr ⟨lw_p36, List.forall_mem_cons.mpr ⟨lw_p37, List.forall_mem_cons.mpr ⟨lw_p38, List.forall_mem_cons.mpr ⟨lw_p39, List.forall_mem_cons.mpr ⟨lw_p40, List.forall_mem_cons.mpr ⟨lw_p41, List.forall_mem_cons.mpr ⟨lw_p42, List.forall_mem_cons.mpr ⟨lw_p43, List.forall_mem_cons.mpr ⟨lw_p44, List.forall_mem_cons.mpr ⟨lw_p45, List.forall_mem_cons.mpr ⟨lw_p46, List.forall_mem_cons.mpr ⟨lw_p47, fun _ h => absurd h List.not_mem_nil⟩⟩⟩⟩⟩⟩⟩⟩⟩⟩⟩⟩⟩⟩⟩⟩
theorem lw_p48 : lw_okq (⟨"ClapBankModel", "keep", "(IIII)V"⟩, 50) := ⟨⟨by decide +kernel, by decide +kernel⟩, List.mem_of_getElem? (i := 981) (by decide +kernel), List.mem_of_getElem? (i := 1210) (by decide +kernel), List.mem_of_getElem? (i := 1211) (by decide +kernel)⟩
theorem lw_p49 : lw_okq (⟨"ClapBankModel", "bookLine", "(JI)Z"⟩, 50) := ⟨⟨by decide +kernel, by decide +kernel⟩, List.mem_of_getElem? (i := 981) (by decide +kernel), List.mem_of_getElem? (i := 1217) (by decide +kernel), List.mem_of_getElem? (i := 1218) (by decide +kernel)⟩
theorem lw_p50 : lw_okq (⟨"ClapBankModel", "deedNumbers", "(I)Z"⟩, 50) := ⟨⟨by decide +kernel, by decide +kernel⟩, List.mem_of_getElem? (i := 981) (by decide +kernel), List.mem_of_getElem? (i := 1231) (by decide +kernel), List.mem_of_getElem? (i := 1232) (by decide +kernel)⟩
theorem lw_p51 : lw_okq (⟨"ClapBankModel", "darkLine", "(JI)Z"⟩, 50) := ⟨⟨by decide +kernel, by decide +kernel⟩, List.mem_of_getElem? (i := 981) (by decide +kernel), List.mem_of_getElem? (i := 1235) (by decide +kernel), List.mem_of_getElem? (i := 1236) (by decide +kernel)⟩
theorem lw_p52 : lw_okq (⟨"ClapBankModel", "store", "([III)V"⟩, 50) := ⟨⟨by decide +kernel, by decide +kernel⟩, List.mem_of_getElem? (i := 981) (by decide +kernel), List.mem_of_getElem? (i := 1240) (by decide +kernel), List.mem_of_getElem? (i := 1241) (by decide +kernel)⟩
theorem lw_p53 : lw_okq (⟨"ClapBankModel", "hand", "(I)Z"⟩, 50) := ⟨⟨by decide +kernel, by decide +kernel⟩, List.mem_of_getElem? (i := 981) (by decide +kernel), List.mem_of_getElem? (i := 1252) (by decide +kernel), List.mem_of_getElem? (i := 1253) (by decide +kernel)⟩
theorem lw_p54 : lw_okq (⟨"ClapBankModel", "of", "(I)I"⟩, 50) := ⟨⟨by decide +kernel, by decide +kernel⟩, List.mem_of_getElem? (i := 981) (by decide +kernel), List.mem_of_getElem? (i := 1256) (by decide +kernel), List.mem_of_getElem? (i := 1257) (by decide +kernel)⟩
theorem lw_p55 : lw_okq (⟨"ClapBankModel", "isPalm", "(I)Z"⟩, 50) := ⟨⟨by decide +kernel, by decide +kernel⟩, List.mem_of_getElem? (i := 981) (by decide +kernel), List.mem_of_getElem? (i := 1260) (by decide +kernel), List.mem_of_getElem? (i := 1261) (by decide +kernel)⟩
theorem lw_p56 : lw_okq (⟨"ClapBankModel", "isActor", "(I)Z"⟩, 50) := ⟨⟨by decide +kernel, by decide +kernel⟩, List.mem_of_getElem? (i := 981) (by decide +kernel), List.mem_of_getElem? (i := 1264) (by decide +kernel), List.mem_of_getElem? (i := 1265) (by decide +kernel)⟩
theorem lw_p57 : lw_okq (⟨"ClapBankModel", "hasBook", "(I)Z"⟩, 50) := ⟨⟨by decide +kernel, by decide +kernel⟩, List.mem_of_getElem? (i := 981) (by decide +kernel), List.mem_of_getElem? (i := 1272) (by decide +kernel), List.mem_of_getElem? (i := 1273) (by decide +kernel)⟩
theorem lw_p58 : lw_okq (⟨"ClapBankModel", "deeds", "()I"⟩, 50) := ⟨⟨by decide +kernel, by decide +kernel⟩, List.mem_of_getElem? (i := 981) (by decide +kernel), List.mem_of_getElem? (i := 1276) (by decide +kernel), List.mem_of_getElem? (i := 1277) (by decide +kernel)⟩
theorem lw_p59 : lw_okq (⟨"ClapBankModel", "deedOf", "(II)I"⟩, 50) := ⟨⟨by decide +kernel, by decide +kernel⟩, List.mem_of_getElem? (i := 981) (by decide +kernel), List.mem_of_getElem? (i := 1280) (by decide +kernel), List.mem_of_getElem? (i := 1281) (by decide +kernel)⟩
theorem lw_p60 : lw_okq (⟨"ClapBankModel", "play", "(I)I"⟩, 50) := ⟨⟨by decide +kernel, by decide +kernel⟩, List.mem_of_getElem? (i := 981) (by decide +kernel), List.mem_of_getElem? (i := 1288) (by decide +kernel), List.mem_of_getElem? (i := 1289) (by decide +kernel)⟩
theorem lw_p61 : lw_okq (⟨"ClapBankModel", "begin", "()V"⟩, 50) := ⟨⟨by decide +kernel, by decide +kernel⟩, List.mem_of_getElem? (i := 981) (by decide +kernel), List.mem_of_getElem? (i := 1292) (by decide +kernel), List.mem_of_getElem? (i := 1293) (by decide +kernel)⟩
theorem lw_p62 : lw_okq (⟨"ClapBankModel", "morning", "()V"⟩, 50) := ⟨⟨by decide +kernel, by decide +kernel⟩, List.mem_of_getElem? (i := 981) (by decide +kernel), List.mem_of_getElem? (i := 1296) (by decide +kernel), List.mem_of_getElem? (i := 1297) (by decide +kernel)⟩
theorem lw_p63 : lw_okq (⟨"ClapBankModel", "doesNext", "(I)Z"⟩, 50) := ⟨⟨by decide +kernel, by decide +kernel⟩, List.mem_of_getElem? (i := 981) (by decide +kernel), List.mem_of_getElem? (i := 1300) (by decide +kernel), List.mem_of_getElem? (i := 1301) (by decide +kernel)⟩
def lw_privs_4 : List (MethodName × Nat) := [(⟨"ClapBankModel", "keep", "(IIII)V"⟩, 50), (⟨"ClapBankModel", "bookLine", "(JI)Z"⟩, 50), (⟨"ClapBankModel", "deedNumbers", "(I)Z"⟩, 50), (⟨"ClapBankModel", "darkLine", "(JI)Z"⟩, 50), (⟨"ClapBankModel", "store", "([III)V"⟩, 50), (⟨"ClapBankModel", "hand", "(I)Z"⟩, 50), (⟨"ClapBankModel", "of", "(I)I"⟩, 50), (⟨"ClapBankModel", "isPalm", "(I)Z"⟩, 50), (⟨"ClapBankModel", "isActor", "(I)Z"⟩, 50), (⟨"ClapBankModel", "hasBook", "(I)Z"⟩, 50), (⟨"ClapBankModel", "deeds", "()I"⟩, 50), (⟨"ClapBankModel", "deedOf", "(II)I"⟩, 50), (⟨"ClapBankModel", "play", "(I)I"⟩, 50), (⟨"ClapBankModel", "begin", "()V"⟩, 50), (⟨"ClapBankModel", "morning", "()V"⟩, 50), (⟨"ClapBankModel", "doesNext", "(I)Z"⟩, 50)]
theorem lw_r4 : ∀ q ∈ lw_privs_4, lw_okq q := List.forall_mem_cons.mpr ⟨lw_p48, List.forall_mem_cons.mpr ⟨lw_p49, List.forall_mem_cons.mpr ⟨lw_p50, List.forall_mem_cons.mpr ⟨lw_p51, List.forall_mem_cons.mpr ⟨lw_p52, List.forall_mem_cons.mpr ⟨lw_p53, List.forall_mem_cons.mpr ⟨lw_p54, List.forall_mem_cons.mpr ⟨lw_p55, List.forall_mem_cons.mpr ⟨lw_p56, List.forall_mem_cons.mpr ⟨lw_p57, List.forall_mem_cons.mpr ⟨lw_p58, List.forall_mem_cons.mpr ⟨lw_p59, List.forall_mem_cons.mpr ⟨lw_p60, List.forall_mem_cons.mpr ⟨lw_p61, List.forall_mem_cons.mpr ⟨lw_p62, List.forall_mem_cons.mpr ⟨lw_p63, fun _ h => absurd h List.not_mem_nil⟩⟩⟩⟩⟩⟩⟩⟩⟩⟩⟩⟩⟩⟩⟩⟩
theorem lw_p64 : lw_okq (⟨"ClapBankModel", "does", "(I)Z"⟩, 50) := ⟨⟨by decide +kernel, by decide +kernel⟩, List.mem_of_getElem? (i := 981) (by decide +kernel), List.mem_of_getElem? (i := 1304) (by decide +kernel), List.mem_of_getElem? (i := 1305) (by decide +kernel)⟩
theorem lw_p65 : lw_okq (⟨"ClapBankModel", "clapsFor", "(III)Z"⟩, 50) := ⟨⟨by decide +kernel, by decide +kernel⟩, List.mem_of_getElem? (i := 981) (by decide +kernel), List.mem_of_getElem? (i := 1308) (by decide +kernel), List.mem_of_getElem? (i := 1309) (by decide +kernel)⟩
theorem lw_p66 : lw_okq (⟨"ClapBankModel", "isLiving", "(I)Z"⟩, 50) := ⟨⟨by decide +kernel, by decide +kernel⟩, List.mem_of_getElem? (i := 981) (by decide +kernel), List.mem_of_getElem? (i := 1312) (by decide +kernel), List.mem_of_getElem? (i := 1313) (by decide +kernel)⟩
theorem lw_p67 : lw_okq (⟨"ClapBankModel", "handsOf", "(I)I"⟩, 50) := ⟨⟨by decide +kernel, by decide +kernel⟩, List.mem_of_getElem? (i := 981) (by decide +kernel), List.mem_of_getElem? (i := 1319) (by decide +kernel), List.mem_of_getElem? (i := 1320) (by decide +kernel)⟩
theorem lw_p68 : lw_okq (⟨"ClapBankModel", "gets", "(II)V"⟩, 50) := ⟨⟨by decide +kernel, by decide +kernel⟩, List.mem_of_getElem? (i := 981) (by decide +kernel), List.mem_of_getElem? (i := 1323) (by decide +kernel), List.mem_of_getElem? (i := 1324) (by decide +kernel)⟩
theorem lw_p69 : lw_okq (⟨"ClapBankModel", "gives", "(IIIZ)Z"⟩, 50) := ⟨⟨by decide +kernel, by decide +kernel⟩, List.mem_of_getElem? (i := 981) (by decide +kernel), List.mem_of_getElem? (i := 1327) (by decide +kernel), List.mem_of_getElem? (i := 1328) (by decide +kernel)⟩
theorem lw_p70 : lw_okq (⟨"ClapBankModel", "hushes", "(III)Z"⟩, 50) := ⟨⟨by decide +kernel, by decide +kernel⟩, List.mem_of_getElem? (i := 981) (by decide +kernel), List.mem_of_getElem? (i := 1331) (by decide +kernel), List.mem_of_getElem? (i := 1332) (by decide +kernel)⟩
theorem lw_p71 : lw_okq (⟨"ClapBankModel", "night", "()V"⟩, 50) := ⟨⟨by decide +kernel, by decide +kernel⟩, List.mem_of_getElem? (i := 981) (by decide +kernel), List.mem_of_getElem? (i := 1335) (by decide +kernel), List.mem_of_getElem? (i := 1336) (by decide +kernel)⟩
theorem lw_p72 : lw_okq (⟨"ClapBankModel", "eatsNow", "(I)Z"⟩, 50) := ⟨⟨by decide +kernel, by decide +kernel⟩, List.mem_of_getElem? (i := 981) (by decide +kernel), List.mem_of_getElem? (i := 1339) (by decide +kernel), List.mem_of_getElem? (i := 1340) (by decide +kernel)⟩
theorem lw_p73 : lw_okq (⟨"ClapBankModel", "eats", "(II)I"⟩, 50) := ⟨⟨by decide +kernel, by decide +kernel⟩, List.mem_of_getElem? (i := 981) (by decide +kernel), List.mem_of_getElem? (i := 1343) (by decide +kernel), List.mem_of_getElem? (i := 1344) (by decide +kernel)⟩
theorem lw_p74 : lw_okq (⟨"ClapBankModel", "hungerOf", "(I)I"⟩, 50) := ⟨⟨by decide +kernel, by decide +kernel⟩, List.mem_of_getElem? (i := 981) (by decide +kernel), List.mem_of_getElem? (i := 1347) (by decide +kernel), List.mem_of_getElem? (i := 1348) (by decide +kernel)⟩
theorem lw_p75 : lw_okq (⟨"ClapBankModel", "layState", "(III)Z"⟩, 50) := ⟨⟨by decide +kernel, by decide +kernel⟩, List.mem_of_getElem? (i := 981) (by decide +kernel), List.mem_of_getElem? (i := 1357) (by decide +kernel), List.mem_of_getElem? (i := 1358) (by decide +kernel)⟩
theorem lw_p76 : lw_okq (⟨"ClapBankModel", "allSaved", "()I"⟩, 50) := ⟨⟨by decide +kernel, by decide +kernel⟩, List.mem_of_getElem? (i := 981) (by decide +kernel), List.mem_of_getElem? (i := 1361) (by decide +kernel), List.mem_of_getElem? (i := 1362) (by decide +kernel)⟩
theorem lw_p77 : lw_okq (⟨"ClapBankModel", "needOf", "(I)I"⟩, 50) := ⟨⟨by decide +kernel, by decide +kernel⟩, List.mem_of_getElem? (i := 981) (by decide +kernel), List.mem_of_getElem? (i := 1373) (by decide +kernel), List.mem_of_getElem? (i := 1374) (by decide +kernel)⟩
theorem lw_p78 : lw_okq (⟨"ClapBankModel", "friday", "(I)I"⟩, 50) := ⟨⟨by decide +kernel, by decide +kernel⟩, List.mem_of_getElem? (i := 981) (by decide +kernel), List.mem_of_getElem? (i := 1380) (by decide +kernel), List.mem_of_getElem? (i := 1381) (by decide +kernel)⟩
theorem lw_p79 : lw_okq (⟨"ClapBankModel", "star", "(I)I"⟩, 50) := ⟨⟨by decide +kernel, by decide +kernel⟩, List.mem_of_getElem? (i := 981) (by decide +kernel), List.mem_of_getElem? (i := 1384) (by decide +kernel), List.mem_of_getElem? (i := 1385) (by decide +kernel)⟩
def lw_privs_5 : List (MethodName × Nat) := [(⟨"ClapBankModel", "does", "(I)Z"⟩, 50), (⟨"ClapBankModel", "clapsFor", "(III)Z"⟩, 50), (⟨"ClapBankModel", "isLiving", "(I)Z"⟩, 50), (⟨"ClapBankModel", "handsOf", "(I)I"⟩, 50), (⟨"ClapBankModel", "gets", "(II)V"⟩, 50), (⟨"ClapBankModel", "gives", "(IIIZ)Z"⟩, 50), (⟨"ClapBankModel", "hushes", "(III)Z"⟩, 50), (⟨"ClapBankModel", "night", "()V"⟩, 50), (⟨"ClapBankModel", "eatsNow", "(I)Z"⟩, 50), (⟨"ClapBankModel", "eats", "(II)I"⟩, 50), (⟨"ClapBankModel", "hungerOf", "(I)I"⟩, 50), (⟨"ClapBankModel", "layState", "(III)Z"⟩, 50), (⟨"ClapBankModel", "allSaved", "()I"⟩, 50), (⟨"ClapBankModel", "needOf", "(I)I"⟩, 50), (⟨"ClapBankModel", "friday", "(I)I"⟩, 50), (⟨"ClapBankModel", "star", "(I)I"⟩, 50)]
theorem lw_r5 : ∀ q ∈ lw_privs_5, lw_okq q := List.forall_mem_cons.mpr ⟨lw_p64, List.forall_mem_cons.mpr ⟨lw_p65, List.forall_mem_cons.mpr ⟨lw_p66, List.forall_mem_cons.mpr ⟨lw_p67, List.forall_mem_cons.mpr ⟨lw_p68, List.forall_mem_cons.mpr ⟨lw_p69, List.forall_mem_cons.mpr ⟨lw_p70, List.forall_mem_cons.mpr ⟨lw_p71, List.forall_mem_cons.mpr ⟨lw_p72, List.forall_mem_cons.mpr ⟨lw_p73, List.forall_mem_cons.mpr ⟨lw_p74, List.forall_mem_cons.mpr ⟨lw_p75, List.forall_mem_cons.mpr ⟨lw_p76, List.forall_mem_cons.mpr ⟨lw_p77, List.forall_mem_cons.mpr ⟨lw_p78, List.forall_mem_cons.mpr ⟨lw_p79, fun _ h => absurd h List.not_mem_nil⟩⟩⟩⟩⟩⟩⟩⟩⟩⟩⟩⟩⟩⟩⟩⟩
theorem lw_p80 : lw_okq (⟨"ClapBankModel", "isDoomed", "(I)Z"⟩, 50) := ⟨⟨by decide +kernel, by decide +kernel⟩, List.mem_of_getElem? (i := 981) (by decide +kernel), List.mem_of_getElem? (i := 1392) (by decide +kernel), List.mem_of_getElem? (i := 1393) (by decide +kernel)⟩
theorem lw_p81 : lw_okq (⟨"ClapBankModel", "isInDanger", "(I)Z"⟩, 50) := ⟨⟨by decide +kernel, by decide +kernel⟩, List.mem_of_getElem? (i := 981) (by decide +kernel), List.mem_of_getElem? (i := 1396) (by decide +kernel), List.mem_of_getElem? (i := 1397) (by decide +kernel)⟩
theorem lw_p82 : lw_okq (⟨"ClapBankModel", "canFeed", "(I)Z"⟩, 50) := ⟨⟨by decide +kernel, by decide +kernel⟩, List.mem_of_getElem? (i := 981) (by decide +kernel), List.mem_of_getElem? (i := 1404) (by decide +kernel), List.mem_of_getElem? (i := 1405) (by decide +kernel)⟩
theorem lw_p83 : lw_okq (⟨"ClapBankModel", "leftOf", "(I)I"⟩, 50) := ⟨⟨by decide +kernel, by decide +kernel⟩, List.mem_of_getElem? (i := 981) (by decide +kernel), List.mem_of_getElem? (i := 1408) (by decide +kernel), List.mem_of_getElem? (i := 1409) (by decide +kernel)⟩
theorem lw_p84 : lw_okq (⟨"ClapBankModel", "layUsurer", "(III)Z"⟩, 50) := ⟨⟨by decide +kernel, by decide +kernel⟩, List.mem_of_getElem? (i := 981) (by decide +kernel), List.mem_of_getElem? (i := 1426) (by decide +kernel), List.mem_of_getElem? (i := 1427) (by decide +kernel)⟩
theorem lw_p85 : lw_okq (⟨"ClapBankModel", "usurers", "()I"⟩, 50) := ⟨⟨by decide +kernel, by decide +kernel⟩, List.mem_of_getElem? (i := 981) (by decide +kernel), List.mem_of_getElem? (i := 1430) (by decide +kernel), List.mem_of_getElem? (i := 1431) (by decide +kernel)⟩
theorem lw_p86 : lw_okq (⟨"ClapBankModel", "findAsks", "()V"⟩, 50) := ⟨⟨by decide +kernel, by decide +kernel⟩, List.mem_of_getElem? (i := 981) (by decide +kernel), List.mem_of_getElem? (i := 1434) (by decide +kernel), List.mem_of_getElem? (i := 1435) (by decide +kernel)⟩
theorem lw_p87 : lw_okq (⟨"ClapBankModel", "areAlike", "(II)Z"⟩, 50) := ⟨⟨by decide +kernel, by decide +kernel⟩, List.mem_of_getElem? (i := 981) (by decide +kernel), List.mem_of_getElem? (i := 1446) (by decide +kernel), List.mem_of_getElem? (i := 1447) (by decide +kernel)⟩
theorem lw_p88 : lw_okq (⟨"ClapBankModel", "hasDark", "(I)Z"⟩, 50) := ⟨⟨by decide +kernel, by decide +kernel⟩, List.mem_of_getElem? (i := 981) (by decide +kernel), List.mem_of_getElem? (i := 1454) (by decide +kernel), List.mem_of_getElem? (i := 1455) (by decide +kernel)⟩
theorem lw_p89 : lw_okq (⟨"ClapBankModel", "heardOf", "(I)I"⟩, 50) := ⟨⟨by decide +kernel, by decide +kernel⟩, List.mem_of_getElem? (i := 981) (by decide +kernel), List.mem_of_getElem? (i := 1458) (by decide +kernel), List.mem_of_getElem? (i := 1459) (by decide +kernel)⟩
theorem lw_p90 : lw_okq (⟨"ClapBankModel", "findDark", "()V"⟩, 50) := ⟨⟨by decide +kernel, by decide +kernel⟩, List.mem_of_getElem? (i := 981) (by decide +kernel), List.mem_of_getElem? (i := 1467) (by decide +kernel), List.mem_of_getElem? (i := 1468) (by decide +kernel)⟩
theorem lw_p91 : lw_okq (⟨"ClapBankModel", "states", "()I"⟩, 50) := ⟨⟨by decide +kernel, by decide +kernel⟩, List.mem_of_getElem? (i := 981) (by decide +kernel), List.mem_of_getElem? (i := 1471) (by decide +kernel), List.mem_of_getElem? (i := 1472) (by decide +kernel)⟩
theorem lw_p92 : lw_okq (⟨"ClapBankModel", "goOn", "(I)V"⟩, 50) := ⟨⟨by decide +kernel, by decide +kernel⟩, List.mem_of_getElem? (i := 981) (by decide +kernel), List.mem_of_getElem? (i := 1475) (by decide +kernel), List.mem_of_getElem? (i := 1476) (by decide +kernel)⟩
theorem lw_p93 : lw_okq (⟨"ClapBankModel", "halvesOf", "(I)I"⟩, 50) := ⟨⟨by decide +kernel, by decide +kernel⟩, List.mem_of_getElem? (i := 981) (by decide +kernel), List.mem_of_getElem? (i := 1479) (by decide +kernel), List.mem_of_getElem? (i := 1480) (by decide +kernel)⟩
theorem lw_p94 : lw_okq (⟨"ClapBankModel", "after", "(II)I"⟩, 50) := ⟨⟨by decide +kernel, by decide +kernel⟩, List.mem_of_getElem? (i := 981) (by decide +kernel), List.mem_of_getElem? (i := 1483) (by decide +kernel), List.mem_of_getElem? (i := 1484) (by decide +kernel)⟩
theorem lw_p95 : lw_okq (⟨"ClapBankModel", "goBack", "(I)V"⟩, 50) := ⟨⟨by decide +kernel, by decide +kernel⟩, List.mem_of_getElem? (i := 981) (by decide +kernel), List.mem_of_getElem? (i := 1487) (by decide +kernel), List.mem_of_getElem? (i := 1488) (by decide +kernel)⟩
def lw_privs_6 : List (MethodName × Nat) := [(⟨"ClapBankModel", "isDoomed", "(I)Z"⟩, 50), (⟨"ClapBankModel", "isInDanger", "(I)Z"⟩, 50), (⟨"ClapBankModel", "canFeed", "(I)Z"⟩, 50), (⟨"ClapBankModel", "leftOf", "(I)I"⟩, 50), (⟨"ClapBankModel", "layUsurer", "(III)Z"⟩, 50), (⟨"ClapBankModel", "usurers", "()I"⟩, 50), (⟨"ClapBankModel", "findAsks", "()V"⟩, 50), (⟨"ClapBankModel", "areAlike", "(II)Z"⟩, 50), (⟨"ClapBankModel", "hasDark", "(I)Z"⟩, 50), (⟨"ClapBankModel", "heardOf", "(I)I"⟩, 50), (⟨"ClapBankModel", "findDark", "()V"⟩, 50), (⟨"ClapBankModel", "states", "()I"⟩, 50), (⟨"ClapBankModel", "goOn", "(I)V"⟩, 50), (⟨"ClapBankModel", "halvesOf", "(I)I"⟩, 50), (⟨"ClapBankModel", "after", "(II)I"⟩, 50), (⟨"ClapBankModel", "goBack", "(I)V"⟩, 50)]
theorem lw_r6 : ∀ q ∈ lw_privs_6, lw_okq q := List.forall_mem_cons.mpr ⟨lw_p80, List.forall_mem_cons.mpr ⟨lw_p81, List.forall_mem_cons.mpr ⟨lw_p82, List.forall_mem_cons.mpr ⟨lw_p83, List.forall_mem_cons.mpr ⟨lw_p84, List.forall_mem_cons.mpr ⟨lw_p85, List.forall_mem_cons.mpr ⟨lw_p86, List.forall_mem_cons.mpr ⟨lw_p87, List.forall_mem_cons.mpr ⟨lw_p88, List.forall_mem_cons.mpr ⟨lw_p89, List.forall_mem_cons.mpr ⟨lw_p90, List.forall_mem_cons.mpr ⟨lw_p91, List.forall_mem_cons.mpr ⟨lw_p92, List.forall_mem_cons.mpr ⟨lw_p93, List.forall_mem_cons.mpr ⟨lw_p94, List.forall_mem_cons.mpr ⟨lw_p95, fun _ h => absurd h List.not_mem_nil⟩⟩⟩⟩⟩⟩⟩⟩⟩⟩⟩⟩⟩⟩⟩⟩
theorem lw_p96 : lw_okq (⟨"ClapBankModel", "mayBe", "(II)Z"⟩, 50) := ⟨⟨by decide +kernel, by decide +kernel⟩, List.mem_of_getElem? (i := 981) (by decide +kernel), List.mem_of_getElem? (i := 1495) (by decide +kernel), List.mem_of_getElem? (i := 1496) (by decide +kernel)⟩
theorem lw_p97 : lw_okq (⟨"ClapBankModel", "draw", "(I)I"⟩, 50) := ⟨⟨by decide +kernel, by decide +kernel⟩, List.mem_of_getElem? (i := 981) (by decide +kernel), List.mem_of_getElem? (i := 1503) (by decide +kernel), List.mem_of_getElem? (i := 1504) (by decide +kernel)⟩
theorem lw_p98 : lw_okq (⟨"ClapBankModel", "livingOne", "(I)I"⟩, 50) := ⟨⟨by decide +kernel, by decide +kernel⟩, List.mem_of_getElem? (i := 981) (by decide +kernel), List.mem_of_getElem? (i := 1508) (by decide +kernel), List.mem_of_getElem? (i := 1509) (by decide +kernel)⟩
theorem lw_p99 : lw_okq (⟨"ClapBankModel", "tip", "(I)I"⟩, 50) := ⟨⟨by decide +kernel, by decide +kernel⟩, List.mem_of_getElem? (i := 981) (by decide +kernel), List.mem_of_getElem? (i := 1516) (by decide +kernel), List.mem_of_getElem? (i := 1517) (by decide +kernel)⟩
theorem lw_p100 : lw_okq (⟨"ClapBankModel", "eatsBy", "(II)Z"⟩, 50) := ⟨⟨by decide +kernel, by decide +kernel⟩, List.mem_of_getElem? (i := 981) (by decide +kernel), List.mem_of_getElem? (i := 1520) (by decide +kernel), List.mem_of_getElem? (i := 1521) (by decide +kernel)⟩
theorem lw_p101 : lw_okq (⟨"ClapBankModel", "mostOwing", "()I"⟩, 50) := ⟨⟨by decide +kernel, by decide +kernel⟩, List.mem_of_getElem? (i := 981) (by decide +kernel), List.mem_of_getElem? (i := 1524) (by decide +kernel), List.mem_of_getElem? (i := 1525) (by decide +kernel)⟩
theorem lw_p102 : lw_okq (⟨"ClapBankModel", "idol", "()I"⟩, 50) := ⟨⟨by decide +kernel, by decide +kernel⟩, List.mem_of_getElem? (i := 981) (by decide +kernel), List.mem_of_getElem? (i := 1528) (by decide +kernel), List.mem_of_getElem? (i := 1529) (by decide +kernel)⟩
theorem lw_p103 : lw_okq (⟨"ClapBankModel", "dear", "(I)I"⟩, 50) := ⟨⟨by decide +kernel, by decide +kernel⟩, List.mem_of_getElem? (i := 981) (by decide +kernel), List.mem_of_getElem? (i := 1532) (by decide +kernel), List.mem_of_getElem? (i := 1533) (by decide +kernel)⟩
theorem lw_p104 : lw_okq (⟨"ClapBankModel", "starvedWithout", "(II)I"⟩, 50) := ⟨⟨by decide +kernel, by decide +kernel⟩, List.mem_of_getElem? (i := 981) (by decide +kernel), List.mem_of_getElem? (i := 1540) (by decide +kernel), List.mem_of_getElem? (i := 1541) (by decide +kernel)⟩
theorem lw_p105 : lw_okq (⟨"ClapBankModel", "names", "(II)Z"⟩, 50) := ⟨⟨by decide +kernel, by decide +kernel⟩, List.mem_of_getElem? (i := 981) (by decide +kernel), List.mem_of_getElem? (i := 1544) (by decide +kernel), List.mem_of_getElem? (i := 1545) (by decide +kernel)⟩
theorem lw_p106 : lw_okq (⟨"ClapBankModel", "copyAll", "(II)V"⟩, 50) := ⟨⟨by decide +kernel, by decide +kernel⟩, List.mem_of_getElem? (i := 981) (by decide +kernel), List.mem_of_getElem? (i := 1556) (by decide +kernel), List.mem_of_getElem? (i := 1557) (by decide +kernel)⟩
def lw_privs_7 : List (MethodName × Nat) := [(⟨"ClapBankModel", "mayBe", "(II)Z"⟩, 50), (⟨"ClapBankModel", "draw", "(I)I"⟩, 50), (⟨"ClapBankModel", "livingOne", "(I)I"⟩, 50), (⟨"ClapBankModel", "tip", "(I)I"⟩, 50), (⟨"ClapBankModel", "eatsBy", "(II)Z"⟩, 50), (⟨"ClapBankModel", "mostOwing", "()I"⟩, 50), (⟨"ClapBankModel", "idol", "()I"⟩, 50), (⟨"ClapBankModel", "dear", "(I)I"⟩, 50), (⟨"ClapBankModel", "starvedWithout", "(II)I"⟩, 50), (⟨"ClapBankModel", "names", "(II)Z"⟩, 50), (⟨"ClapBankModel", "copyAll", "(II)V"⟩, 50)]
theorem lw_r7 : ∀ q ∈ lw_privs_7, lw_okq q := List.forall_mem_cons.mpr ⟨lw_p96, List.forall_mem_cons.mpr ⟨lw_p97, List.forall_mem_cons.mpr ⟨lw_p98, List.forall_mem_cons.mpr ⟨lw_p99, List.forall_mem_cons.mpr ⟨lw_p100, List.forall_mem_cons.mpr ⟨lw_p101, List.forall_mem_cons.mpr ⟨lw_p102, List.forall_mem_cons.mpr ⟨lw_p103, List.forall_mem_cons.mpr ⟨lw_p104, List.forall_mem_cons.mpr ⟨lw_p105, List.forall_mem_cons.mpr ⟨lw_p106, fun _ h => absurd h List.not_mem_nil⟩⟩⟩⟩⟩⟩⟩⟩⟩⟩⟩
def lw_privs : List (MethodName × Nat) := lw_privs_1 ++ (lw_privs_2 ++ (lw_privs_3 ++ (lw_privs_4 ++ (lw_privs_5 ++ (lw_privs_6 ++ (lw_privs_7))))))
def lw_tbl : List Cond := k2_sels lw_privs ++ tables_1
theorem lw_privs_ok : ∀ q ∈ lw_privs, lw_okq q := by
  show ∀ q ∈ lw_privs_1 ++ (lw_privs_2 ++ (lw_privs_3 ++ (lw_privs_4 ++ (lw_privs_5 ++ (lw_privs_6 ++ (lw_privs_7)))))), lw_okq q
  exact List.forall_mem_append.mpr ⟨lw_r1, List.forall_mem_append.mpr ⟨lw_r2, List.forall_mem_append.mpr ⟨lw_r3, List.forall_mem_append.mpr ⟨lw_r4, List.forall_mem_append.mpr ⟨lw_r5, List.forall_mem_append.mpr ⟨lw_r6, lw_r7⟩⟩⟩⟩⟩⟩
end
section
def RX0 : String := "ClapBank$Book"
def TX0 : u_T := fun k => match k with
  | 0 => ("ClapBank$Book", "deeds", "I", false)
  | _ => ("ClapBank$Book", "parts", "[I", true)
def RX1 : String := "ClapBank$Dark"
def TX1 : u_T := fun k => match k with
  | 0 => ("ClapBank$Dark", "minutes", "I", false)
  | _ => ("ClapBank$Dark", "halves", "[I", true)
def RX2 : String := "ClapBank$Evening"
def TX2 : u_T := fun k => match k with
  | 0 => ("ClapBank$Evening", "house", "LClapBank$Theatre;", false)
  | 1 => ("ClapBank$Evening", "left", "[I", true)
  | 2 => ("ClapBank$Evening", "owes", "[I", true)
  | 3 => ("ClapBank$Evening", "got", "[I", true)
  | 4 => ("ClapBank$Evening", "saved", "[I", true)
  | 5 => ("ClapBank$Evening", "starved", "[I", true)
  | 6 => ("ClapBank$Evening", "storms", "[I", true)
  | 7 => ("ClapBank$Evening", "drawnFrom", "[I", true)
  | 8 => ("ClapBank$Evening", "chest", "I", false)
  | 9 => ("ClapBank$Evening", "encores", "I", false)
  | 10 => ("ClapBank$Evening", "nights", "I", false)
  | 11 => ("ClapBank$Evening", "claps", "I", false)
  | 12 => ("ClapBank$Evening", "hushed", "I", false)
  | _ => ("ClapBank$Evening", "echo", "I", false)
def RX3 : String := "ClapBank$Feast"
def TX3 : u_T := fun k => match k with
  | 0 => ("ClapBank$Feast", "who", "I", false)
  | 1 => ("ClapBank$Feast", "two", "I", false)
  | _ => ("ClapBank$Feast", "one", "I", false)
def RX4 : String := "ClapBank$Hearing"
def TX4 : u_T := fun k => match k with
  | 0 => ("ClapBank$Hearing", "house", "LClapBank$Theatre;", false)
  | 1 => ("ClapBank$Hearing", "dark", "LClapBank$Dark;", false)
  | 2 => ("ClapBank$Hearing", "early", "[I", true)
  | 3 => ("ClapBank$Hearing", "late", "[I", true)
  | 4 => ("ClapBank$Hearing", "halvesOf", "[I", true)
  | 5 => ("ClapBank$Hearing", "onceOf", "[I", true)
  | 6 => ("ClapBank$Hearing", "sets", "I", false)
  | 7 => ("ClapBank$Hearing", "any", "I", false)
  | _ => ("ClapBank$Hearing", "all", "I", false)
def RX5 : String := "ClapBank$Reader"
def TX5 : u_T := fun k => match k with
  | 0 => ("ClapBank$Reader", "theatre", "LClapBank$Theatre;", true)
  | 1 => ("ClapBank$Reader", "book", "LClapBank$Book;", true)
  | 2 => ("ClapBank$Reader", "dark", "LClapBank$Dark;", true)
  | 3 => ("ClapBank$Reader", "numbers", "[I", true)
  | 4 => ("ClapBank$Reader", "fault", "I", false)
  | 5 => ("ClapBank$Reader", "place", "I", false)
  | 6 => ("ClapBank$Reader", "token", "I", false)
  | 7 => ("ClapBank$Reader", "from", "I", false)
  | 8 => ("ClapBank$Reader", "to", "I", false)
  | _ => ("ClapBank$Reader", "value", "I", false)
def RX6 : String := "ClapBank$Rounds"
def TX6 : u_T := fun k => match k with
  | 0 => ("ClapBank$Rounds", "usurers", "I", false)
  | 1 => ("ClapBank$Rounds", "borrowers", "I", false)
  | 2 => ("ClapBank$Rounds", "period", "I", false)
  | 3 => ("ClapBank$Rounds", "asks", "[I", true)
  | 4 => ("ClapBank$Rounds", "floors", "[I", true)
  | 5 => ("ClapBank$Rounds", "gains", "[I", true)
  | _ => ("ClapBank$Rounds", "seen", "[I", true)
def RX7 : String := "ClapBank$Theatre"
def TX7 : u_T := fun k => match k with
  | 0 => ("ClapBank$Theatre", "palms", "I", false)
  | 1 => ("ClapBank$Theatre", "claps", "[I", true)
  | 2 => ("ClapBank$Theatre", "hands", "[I", true)
  | 3 => ("ClapBank$Theatre", "actors", "I", false)
  | 4 => ("ClapBank$Theatre", "hunger", "[I", true)
  | 5 => ("ClapBank$Theatre", "saved", "[I", true)
  | 6 => ("ClapBank$Theatre", "usurers", "I", false)
  | 7 => ("ClapBank$Theatre", "asks", "[I", true)
  | 8 => ("ClapBank$Theatre", "floors", "[I", true)
  | 9 => ("ClapBank$Theatre", "rate", "I", false)
  | 10 => ("ClapBank$Theatre", "chest", "I", false)
  | _ => ("ClapBank$Theatre", "borrowers", "I", false)
def RX8 : String := "ClapBank$Told"
def TX8 : u_T := fun k => match k with
  | 0 => ("ClapBank$Told", "tape", "[B", true)
  | 1 => ("ClapBank$Told", "length", "I", false)
  | 2 => ("ClapBank$Told", "fault", "I", false)
  | 3 => ("ClapBank$Told", "place", "I", false)
  | 4 => ("ClapBank$Told", "theatres", "I", false)
  | 5 => ("ClapBank$Told", "books", "I", false)
  | 6 => ("ClapBank$Told", "darks", "I", false)
  | 7 => ("ClapBank$Told", "firstTheatre", "LClapBank$Theatre;", true)
  | 8 => ("ClapBank$Told", "secondTheatre", "LClapBank$Theatre;", true)
  | 9 => ("ClapBank$Told", "firstBook", "LClapBank$Book;", true)
  | 10 => ("ClapBank$Told", "secondBook", "LClapBank$Book;", true)
  | 11 => ("ClapBank$Told", "firstDark", "LClapBank$Dark;", true)
  | _ => ("ClapBank$Told", "secondDark", "LClapBank$Dark;", true)
def RX9 : String := "ClapBank"
def TX9 : u_T := fun k => match k with
  | 0 => ("ClapBank", "told", "LClapBank$Told;", true)
  | 1 => ("ClapBank", "images", "[LClapBank$Told;", true)
  | 2 => ("ClapBank", "reader", "LClapBank$Reader;", true)
  | 3 => ("ClapBank", "evening", "LClapBank$Evening;", true)
  | 4 => ("ClapBank", "table", "LClapBank$Feast;", true)
  | 5 => ("ClapBank", "rounds", "LClapBank$Rounds;", true)
  | _ => ("ClapBank", "hearing", "LClapBank$Hearing;", true)
def RX10 : String := "ClapBankModel"
def TX10 : u_T := fun k => match k with
  | 0 => ("ClapBankModel", "code", "I", false)
  | 1 => ("ClapBankModel", "tape", "[B", true)
  | 2 => ("ClapBankModel", "size", "[I", true)
  | 3 => ("ClapBankModel", "fault", "[I", true)
  | 4 => ("ClapBankModel", "faultPlace", "[I", true)
  | 5 => ("ClapBankModel", "many", "[I", true)
  | 6 => ("ClapBankModel", "theatres", "[I", true)
  | 7 => ("ClapBankModel", "books", "[I", true)
  | 8 => ("ClapBankModel", "darks", "[I", true)
  | 9 => ("ClapBankModel", "reached", "I", false)
  | 10 => ("ClapBankModel", "length", "I", false)
  | 11 => ("ClapBankModel", "begins", "I", false)
  | 12 => ("ClapBankModel", "sort", "I", false)
  | 13 => ("ClapBankModel", "value", "I", false)
  | 14 => ("ClapBankModel", "word", "J", false)
  | 15 => ("ClapBankModel", "wrongAt", "I", false)
  | 16 => ("ClapBankModel", "laterFault", "I", false)
  | 17 => ("ClapBankModel", "laterPlace", "I", false)
  | 18 => ("ClapBankModel", "told", "[I", true)
  | 19 => ("ClapBankModel", "read", "[I", true)
  | 20 => ("ClapBankModel", "theatre", "I", false)
  | 21 => ("ClapBankModel", "palms", "I", false)
  | 22 => ("ClapBankModel", "actors", "I", false)
  | 23 => ("ClapBankModel", "rate", "I", false)
  | 24 => ("ClapBankModel", "book", "I", false)
  | 25 => ("ClapBankModel", "chest", "I", false)
  | 26 => ("ClapBankModel", "encores", "I", false)
  | 27 => ("ClapBankModel", "nights", "I", false)
  | 28 => ("ClapBankModel", "lives", "I", false)
  | 29 => ("ClapBankModel", "hushed", "I", false)
  | 30 => ("ClapBankModel", "claps", "I", false)
  | 31 => ("ClapBankModel", "echoFor", "I", false)
  | 32 => ("ClapBankModel", "left", "[I", true)
  | 33 => ("ClapBankModel", "owes", "[I", true)
  | 34 => ("ClapBankModel", "got", "[I", true)
  | 35 => ("ClapBankModel", "saved", "[I", true)
  | 36 => ("ClapBankModel", "storms", "[I", true)
  | 37 => ("ClapBankModel", "starved", "[I", true)
  | 38 => ("ClapBankModel", "capped", "Z", false)
  | 39 => ("ClapBankModel", "twoHands", "I", false)
  | 40 => ("ClapBankModel", "oneHand", "I", false)
  | 41 => ("ClapBankModel", "asks", "[I", true)
  | 42 => ("ClapBankModel", "wentTo", "[I", true)
  | 43 => ("ClapBankModel", "dark", "I", false)
  | 44 => ("ClapBankModel", "minutes", "I", false)
  | 45 => ("ClapBankModel", "ahead", "[J", true)
  | 46 => ("ClapBankModel", "behind", "[J", true)
  | 47 => ("ClapBankModel", "unit", "[I", true)
  | 48 => ("ClapBankModel", "seed", "I", false)
  | _ => ("ClapBankModel", "kept", "[Z", true)
abbrev vwCl : List vw_C := [(RX0, TX0, 2), (RX1, TX1, 2), (RX2, TX2, 14), (RX3, TX3, 3), (RX4, TX4, 9), (RX5, TX5, 10), (RX6, TX6, 7), (RX7, TX7, 12), (RX8, TX8, 13), (RX9, TX9, 7), (RX10, TX10, 50)]
end
section
/-! nest links: one bundle for all methods -/
def nzl : List Cond := [
  .fieldLinkNest "ClapBank$Feast" 15 "ClapBank$Theatre" "palms" "I" "ClapBank",
  .fieldLinkNest "ClapBank$Hearing" 42 "ClapBank$Theatre" "palms" "I" "ClapBank",
  .fieldLinkNest "ClapBank$Evening" 103 "ClapBank$Theatre" "palms" "I" "ClapBank",
  .fieldLinkNest "ClapBank$Reader" 166 "ClapBank$Theatre" "palms" "I" "ClapBank",
  .fieldLinkNest "ClapBank" 234 "ClapBank$Theatre" "palms" "I" "ClapBank",
  .fieldLinkNest "ClapBank$Evening" 40 "ClapBank$Theatre" "claps" "[I" "ClapBank",
  .fieldLinkNest "ClapBank$Hearing" 81 "ClapBank$Theatre" "claps" "[I" "ClapBank",
  .fieldLinkNest "ClapBank$Feast" 25 "ClapBank$Theatre" "hands" "[I" "ClapBank",
  .fieldLinkNest "ClapBank$Hearing" 45 "ClapBank$Theatre" "hands" "[I" "ClapBank",
  .fieldLinkNest "ClapBank$Evening" 107 "ClapBank$Theatre" "hands" "[I" "ClapBank",
  .fieldLinkNest "ClapBank$Evening" 96 "ClapBank$Theatre" "actors" "I" "ClapBank",
  .fieldLinkNest "ClapBank$Reader" 169 "ClapBank$Theatre" "actors" "I" "ClapBank",
  .fieldLinkNest "ClapBank" 206 "ClapBank$Theatre" "actors" "I" "ClapBank",
  .fieldLinkNest "ClapBank$Evening" 140 "ClapBank$Theatre" "hunger" "[I" "ClapBank",
  .fieldLinkNest "ClapBank$Evening" 49 "ClapBank$Theatre" "saved" "[I" "ClapBank",
  .fieldLinkNest "ClapBank$Rounds" 24 "ClapBank$Theatre" "usurers" "I" "ClapBank",
  .fieldLinkNest "ClapBank$Reader" 172 "ClapBank$Theatre" "usurers" "I" "ClapBank",
  .fieldLinkNest "ClapBank" 162 "ClapBank$Theatre" "usurers" "I" "ClapBank",
  .fieldLinkNest "ClapBank$Rounds" 35 "ClapBank$Theatre" "asks" "[I" "ClapBank",
  .fieldLinkNest "ClapBank$Rounds" 42 "ClapBank$Theatre" "floors" "[I" "ClapBank",
  .fieldLinkNest "ClapBank$Reader" 191 "ClapBank$Theatre" "rate" "I" "ClapBank",
  .fieldLinkNest "ClapBank$Evening" 155 "ClapBank$Theatre" "rate" "I" "ClapBank",
  .fieldLinkNest "ClapBank$Evening" 56 "ClapBank$Theatre" "chest" "I" "ClapBank",
  .fieldLinkNest "ClapBank$Reader" 193 "ClapBank$Theatre" "chest" "I" "ClapBank",
  .fieldLinkNest "ClapBank$Rounds" 31 "ClapBank$Theatre" "borrowers" "I" "ClapBank",
  .fieldLinkNest "ClapBank$Reader" 195 "ClapBank$Theatre" "borrowers" "I" "ClapBank",
  .fieldLinkNest "ClapBank$Reader" 39 "ClapBank$Book" "deeds" "I" "ClapBank",
  .fieldLinkNest "ClapBank$Evening" 87 "ClapBank$Book" "deeds" "I" "ClapBank",
  .fieldLinkNest "ClapBank" 100 "ClapBank$Book" "deeds" "I" "ClapBank",
  .fieldLinkNest "ClapBank$Reader" 43 "ClapBank$Dark" "minutes" "I" "ClapBank",
  .fieldLinkNest "ClapBank$Hearing" 48 "ClapBank$Dark" "minutes" "I" "ClapBank",
  .fieldLinkNest "ClapBank" 176 "ClapBank$Dark" "minutes" "I" "ClapBank",
  .fieldLinkNest "ClapBank$Hearing" 74 "ClapBank$Dark" "halves" "[I" "ClapBank",
  .fieldLinkNest "ClapBank" 184 "ClapBank$Dark" "halves" "[I" "ClapBank",
  .fieldLinkNest "ClapBank" 73 "ClapBank$Told" "tape" "[B" "ClapBank",
  .fieldLinkNest "ClapBank" 55 "ClapBank$Told" "length" "I" "ClapBank",
  .fieldLinkNest "ClapBank" 63 "ClapBank$Told" "fault" "I" "ClapBank",
  .fieldLinkNest "ClapBank" 66 "ClapBank$Told" "place" "I" "ClapBank",
  .fieldLinkNest "ClapBank$Told" 61 "ClapBank$Reader" "theatre" "LClapBank$Theatre;" "ClapBank",
  .fieldLinkNest "ClapBank$Told" 76 "ClapBank$Reader" "book" "LClapBank$Book;" "ClapBank",
  .fieldLinkNest "ClapBank$Told" 82 "ClapBank$Reader" "dark" "LClapBank$Dark;" "ClapBank",
  .fieldLinkNest "ClapBank" 81 "ClapBank$Reader" "fault" "I" "ClapBank",
  .fieldLinkNest "ClapBank" 82 "ClapBank$Reader" "place" "I" "ClapBank",
  .fieldLinkNest "ClapBank$Feast" 9 "ClapBank$Evening" "house" "LClapBank$Theatre;" "ClapBank",
  .fieldLinkNest "ClapBank$Feast" 29 "ClapBank$Evening" "left" "[I" "ClapBank",
  .fieldLinkNest "ClapBank" 213 "ClapBank$Evening" "saved" "[I" "ClapBank",
  .fieldLinkNest "ClapBank" 219 "ClapBank$Evening" "chest" "I" "ClapBank",
  .fieldLinkNest "ClapBank" 169 "ClapBank$Rounds" "period" "I" "ClapBank",
  .fieldLinkNest "ClapBank" 155 "ClapBank$Rounds" "asks" "[I" "ClapBank",
  .fieldLinkNest "ClapBank" 159 "ClapBank$Rounds" "gains" "[I" "ClapBank",
  .fieldLinkNest "ClapBank" 200 "ClapBank$Hearing" "any" "I" "ClapBank",
  .fieldLinkNest "ClapBank" 203 "ClapBank$Hearing" "all" "I" "ClapBank",
  .methodLinkNest "ClapBank" 9 ⟨"ClapBank$Told", "<init>", "()V"⟩ "ClapBank",
  .methodLinkNest "ClapBank$Told" 21 ⟨"ClapBank$Theatre", "<init>", "()V"⟩ "ClapBank",
  .methodLinkNest "ClapBank$Told" 31 ⟨"ClapBank$Book", "<init>", "()V"⟩ "ClapBank",
  .methodLinkNest "ClapBank$Told" 41 ⟨"ClapBank$Dark", "<init>", "()V"⟩ "ClapBank",
  .methodLinkNest "ClapBank" 22 ⟨"ClapBank$Reader", "<init>", "()V"⟩ "ClapBank",
  .methodLinkNest "ClapBank$Reader" 11 ⟨"ClapBank$Theatre", "<init>", "()V"⟩ "ClapBank",
  .methodLinkNest "ClapBank$Reader" 20 ⟨"ClapBank$Book", "<init>", "()V"⟩ "ClapBank",
  .methodLinkNest "ClapBank$Reader" 27 ⟨"ClapBank$Dark", "<init>", "()V"⟩ "ClapBank",
  .methodLinkNest "ClapBank" 29 ⟨"ClapBank$Evening", "<init>", "()V"⟩ "ClapBank",
  .methodLinkNest "ClapBank$Evening" 11 ⟨"ClapBank$Theatre", "<init>", "()V"⟩ "ClapBank",
  .methodLinkNest "ClapBank" 36 ⟨"ClapBank$Feast", "<init>", "()V"⟩ "ClapBank",
  .methodLinkNest "ClapBank" 43 ⟨"ClapBank$Rounds", "<init>", "()V"⟩ "ClapBank",
  .methodLinkNest "ClapBank" 50 ⟨"ClapBank$Hearing", "<init>", "()V"⟩ "ClapBank",
  .methodLinkNest "ClapBank$Hearing" 11 ⟨"ClapBank$Theatre", "<init>", "()V"⟩ "ClapBank",
  .methodLinkNest "ClapBank$Hearing" 20 ⟨"ClapBank$Dark", "<init>", "()V"⟩ "ClapBank"]
def nz (U : State) : Prop := ∀ w ∈ nzl, va_Nw w U
theorem nz_at {U : State} (h : nz U) (k : Nat) {w : Cond} (hk : nzl[k]? = some w) : va_Nw w U := h w (List.mem_of_getElem? hk)
def nz_ok : Cond → Bool
  | .fieldLinkNest _ _ _ _ _ _ => true
  | .methodLinkNest _ _ _ _ => true
  | _ => false
theorem nz_all : nzl.all nz_ok = true := by decide +kernel
theorem nz_tab {w : Cond} (h : nz_ok w = true) : w.onTables = true := by
  cases w <;> first | rfl | exact absurd h (by simp [nz_ok])
theorem nz_warm {s U : State} (hW : s.WarmedH U.vm) (h : nz s) : nz U := by
  intro w hw
  have h1 := List.all_eq_true.mp nz_all w hw
  have h2 := h w hw
  cases w <;> first | exact va_Nw.warmF hW h2 | exact va_Nw.warmM hW h2 | exact absurd h1 (by simp [nz_ok])
theorem nz_same {u U : State} (h : u.vm = U.vm) (hz : nz u) : nz U := fun w hw => va_Nw.same (nz_tab (List.all_eq_true.mp nz_all w hw)) h (hz w hw)
abbrev tyL (cI cB cJ cZ cT : ClassId) : List (ClassId × FieldType) := [(cI, .int), (cB, .byte), (cJ, .long), (cZ, .boolean), (cT, .object "ClapBank$Told")]
def KK (D : va_G) (ty : List (ClassId × FieldType)) (U : State) : Prop := va_K D vwCl ty U ∧ nz U ∧ va_AO RX8 U
theorem KK.warm {D : va_G} {ty : List (ClassId × FieldType)} {s U : State} (hW : s.WarmedH U.vm) (h : KK D ty s) : KK D ty U := ⟨va_K.moved hW.alike h.1, nz_warm hW h.2.1, va_AO.moved hW.alike h.2.2⟩
theorem KK.call {D : va_G} {ty : List (ClassId × FieldType)} {U : State} {g : JFrame} {mk : MethodId} {a : Array Value} (h : KK D ty U) : KK D ty (U.calling g mk a) := ⟨va_K.moved (u := U) (U := U.calling g mk a) (Vm.Alike.refl U.vm) h.1, nz_same (u := U) (U := U.calling g mk a) rfl h.2.1, va_AO.moved (u := U) (U := U.calling g mk a) (Vm.Alike.refl U.vm) h.2.2⟩
theorem kk_i {D : va_G} {cI cB cJ cZ cT cA : ClassId} {s : State} (h : va_K D vwCl (tyL cI cB cJ cZ cT ++ [(cA, .int)]) s) : cI = cA := by
  have h1 := (h.2 0 (cI, .int) rfl).2
  have h2 := (h.2 5 (cA, .int) rfl).2
  exact Option.some.inj (h1.symm.trans h2)
theorem kk_b {D : va_G} {cI cB cJ cZ cT cA : ClassId} {s : State} (h : va_K D vwCl (tyL cI cB cJ cZ cT ++ [(cA, .byte)]) s) : cB = cA := by
  have h1 := (h.2 1 (cB, .byte) rfl).2
  have h2 := (h.2 5 (cA, .byte) rfl).2
  exact Option.some.inj (h1.symm.trans h2)
theorem kk_j {D : va_G} {cI cB cJ cZ cT cA : ClassId} {s : State} (h : va_K D vwCl (tyL cI cB cJ cZ cT ++ [(cA, .long)]) s) : cJ = cA := by
  have h1 := (h.2 2 (cJ, .long) rfl).2
  have h2 := (h.2 5 (cA, .long) rfl).2
  exact Option.some.inj (h1.symm.trans h2)
theorem kk_z {D : va_G} {cI cB cJ cZ cT cA : ClassId} {s : State} (h : va_K D vwCl (tyL cI cB cJ cZ cT ++ [(cA, .boolean)]) s) : cZ = cA := by
  have h1 := (h.2 3 (cZ, .boolean) rfl).2
  have h2 := (h.2 5 (cA, .boolean) rfl).2
  exact Option.some.inj (h1.symm.trans h2)
theorem kk_t {D : va_G} {cI cB cJ cZ cT cA : ClassId} {s : State} (h : va_K D vwCl (tyL cI cB cJ cZ cT ++ [(cA, .object "ClapBank$Told")]) s) : cT = cA := by
  obtain ⟨-, -, -, -, -, h1⟩ := (h.2 4 (cT, .object "ClapBank$Told") rfl).2
  obtain ⟨-, -, -, -, -, h2⟩ := (h.2 5 (cA, .object "ClapBank$Told") rfl).2
  exact Option.some.inj (h1.symm.trans h2)
def PreW (D : va_G) (ty : List (ClassId × FieldType)) (W0 : va_W) (sz : Nat) : State → Prop := fun U => U.heap.size = sz ∧ va_P D vwCl W0 U.heap ∧ KK D ty U ∧ va_D (fun _ => True) W0
def BW {S : Type} (D : va_G) (A : Nat → Prop) (w1 : S → va_W) : S → State → Prop := fun u t => va_P D vwCl (w1 u) t.heap ∧ va_D A (w1 u)
def Qo {S : Type} (o : S → Option Value) (post : S → Prop) (B : S → State → Prop) (A : Nat → Prop) : Array Value → State → Outcome → State → Prop := fun _ st oc t => (∃ u : S, oc = .returned (o u) ∧ post u ∧ B u t) ∧ va_F A st t
/-- a contract: from the world W0 with arguments av, the answer 'o u', the world 'w1 u', for some u with 'post u' -/
def Co {S : Type} (l : Launch) (y : MethodName) (ws : List Cond) (rm : Room) (D : va_G) (ty : List (ClassId × FieldType)) (av : List Value) (W0 : va_W) (o : S → Option Value) (post : S → Prop) (w1 : S → va_W) (mc ms : Nat) : Prop :=
  ∀ sz : Nat, Met l y ws rm (va_Pc av (PreW D ty W0 sz)) (Qo o post (BW D (va_A W0 sz) w1) (va_A W0 sz)) mc ms (va_A W0 sz)
theorem pre_blind {av : List Value} {D : va_G} {ty : List (ClassId × FieldType)} {W0 : va_W} {sz : Nat} : FrameBlind (va_Pc av (PreW D ty W0 sz)) := fun a U g mk q => ⟨q.1, q.2.1, q.2.2.1, KK.call q.2.2.2.1, q.2.2.2.2⟩
theorem fset_eq {fs : List Value} {k : Nat} {v : Value} (h : k < fs.length) : (fs.set k v)[k]? = some v := by simp [h]
theorem fset_ne {fs : List Value} {k j : Nat} {v w : Value} (h : k ≠ j) (hj : fs[j]? = some w) : (fs.set k v)[j]? = some w := by rw [List.getElem?_set_ne h]; exact hj
theorem fset_len {fs : List Value} {k n : Nat} {v : Value} (h : fs.length = n) : (fs.set k v).length = n := by rw [List.length_set]; exact h
theorem i_add {x y : Int32} {X Y : Int} (hx : x.toInt = X) (hy : y.toInt = Y) (h1 : -2147483648 ≤ X + Y) (h2 : X + Y < 2147483648) : (x + y).toInt = X + Y := by
  subst hx; subst hy
  rw [Int32.toInt_add]
  exact Int.bmod_eq_of_le (by simpa using h1) (by simpa using h2)
theorem i_sub {x y : Int32} {X Y : Int} (hx : x.toInt = X) (hy : y.toInt = Y) (h1 : -2147483648 ≤ X - Y) (h2 : X - Y < 2147483648) : (x - y).toInt = X - Y := by
  subst hx; subst hy
  rw [Int32.toInt_sub]
  exact Int.bmod_eq_of_le (by simpa using h1) (by simpa using h2)
theorem i_mul {x y : Int32} {X Y : Int} (hx : x.toInt = X) (hy : y.toInt = Y) (h1 : -2147483648 ≤ X * Y) (h2 : X * Y < 2147483648) : (x * y).toInt = X * Y := by
  subst hx; subst hy
  rw [Int32.toInt_mul]
  exact Int.bmod_eq_of_le (by simpa using h1) (by simpa using h2)
theorem i_rng (x : Int32) : -2147483648 ≤ x.toInt ∧ x.toInt < 2147483648 := ⟨Int32.le_toInt x, Int32.toInt_lt x⟩
theorem i_in {x : Int32} {X : Int} {n : Nat} (hx : x.toInt = X) (h1 : 0 ≤ X) (h2 : X < n) : vp_in x n := vp_in_iff.mpr (by rw [hx]; exact ⟨h1, h2⟩)
theorem i_cl {x : Int32} {X : Int} {k : Nat} (hx : x.toInt = X) (h1 : X = k) : x.toNatClampNeg = k := by
  have h : x.toNatClampNeg = x.toInt.toNat := rfl
  rw [h, hx, h1]; rfl
theorem i_eq {x y : Int32} {X Y : Int} (hx : x.toInt = X) (hy : y.toInt = Y) (h : X = Y) : x = y := Int32.toInt_inj.mp (by rw [hx, hy, h])
section BB
variable {p : Program} {l : Launch} {e : Env} {R : Room} {s : State} {m : MethodId} {args : Array Value} {below : List Frame} {meth : Method} {c : Code} {H : Heap} {locs : List Loc} {cells slots : Nat} {Q : State → Prop}
variable {cc : ByteArray} {pc : Nat} {ls : Array Slot} {rest : List Value}
theorem vz_i {x y : Int32} (h : x = y) (k : W p l e R s m args below meth c H locs cells slots Q (F0 m pc ls (.int y :: rest))) : W p l e R s m args below meth c H locs cells slots Q (F0 m pc ls (.int x :: rest)) := by subst h; exact k
theorem vz_l {x y : Int64} (h : x = y) (k : W p l e R s m args below meth c H locs cells slots Q (F0 m pc ls (.long y :: rest))) : W p l e R s m args below meth c H locs cells slots Q (F0 m pc ls (.long x :: rest)) := by subst h; exact k
theorem bi_eq (hx : p.tables.exec = Jvm.exec) (hb : c.code = cc) {x : Int32} {X : Int} (hX : x.toInt = X) {off : Int} {tgt : Nat} (hdg : decode cc pc = .ok (.ifCond .eq off, 3)) (ht : (pc : Int) + off = (tgt : Int))
    (kt : X = 0 → W p l e R s m args below meth c H locs cells slots Q (F0 m tgt ls rest)) (kf : X ≠ 0 → W p l e R s m args below meth c H locs cells slots Q (F0 m (pc + 3) ls rest)) : W p l e R s m args below meth c H locs cells slots Q (F0 m pc ls (.int x :: rest)) :=
  lv_if_eq hx hb hdg ht (fun h => kt (by rw [← hX, h]; rfl)) (fun h => kf (fun q => h (Int32.toInt_inj.mp (by rw [hX, q]; rfl))))
theorem bi_ne (hx : p.tables.exec = Jvm.exec) (hb : c.code = cc) {x : Int32} {X : Int} (hX : x.toInt = X) {off : Int} {tgt : Nat} (hdg : decode cc pc = .ok (.ifCond .ne off, 3)) (ht : (pc : Int) + off = (tgt : Int))
    (kt : X ≠ 0 → W p l e R s m args below meth c H locs cells slots Q (F0 m tgt ls rest)) (kf : X = 0 → W p l e R s m args below meth c H locs cells slots Q (F0 m (pc + 3) ls rest)) : W p l e R s m args below meth c H locs cells slots Q (F0 m pc ls (.int x :: rest)) :=
  lv_if_ne hx hb hdg ht (fun h => kt (fun q => h (Int32.toInt_inj.mp (by rw [hX, q]; rfl)))) (fun h => kf (by rw [← hX]; rw [h]; rfl))
theorem bi_lt (hx : p.tables.exec = Jvm.exec) (hb : c.code = cc) {x : Int32} {X : Int} (hX : x.toInt = X) {off : Int} {tgt : Nat} (hdg : decode cc pc = .ok (.ifCond .lt off, 3)) (ht : (pc : Int) + off = (tgt : Int))
    (kt : X < 0 → W p l e R s m args below meth c H locs cells slots Q (F0 m tgt ls rest)) (kf : 0 ≤ X → W p l e R s m args below meth c H locs cells slots Q (F0 m (pc + 3) ls rest)) : W p l e R s m args below meth c H locs cells slots Q (F0 m pc ls (.int x :: rest)) :=
  lv_if_lt hx hb hdg ht (fun h => kt (by rw [← hX]; exact Int32.lt_iff_toInt_lt.mp h)) (fun h => kf (by rw [← hX]; have h : ¬ x.toInt < (0 : Int32).toInt := fun q => h (Int32.lt_iff_toInt_lt.mpr q); have z : (0 : Int32).toInt = 0 := rfl; omega))
theorem bi_ge (hx : p.tables.exec = Jvm.exec) (hb : c.code = cc) {x : Int32} {X : Int} (hX : x.toInt = X) {off : Int} {tgt : Nat} (hdg : decode cc pc = .ok (.ifCond .ge off, 3)) (ht : (pc : Int) + off = (tgt : Int))
    (kt : 0 ≤ X → W p l e R s m args below meth c H locs cells slots Q (F0 m tgt ls rest)) (kf : X < 0 → W p l e R s m args below meth c H locs cells slots Q (F0 m (pc + 3) ls rest)) : W p l e R s m args below meth c H locs cells slots Q (F0 m pc ls (.int x :: rest)) :=
  lv_if_ge hx hb hdg ht (fun h => kt (by rw [← hX]; exact Int32.le_iff_toInt_le.mp h)) (fun h => kf (by rw [← hX]; have h : ¬ (0 : Int32).toInt ≤ x.toInt := fun q => h (Int32.le_iff_toInt_le.mpr q); have z : (0 : Int32).toInt = 0 := rfl; omega))
theorem bi_gt (hx : p.tables.exec = Jvm.exec) (hb : c.code = cc) {x : Int32} {X : Int} (hX : x.toInt = X) {off : Int} {tgt : Nat} (hdg : decode cc pc = .ok (.ifCond .gt off, 3)) (ht : (pc : Int) + off = (tgt : Int))
    (kt : 0 < X → W p l e R s m args below meth c H locs cells slots Q (F0 m tgt ls rest)) (kf : X ≤ 0 → W p l e R s m args below meth c H locs cells slots Q (F0 m (pc + 3) ls rest)) : W p l e R s m args below meth c H locs cells slots Q (F0 m pc ls (.int x :: rest)) :=
  lv_if_gt hx hb hdg ht (fun h => kt (by rw [← hX]; exact Int32.lt_iff_toInt_lt.mp h)) (fun h => kf (by rw [← hX]; have h : ¬ (0 : Int32).toInt < x.toInt := fun q => h (Int32.lt_iff_toInt_lt.mpr q); have z : (0 : Int32).toInt = 0 := rfl; omega))
theorem bi_le (hx : p.tables.exec = Jvm.exec) (hb : c.code = cc) {x : Int32} {X : Int} (hX : x.toInt = X) {off : Int} {tgt : Nat} (hdg : decode cc pc = .ok (.ifCond .le off, 3)) (ht : (pc : Int) + off = (tgt : Int))
    (kt : X ≤ 0 → W p l e R s m args below meth c H locs cells slots Q (F0 m tgt ls rest)) (kf : 0 < X → W p l e R s m args below meth c H locs cells slots Q (F0 m (pc + 3) ls rest)) : W p l e R s m args below meth c H locs cells slots Q (F0 m pc ls (.int x :: rest)) :=
  lv_if_le hx hb hdg ht (fun h => kt (by rw [← hX]; exact Int32.le_iff_toInt_le.mp h)) (fun h => kf (by rw [← hX]; have h : ¬ x.toInt ≤ (0 : Int32).toInt := fun q => h (Int32.le_iff_toInt_le.mpr q); have z : (0 : Int32).toInt = 0 := rfl; omega))
theorem bc_eq (hx : p.tables.exec = Jvm.exec) (hb : c.code = cc) {x y : Int32} {X Y : Int} (hX : x.toInt = X) (hY : y.toInt = Y) {off : Int} {tgt : Nat} (hdg : decode cc pc = .ok (.if_icmp .eq off, 3)) (ht : (pc : Int) + off = (tgt : Int))
    (kt : X = Y → W p l e R s m args below meth c H locs cells slots Q (F0 m tgt ls rest)) (kf : X ≠ Y → W p l e R s m args below meth c H locs cells slots Q (F0 m (pc + 3) ls rest)) : W p l e R s m args below meth c H locs cells slots Q (F0 m pc ls (.int y :: .int x :: rest)) :=
  lv_icmp_eq hx hb hdg ht (fun h => kt (by rw [← hX, ← hY, h])) (fun h => kf (fun q => h (Int32.toInt_inj.mp (by rw [hX, hY, q]))))
theorem bc_ne (hx : p.tables.exec = Jvm.exec) (hb : c.code = cc) {x y : Int32} {X Y : Int} (hX : x.toInt = X) (hY : y.toInt = Y) {off : Int} {tgt : Nat} (hdg : decode cc pc = .ok (.if_icmp .ne off, 3)) (ht : (pc : Int) + off = (tgt : Int))
    (kt : X ≠ Y → W p l e R s m args below meth c H locs cells slots Q (F0 m tgt ls rest)) (kf : X = Y → W p l e R s m args below meth c H locs cells slots Q (F0 m (pc + 3) ls rest)) : W p l e R s m args below meth c H locs cells slots Q (F0 m pc ls (.int y :: .int x :: rest)) :=
  lv_icmp_ne hx hb hdg ht (fun h => kt (fun q => h (Int32.toInt_inj.mp (by rw [hX, hY, q])))) (fun h => kf (by rw [← hX, ← hY, h]))
theorem bc_lt (hx : p.tables.exec = Jvm.exec) (hb : c.code = cc) {x y : Int32} {X Y : Int} (hX : x.toInt = X) (hY : y.toInt = Y) {off : Int} {tgt : Nat} (hdg : decode cc pc = .ok (.if_icmp .lt off, 3)) (ht : (pc : Int) + off = (tgt : Int))
    (kt : X < Y → W p l e R s m args below meth c H locs cells slots Q (F0 m tgt ls rest)) (kf : Y ≤ X → W p l e R s m args below meth c H locs cells slots Q (F0 m (pc + 3) ls rest)) : W p l e R s m args below meth c H locs cells slots Q (F0 m pc ls (.int y :: .int x :: rest)) :=
  lv_icmp_lt hx hb hdg ht (fun h => kt (by rw [← hX, ← hY]; exact Int32.lt_iff_toInt_lt.mp h)) (fun h => kf (by rw [← hX, ← hY]; have h : ¬ x.toInt < y.toInt := fun q => h (Int32.lt_iff_toInt_lt.mpr q); omega))
theorem bc_ge (hx : p.tables.exec = Jvm.exec) (hb : c.code = cc) {x y : Int32} {X Y : Int} (hX : x.toInt = X) (hY : y.toInt = Y) {off : Int} {tgt : Nat} (hdg : decode cc pc = .ok (.if_icmp .ge off, 3)) (ht : (pc : Int) + off = (tgt : Int))
    (kt : Y ≤ X → W p l e R s m args below meth c H locs cells slots Q (F0 m tgt ls rest)) (kf : X < Y → W p l e R s m args below meth c H locs cells slots Q (F0 m (pc + 3) ls rest)) : W p l e R s m args below meth c H locs cells slots Q (F0 m pc ls (.int y :: .int x :: rest)) :=
  lv_icmp_ge hx hb hdg ht (fun h => kt (by rw [← hX, ← hY]; exact Int32.le_iff_toInt_le.mp h)) (fun h => kf (by rw [← hX, ← hY]; have h : ¬ y.toInt ≤ x.toInt := fun q => h (Int32.le_iff_toInt_le.mpr q); omega))
theorem bc_gt (hx : p.tables.exec = Jvm.exec) (hb : c.code = cc) {x y : Int32} {X Y : Int} (hX : x.toInt = X) (hY : y.toInt = Y) {off : Int} {tgt : Nat} (hdg : decode cc pc = .ok (.if_icmp .gt off, 3)) (ht : (pc : Int) + off = (tgt : Int))
    (kt : Y < X → W p l e R s m args below meth c H locs cells slots Q (F0 m tgt ls rest)) (kf : X ≤ Y → W p l e R s m args below meth c H locs cells slots Q (F0 m (pc + 3) ls rest)) : W p l e R s m args below meth c H locs cells slots Q (F0 m pc ls (.int y :: .int x :: rest)) :=
  lv_icmp_gt hx hb hdg ht (fun h => kt (by rw [← hX, ← hY]; exact Int32.lt_iff_toInt_lt.mp h)) (fun h => kf (by rw [← hX, ← hY]; have h : ¬ y.toInt < x.toInt := fun q => h (Int32.lt_iff_toInt_lt.mpr q); omega))
theorem bc_le (hx : p.tables.exec = Jvm.exec) (hb : c.code = cc) {x y : Int32} {X Y : Int} (hX : x.toInt = X) (hY : y.toInt = Y) {off : Int} {tgt : Nat} (hdg : decode cc pc = .ok (.if_icmp .le off, 3)) (ht : (pc : Int) + off = (tgt : Int))
    (kt : X ≤ Y → W p l e R s m args below meth c H locs cells slots Q (F0 m tgt ls rest)) (kf : Y < X → W p l e R s m args below meth c H locs cells slots Q (F0 m (pc + 3) ls rest)) : W p l e R s m args below meth c H locs cells slots Q (F0 m pc ls (.int y :: .int x :: rest)) :=
  lv_icmp_le hx hb hdg ht (fun h => kt (by rw [← hX, ← hY]; exact Int32.le_iff_toInt_le.mp h)) (fun h => kf (by rw [← hX, ← hY]; have h : ¬ x.toInt ≤ y.toInt := fun q => h (Int32.le_iff_toInt_le.mpr q); omega))
variable {S : Type} {o : S → Option Value} {post : S → Prop} {w1 : S → va_W} {D : va_G} {A : Nat → Prop}
theorem ro_i {v : Int32} (hx : p.tables.exec = Jvm.exec) (hb : c.code = cc) (hr : meth.sig.returnType = some .int) (hlocks : meth.locks = false) (u : S) (ho : o u = some (.int v)) (hp : post u) (hP : va_P D vwCl (w1 u) H) (hD : va_D A (w1 u)) (hS : va_S A s.heap H locs) (hdg : decode cc pc = .ok (.ireturn, 1)) : W p l e R s m args below meth c H locs cells slots (MQ below (Qo o post (BW D A w1) A) args s cells slots A) (F0 m pc ls [.int v]) :=
  W.iret hx hb hr (fun t ht _ => ⟨⟨u, by rw [ho], hp, by rw [ht]; exact hP, hD⟩, hS.F ht⟩) hS.2.2 hdg hlocks
theorem ro_z {v : Int32} (hx : p.tables.exec = Jvm.exec) (hb : c.code = cc) (hr : meth.sig.returnType = some .boolean) (hn : narrow .boolean (.int v) = .int v) (hlocks : meth.locks = false) (u : S) (ho : o u = some (.int v)) (hp : post u) (hP : va_P D vwCl (w1 u) H) (hD : va_D A (w1 u)) (hS : va_S A s.heap H locs) (hdg : decode cc pc = .ok (.ireturn, 1)) : W p l e R s m args below meth c H locs cells slots (MQ below (Qo o post (BW D A w1) A) args s cells slots A) (F0 m pc ls [.int v]) :=
  W.zret hx hb hr hn (fun t ht _ => ⟨⟨u, by rw [ho], hp, by rw [ht]; exact hP, hD⟩, hS.F ht⟩) hS.2.2 hdg hlocks
theorem ro_l {v : Int64} (hx : p.tables.exec = Jvm.exec) (hb : c.code = cc) (hr : meth.sig.returnType = some .long) (hlocks : meth.locks = false) (u : S) (ho : o u = some (.long v)) (hp : post u) (hP : va_P D vwCl (w1 u) H) (hD : va_D A (w1 u)) (hS : va_S A s.heap H locs) (hdg : decode cc pc = .ok (.lreturn, 1)) : W p l e R s m args below meth c H locs cells slots (MQ below (Qo o post (BW D A w1) A) args s cells slots A) (F0 m pc ls [.long v]) :=
  W.lret hx hb hr (fun t ht _ => ⟨⟨u, by rw [ho], hp, by rw [ht]; exact hP, hD⟩, hS.F ht⟩) hS.2.2 hdg hlocks
theorem ro_v (hx : p.tables.exec = Jvm.exec) (hb : c.code = cc) (hr : meth.sig.returnType = none) (hlocks : meth.locks = false) (u : S) (ho : o u = none) (hp : post u) (hP : va_P D vwCl (w1 u) H) (hD : va_D A (w1 u)) (hS : va_S A s.heap H locs) (hdg : decode cc pc = .ok (.return_, 1)) : W p l e R s m args below meth c H locs cells slots (MQ below (Qo o post (BW D A w1) A) args s cells slots A) (F0 m pc ls []) :=
  W.vret hx hb hr (fun t ht _ => ⟨⟨u, by rw [ho], hp, by rw [ht]; exact hP, hD⟩, hS.F ht⟩) hS.2.2 hdg hlocks
theorem ro_a {v : Value} {cn : String} (hx : p.tables.exec = Jvm.exec) (hb : c.code = cc) (hr : meth.sig.returnType = some (.object cn)) (hv : v = .null ∨ ∃ a, v = .ref a) (hlocks : meth.locks = false) (u : S) (ho : o u = some v) (hp : post u) (hP : va_P D vwCl (w1 u) H) (hD : va_D A (w1 u)) (hS : va_S A s.heap H locs) (hdg : decode cc pc = .ok (.areturn, 1)) : W p l e R s m args below meth c H locs cells slots (MQ below (Qo o post (BW D A w1) A) args s cells slots A) (F0 m pc ls [v]) :=
  W.aret hx hb hr (Or.inl ⟨_, rfl⟩) hv (fun t ht _ => ⟨⟨u, by rw [ho], hp, by rw [ht]; exact hP, hD⟩, hS.F ht⟩) hS.2.2 hdg hlocks
variable {st0 : List Value} {a : Array Value} {A0 A1 : Nat → Prop} {H0 : Heap} {mc ms : Nat} {free : Addr → Prop} {B : S → State → Prop}
theorem callo (hr : va_Run p l e R s m args below meth c H locs cells slots mc ms (F0 m pc ls st0) rest (Qo o post B A1 a) free) (hS : va_S A0 H0 H locs) (hA : ∀ q, q < H.size → A1 q → A0 q) (hf : ∀ q, free q → A0 q)
    (kk : ∀ (u : S) (t : State) (H1 : Heap) (locs1 : List Loc), t.heap = H1 → post u → B u t → H.size ≤ H1.size → (∀ q : Nat, q < H.size → ¬ A1 q → H1[q]? = H[q]?) → va_S A0 H0 H1 locs1 → W p l e R s m args below meth c H1 locs1 (cells + mc) (slots + ms) Q (F0 m (pc + 3) ls ((o u).toList ++ rest))) : W p l e R s m args below meth c H locs cells slots Q (F0 m pc ls st0) := by
  intro T hT X
  obtain ⟨v, st₀, t, T', L, h0, X', hL, e1, e2, ⟨⟨u, hv, hp, hb⟩, hz, hk⟩, st⟩ := hr T hT X
  cases hv
  rw [h0] at hz hk
  obtain ⟨t2, a1, b1⟩ := kk u t T'.heap (locs ++ L) e1.symm hp hb (by rw [e1]; exact hz) (fun q h1 h2 => by rw [e1]; exact hk q h1 h2)
    ⟨Nat.le_trans hS.1 (by rw [e1]; exact hz), fun q h1 h2 => by rw [e1, hk q (Nat.lt_of_lt_of_le h1 hS.1) (fun z => h2 (hA q (Nat.lt_of_lt_of_le h1 hS.1) z))]; exact hS.2.1 q h1 h2, fun q hq => by
      rcases List.mem_append.mp hq with h | h
      · exact hS.2.2 q h
      · exact hf _ (hL q h)⟩ T' rfl X'
  exact ⟨t2, st t2 a1, b1⟩
/-- a call and the frame behind it -/
theorem callW {ws wc wr : va_W} (hP : va_P D vwCl ws H) (hD : va_D A0 ws) (hS : va_S A0 H0 H locs) (hA : ∀ q, H0.size ≤ q → A0 q) (isC isR : List Nat) (hC : isC.map (fun i => ws[i]?) = wc.map some) (hR : isR.map (fun i => ws[i]?) = wr.map some) (hn : va_nd isR = true) (hdis : ∀ i ∈ isR, i ∉ isC)
    (hr : va_Run p l e R s m args below meth c H locs cells slots mc ms (F0 m pc ls st0) rest (Qo o post (BW D (va_A wc H.size) w1) (va_A wc H.size) a) (va_A wc H.size))
    (kk : ∀ (u : S) (H1 : Heap) (locs1 : List Loc), post u → va_P D vwCl (wr ++ w1 u) H1 → va_D A0 (wr ++ w1 u) → va_S A0 H0 H1 locs1 → W p l e R s m args below meth c H1 locs1 (cells + mc) (slots + ms) Q (F0 m (pc + 3) ls ((o u).toList ++ rest))) : W p l e R s m args below meth c H locs cells slots Q (F0 m pc ls st0) := by
  have hF := va_free (wc := wc) hD hS hA isC hC
  refine callo hr hS (fun q _ h => hF q h) hF (fun u t H1 locs1 ht hp hB hz hk hS1 => ?_)
  obtain ⟨hP1, hD1⟩ := hB
  rw [ht] at hP1
  obtain ⟨hP2, hD2⟩ := va_join (wr := wr) hP hD isC isR hC hR hn hdis hk hF hP1 hD1
  exact kk u H1 locs1 hp hP2 hD2 hS1
variable {y : MethodName} {bytes : ByteArray} {maxL nL n index : Nat} {ret : Option FieldType} {wsc ws' : List Cond} {rm : Room} {Ts : List Cond} {own C host : String} {T : u_T} {N : Nat} {b : Addr} {As : List Value} {ty : List (ClassId × FieldType)}
theorem wP_of {ws wc : va_W} (hP : va_P D vwCl ws H) (isC : List Nat) (hC : isC.map (fun i => ws[i]?) = wc.map some) : va_P D vwCl wc H := fun k q hq => by
  have hz : (isC.map (fun i => ws[i]?))[k]? = some (some q) := by rw [hC, List.getElem?_map, hq]; rfl
  rw [List.getElem?_map] at hz
  obtain ⟨i, -, hi⟩ := Option.map_eq_some_iff.mp hz
  exact hP i q hi
theorem pre_at {ws wc : va_W} {av : List Value} (hK : KK D ty s) (hP : va_P D vwCl ws H) (hD : va_D A0 ws) (isC : List Nat) (hC : isC.map (fun i => ws[i]?) = wc.map some) (hnC : va_nd isC = true) : ∀ U : State, U.heap = H → s.WarmedH U.vm → va_Pc av (PreW D ty wc H.size) av.toArray U :=
  fun U hU hW => ⟨rfl, by rw [hU], by rw [hU]; exact wP_of hP isC hC, KK.warm hW hK, (hD.sub isC hnC hC).weaken (fun _ _ _ _ => trivial)⟩
theorem doV (hx : p.tables.exec = Jvm.exec) (hb : c.code = cc) (hml : c.maxLocals = nL) (hown : s.vm.findClass own = some m.cls) (hts : ∀ w ∈ Ts, w.before args s = true) (hK : KK D ty s)
    {ws wc wr : va_W} (hP : va_P D vwCl ws H) (hD : va_D A0 ws) (hS : va_S A0 H0 H locs) (hA : ∀ q, H0.size ≤ q → A0 q) (isC isR : List Nat) (hC : isC.map (fun i => ws[i]?) = wc.map some) (hR : isR.map (fun i => ws[i]?) = wr.map some) (hnC : va_nd isC = true) (hn : va_nd isR = true) (hdis : ∀ i ∈ isR, i ∉ isC)
    (q0 : Nat) {ci : Nat} {fs : List Value} (he : ws[q0]? = some (b, .inr (ci, fs))) (hc : vwCl[ci]? = some (C, T, N))
    (hM : Co l y wsc rm D ty (.ref b :: As) wc o post w1 mc ms) (hG : GoodIn Ts (wsV own index C y wsc)) (hw : wsc = Cond.code y bytes maxL ret :: ws') (hrc : rm.cells = mc) (hrs : rm.slots = ms)
    (hd : y.cls = C ∧ y.cls ≠ "java/lang/invoke/MethodHandle" ∧ y.cls ≠ "java/lang/invoke/VarHandle" ∧ (parseMethodDescriptor y.desc).map (fun d => d.parameters.length) = some n) (hrm : rm.frames + 1 ≤ R.frames ∧ 8 + (maxL + 11) + rm.locals ≤ R.locals)
    (hl : ls.size = nL) (hst : st0 = As.reverse ++ .ref b :: rest) (hAs : As.length = n) (hroom : (rest.map fun v => v.category).sum ≤ 8) (hdg : decode cc pc = .ok (.invokevirtual index, 3)) (hf : cells + mc ≤ R.cells ∧ slots + ms ≤ R.slots)
    (kk : ∀ (u : S) (H1 : Heap) (locs1 : List Loc), post u → va_P D vwCl (wr ++ w1 u) H1 → va_D A0 (wr ++ w1 u) → va_S A0 H0 H1 locs1 → W p l e R s m args below meth c H1 locs1 (cells + mc) (slots + ms) Q (F0 m (pc + 3) ls ((o u).toList ++ rest))) : W p l e R s m args below meth c H locs cells slots Q (F0 m pc ls st0) :=
  callW hP hD hS hA isC isR hC hR hn hdis (va_runV (As := As) (rest := rest) ⟨hx, hb, hml, hown, hts⟩ (hM H.size) (cwV n hts hG hw hrc hrs hd hrm) ⟨pre_blind, va_recv hK.1 hP hc he, pre_at hK hP hD isC hC hnC⟩ rfl hAs hl hst (lv_room hroom) hdg hf) kk
theorem doS (hx : p.tables.exec = Jvm.exec) (hb : c.code = cc) (hml : c.maxLocals = nL) (hown : s.vm.findClass own = some m.cls) (hts : ∀ w ∈ Ts, w.before args s = true) (hK : KK D ty s)
    {ws wc wr : va_W} (hP : va_P D vwCl ws H) (hD : va_D A0 ws) (hS : va_S A0 H0 H locs) (hA : ∀ q, H0.size ≤ q → A0 q) (isC isR : List Nat) (hC : isC.map (fun i => ws[i]?) = wc.map some) (hR : isR.map (fun i => ws[i]?) = wr.map some) (hnC : va_nd isC = true) (hn : va_nd isR = true) (hdis : ∀ i ∈ isR, i ∉ isC)
    (hM : Co l y wsc rm D ty As wc o post w1 mc ms) (hG : GoodIn Ts (wsS own index y wsc)) (hw : wsc = Cond.code y bytes maxL ret :: ws') (hrc : rm.cells = mc) (hrs : rm.slots = ms)
    (hd : y.cls = own ∧ y.cls ≠ "java/lang/invoke/MethodHandle" ∧ y.cls ≠ "java/lang/invoke/VarHandle" ∧ (parseMethodDescriptor y.desc).map (fun d => d.parameters.length) = some n) (hrm : rm.frames + 1 ≤ R.frames ∧ 8 + (maxL + 11) + rm.locals ≤ R.locals)
    (hl : ls.size = nL) (hst : st0 = As.reverse ++ rest) (hAs : As.length = n) (hroom : (rest.map fun v => v.category).sum ≤ 8) (hdg : decode cc pc = .ok (.invokestatic index, 3)) (hf : cells + mc ≤ R.cells ∧ slots + ms ≤ R.slots)
    (kk : ∀ (u : S) (H1 : Heap) (locs1 : List Loc), post u → va_P D vwCl (wr ++ w1 u) H1 → va_D A0 (wr ++ w1 u) → va_S A0 H0 H1 locs1 → W p l e R s m args below meth c H1 locs1 (cells + mc) (slots + ms) Q (F0 m (pc + 3) ls ((o u).toList ++ rest))) : W p l e R s m args below meth c H locs cells slots Q (F0 m pc ls st0) :=
  callW hP hD hS hA isC isR hC hR hn hdis (va_runS (As := As) (rest := rest) ⟨hx, hb, hml, hown, hts⟩ (hM H.size) (cwS n hts hG hw hrc hrs hd hrm) ⟨pre_blind, pre_at hK hP hD isC hC hnC⟩ rfl hAs hl hst (lv_room hroom) hdg hf) kk
theorem doN (hx : p.tables.exec = Jvm.exec) (hb : c.code = cc) (hml : c.maxLocals = nL) (hown : s.vm.findClass own = some m.cls) (hts : ∀ w ∈ Ts, w.before args s = true) (hK : KK D ty s)
    {ws wc wr : va_W} (hP : va_P D vwCl ws H) (hD : va_D A0 ws) (hS : va_S A0 H0 H locs) (hA : ∀ q, H0.size ≤ q → A0 q) (isC isR : List Nat) (hC : isC.map (fun i => ws[i]?) = wc.map some) (hR : isR.map (fun i => ws[i]?) = wr.map some) (hnC : va_nd isC = true) (hn : va_nd isR = true) (hdis : ∀ i ∈ isR, i ∉ isC)
    (hM : Co l y wsc rm D ty (.ref b :: As) wc o post w1 mc ms) (hG : GoodIn Ts wsc) (hw : wsc = Cond.code y bytes maxL none :: ws') (hrc : rm.cells = mc) (hrs : rm.slots = ms)
    (hln : va_Nw (.methodLinkNest own index y host) s) (hini : (Cond.initialized y.cls).before args s = true) (hin : (Cond.instanceMethod y).before args s = true) (hy1 : y.name = "<init>") (hd : y.cls ≠ "java/lang/invoke/MethodHandle" ∧ y.cls ≠ "java/lang/invoke/VarHandle" ∧ (parseMethodDescriptor y.desc).map (fun d => d.parameters.length) = some n) (hrm : rm.frames + 1 ≤ R.frames ∧ 8 + (maxL + 11) + rm.locals ≤ R.locals)
    (hl : ls.size = nL) (hst : st0 = As.reverse ++ .ref b :: rest) (hAs : As.length = n) (hroom : (rest.map fun v => v.category).sum ≤ 8) (hdg : decode cc pc = .ok (.invokespecial index, 3)) (hf : cells + mc ≤ R.cells ∧ slots + ms ≤ R.slots)
    (kk : ∀ (u : S) (H1 : Heap) (locs1 : List Loc), post u → va_P D vwCl (wr ++ w1 u) H1 → va_D A0 (wr ++ w1 u) → va_S A0 H0 H1 locs1 → W p l e R s m args below meth c H1 locs1 (cells + mc) (slots + ms) Q (F0 m (pc + 3) ls ((o u).toList ++ rest))) : W p l e R s m args below meth c H locs cells slots Q (F0 m pc ls st0) :=
  callW hP hD hS hA isC isR hC hR hn hdis (va_runIN (As := As) (rest := rest) ⟨hx, hb, hml, hown, hts⟩ (hM H.size) ⟨va_cnB n hts hG hw hrc hrs hln hini hd hrm, hy1, hin⟩ ⟨pre_blind, pre_at hK hP hD isC hC hnC⟩ rfl hAs hl hst (lv_room hroom) hdg hf) kk
theorem doI (hx : p.tables.exec = Jvm.exec) (hb : c.code = cc) (hml : c.maxLocals = nL) (hown : s.vm.findClass own = some m.cls) (hts : ∀ w ∈ Ts, w.before args s = true) (hK : KK D ty s)
    {ws wc wr : va_W} (hP : va_P D vwCl ws H) (hD : va_D A0 ws) (hS : va_S A0 H0 H locs) (hA : ∀ q, H0.size ≤ q → A0 q) (isC isR : List Nat) (hC : isC.map (fun i => ws[i]?) = wc.map some) (hR : isR.map (fun i => ws[i]?) = wr.map some) (hnC : va_nd isC = true) (hn : va_nd isR = true) (hdis : ∀ i ∈ isR, i ∉ isC)
    (hM : Co l y wsc rm D ty (.ref b :: As) wc o post w1 mc ms) (hG : GoodIn Ts wsc) (hw : wsc = Cond.code y bytes maxL none :: ws') (hrc : rm.cells = mc) (hrs : rm.slots = ms)
    (hln : (Cond.methodLink own index y).before args s = true) (hini : (Cond.initialized y.cls).before args s = true) (hin : (Cond.instanceMethod y).before args s = true) (hy1 : y.name = "<init>") (hd : y.cls ≠ "java/lang/invoke/MethodHandle" ∧ y.cls ≠ "java/lang/invoke/VarHandle" ∧ (parseMethodDescriptor y.desc).map (fun d => d.parameters.length) = some n) (hrm : rm.frames + 1 ≤ R.frames ∧ 8 + (maxL + 11) + rm.locals ≤ R.locals)
    (hl : ls.size = nL) (hst : st0 = As.reverse ++ .ref b :: rest) (hAs : As.length = n) (hroom : (rest.map fun v => v.category).sum ≤ 8) (hdg : decode cc pc = .ok (.invokespecial index, 3)) (hf : cells + mc ≤ R.cells ∧ slots + ms ≤ R.slots)
    (kk : ∀ (u : S) (H1 : Heap) (locs1 : List Loc), post u → va_P D vwCl (wr ++ w1 u) H1 → va_D A0 (wr ++ w1 u) → va_S A0 H0 H1 locs1 → W p l e R s m args below meth c H1 locs1 (cells + mc) (slots + ms) Q (F0 m (pc + 3) ls ((o u).toList ++ rest))) : W p l e R s m args below meth c H locs cells slots Q (F0 m pc ls st0) :=
  callW hP hD hS hA isC isR hC hR hn hdis (va_runI (As := As) (rest := rest) ⟨hx, hb, hml, hown, hts⟩ (hM H.size) (cwI n hts hG hw hrc hrs hini hln hin hy1 hd hrm) ⟨pre_blind, pre_at hK hP hD isC hC hnC⟩ rfl hAs hl hst (lv_room hroom) hdg hf) kk
end BB
/-- a method's start -/
theorem entry {S : Type} {l : Launch} {y : MethodName} {ws ws' : List Cond} {rm : Room} {D : va_G} {ty : List (ClassId × FieldType)} {av : List Value} {W0 : va_W} {o : S → Option Value} {post : S → Prop} {w1 : S → va_W} {mc ms : Nat} {cc : ByteArray} {maxL : Nat} {ret : Option FieldType} (hy : plainName y.cls = true) (hw : ws = Cond.code y cc maxL ret :: ws') (hn : (lg_sl av).length ≤ maxL)
    (body : ∀ (p : Program) (e : Env) (s : State) (m : MethodId) (below : List Frame) (meth : Method) (c : Code) (A : Nat → Prop) (ls : Array Slot), p.tables.exec = Jvm.exec → c.code = cc → meth.sig.returnType = ret → c.maxLocals = maxL → (∀ w ∈ ws, w.before av.toArray s = true) → s.vm.findClass y.cls = some m.cls → meth.locks = false → meth.name = y.name → KK D ty s → va_P D vwCl W0 s.heap → va_D A W0 → va_S A s.heap s.heap [] → (∀ q : Nat, s.heap.size ≤ q → A q) → lv_has ls maxL (lv_args 0 av) → W p l e rm s m av.toArray below meth c s.heap [] 0 0 (MQ below (Qo o post (BW D A w1) A) av.toArray s mc ms A) (F0 m 0 ls [])) : Co l y ws rm D ty av W0 o post w1 mc ms := by
  intro sz
  refine Met.ofW (cc := cc) (maxL := maxL) (ret := ret) hy hw ?_
  intro p e s m args below meth c s₁ B hml hv
  obtain ⟨rfl, hsz, hP, hK, hD0⟩ := hv
  subst hsz
  have hl := lv_entry av (n := maxL) hn
  rw [lg_entry_eq]
  exact body p e s m below meth c _ _ B.exec B.bytes B.returns hml (atoms_spec (ws := ws) B.pre) (findClass_of_methodNamed B.named) B.notSynchronized (name_of_methodNamed B.named B.method).1 hK hP hD0.self va_S.rf (fun q h => Or.inr h) hl
end
